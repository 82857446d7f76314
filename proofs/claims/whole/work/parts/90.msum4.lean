/-! THE MODEL'S MACHINE DOES WHAT THE LANGUAGE SAYS -/
abbrev LPT (l : Launch) (w : Wd) (d : Nat) (Q : Option MV → Mem → Prop) (M : Mem) : Prop := WM l w RX9 cX9_text 3 (some .int) d Q 74 [some (vR 134), none, none] [] M
abbrev okm (D : Nat) (m : List (Int × Int)) : Prop := m = [] ∨ ∃ op : Int, (op = 42 ∨ op = 47) ∧ m = [(op, (D : Int))]
abbrev oka (D : Nat) (m : List (Int × Int)) : Prop := m = [] ∨ ∃ op : Int, (op = 43 ∨ op = 45) ∧ m = [(op, (D : Int))]
abbrev cds (P : List (Int × Int)) : List (Int × Int) := P.map (fun x => (x.1, 0))
theorem cds_op {k : Int} (h : k = 43 ∨ k = 45 ∨ k = 42 ∨ k = 47) (D : Int) : cds [(k, D)] = [cd (opc k)] := by
  rcases h with rfl | rfl | rfl | rfl <;> rfl
theorem cds_app (a b : List (Int × Int)) : cds (a ++ b) = cds a ++ cds b := List.map_append
section MSUM4
variable {l : Launch} {w : Wd} {d : Nat} {Q : Option MV → Mem → Prop} {B : Nat → Int} {L : Nat} {law : Int}
theorem lp_begins {M : Mem} {PP : Mem → Prop} (hd : 6 ≤ d) (h19 : M 134 19 = 0) (h27 : M 134 27 = 1) (hc : GV l w yX9_begins cX9_begins 2 (d - 1) [vR 134] M PP) (k : ∀ N, PP N → LPT l w d Q N) : LPT l w d Q M := by
  refine e_aload0 dX9_text_74 ?_
  refine e_getI fl_X9_197 la_134 rfl dX9_text_75 ?_
  refine WW.ec (y := 0) (h19) ?_
  refine e_if_ne (tgt := 133) dX9_text_78 (by decide) (fun h => absurd h (fun z => z rfl)) (fun h78 => ?_)
  refine e_aload0 dX9_text_81 ?_
  refine e_getI fl_X9_250 la_134 rfl dX9_text_82 ?_
  refine WW.ec (y := 1) (h27) ?_
  refine e_iconst dX9_text_85 rfl kc_4 ?_
  refine e_icmp_ne (tgt := 96) dX9_text_86 (by decide) (fun h86 => ?_) (fun h => absurd h (by decide))
  refine e_aload0 dX9_text_96 ?_
  refine e_getI fl_X9_250 la_134 rfl dX9_text_97 ?_
  refine WW.ec (y := 1) (h27) ?_
  refine e_iconst dX9_text_100 rfl kc_1 ?_
  refine e_icmp_ne (tgt := 111) dX9_text_101 (by decide) (fun h => absurd h (fun z => z rfl)) (fun h101 => ?_)
  refine e_aload0 dX9_text_104 ?_
  refine e_cVGV (hc) cy_X9_begins cv_X9_begins ml_X9_275 la_134 rfl rfl rfl (rok (by omega) (by decide)) (Nat.le_of_ble_eq_true rfl) dX9_text_105 (fun N hx => ?_)
  refine e_goto (tgt := 74) dX9_text_108 (by decide) ?_
  exact k N hx
theorem lp_goesOn {M : Mem} {PP : Mem → Prop} (hd : 7 ≤ d) (h19 : M 134 19 = 0) (h27 : M 134 27 = 2) (hc : GV l w yX9_goesOn cX9_goesOn 2 (d - 1) [vR 134] M PP) (k : ∀ N, PP N → LPT l w d Q N) : LPT l w d Q M := by
  refine e_aload0 dX9_text_74 ?_
  refine e_getI fl_X9_197 la_134 rfl dX9_text_75 ?_
  refine WW.ec (y := 0) (h19) ?_
  refine e_if_ne (tgt := 133) dX9_text_78 (by decide) (fun h => absurd h (fun z => z rfl)) (fun h78 => ?_)
  refine e_aload0 dX9_text_81 ?_
  refine e_getI fl_X9_250 la_134 rfl dX9_text_82 ?_
  refine WW.ec (y := 2) (h27) ?_
  refine e_iconst dX9_text_85 rfl kc_4 ?_
  refine e_icmp_ne (tgt := 96) dX9_text_86 (by decide) (fun h86 => ?_) (fun h => absurd h (by decide))
  refine e_aload0 dX9_text_96 ?_
  refine e_getI fl_X9_250 la_134 rfl dX9_text_97 ?_
  refine WW.ec (y := 2) (h27) ?_
  refine e_iconst dX9_text_100 rfl kc_1 ?_
  refine e_icmp_ne (tgt := 111) dX9_text_101 (by decide) (fun h101 => ?_) (fun h => absurd h (by decide))
  refine e_aload0 dX9_text_111 ?_
  refine e_getI fl_X9_250 la_134 rfl dX9_text_112 ?_
  refine WW.ec (y := 2) (h27) ?_
  refine e_iconst dX9_text_115 rfl kc_2 ?_
  refine e_icmp_ne (tgt := 126) dX9_text_116 (by decide) (fun h => absurd h (fun z => z rfl)) (fun h116 => ?_)
  refine e_aload0 dX9_text_119 ?_
  refine e_cVGV (hc) cy_X9_goesOn cv_X9_goesOn ml_X9_278 la_134 rfl rfl rfl (rok (by omega) (by decide)) (Nat.le_of_ble_eq_true rfl) dX9_text_120 (fun N hx => ?_)
  refine e_goto (tgt := 74) dX9_text_123 (by decide) ?_
  exact k N hx
theorem MS.st {M : Mem} {t o : Nat} {fr : List Int} {W E : List (Int × Int)} {v : Int} (h : MS B L M t fr W E o) : MS B L (up M 134 27 v) t fr W E o := ⟨h.1.fr (fun k a b => up_k (by omega)), h.2.1.u (by omega), h.2.2⟩
theorem Psne {r r1 : Int × Nat × List Int} (h : r1.1 ≠ 0 → r = r1) (h9 : r.1 ≠ 9) : r1.1 ≠ 9 := fun z => h9 (by rw [h (by rw [z]; decide)]; exact z)
theorem sums (hd : 7 ≤ d) (hL : L ≤ 300) : ∀ f : Nat,
    (∀ (o t : Nat) (fr : List Int) (W E : List (Int × Int)) (M : Mem), MS B L M t fr W E o → M 134 27 = 1 → M 134 29 = law → hasB fr → fr.length = o + 1 → o ≤ 8 → (∀ y ∈ W, y.2 ≤ (fr.length : Int)) → W.length ≤ 2 * fr.length → t ≤ tkN B L → (Ps (tkK B L) (tkV B L) law f 4 o t).1 ≠ 9 →
      ((Ps (tkK B L) (tkV B L) law f 4 o t).1 = 0 → ∀ N, FS M N → MS B L N (Ps (tkK B L) (tkV B L) law f 4 o t).2.1 fr W (E ++ (Ps (tkK B L) (tkV B L) law f 4 o t).2.2.map cd) o → LPT l w d Q (ovF fr N)) →
      ((Ps (tkK B L) (tkV B L) law f 4 o t).1 ≠ 0 → ∀ N, FS M N → ER B L N (Ps (tkK B L) (tkV B L) law f 4 o t).1 (Ps (tkK B L) (tkV B L) law f 4 o t).2.1 → LPT l w d Q N) → LPT l w d Q M) ∧
    (∀ (o t : Nat) (x : Int) (fr : List Int) (a W E : List (Int × Int)) (M : Mem), MS B L M t (x :: fr) (a ++ W) E o → M 134 27 = 1 → M 134 29 = law → x ≠ 7 → fr.length = o → o ≤ 8 → oka (fr.length + 1) a → (∀ y ∈ W, y.2 < ((fr.length + 1 : Nat) : Int)) → W.length ≤ 2 * fr.length → t ≤ tkN B L → (Ps (tkK B L) (tkV B L) law f 2 o t).1 ≠ 9 →
      ((Ps (tkK B L) (tkV B L) law f 2 o t).1 = 0 → ∀ N m E', FS M N → okm (fr.length + 1) m → MS B L N (Ps (tkK B L) (tkV B L) law f 2 o t).2.1 (x :: fr) (m ++ (a ++ W)) E' o → N 134 27 = 2 → E' ++ cds m = E ++ (Ps (tkK B L) (tkV B L) law f 2 o t).2.2.map cd → ¬ (tkK B L (Ps (tkK B L) (tkV B L) law f 2 o t).2.1 = 42 ∨ tkK B L (Ps (tkK B L) (tkV B L) law f 2 o t).2.1 = 47) → LPT l w d Q N) →
      ((Ps (tkK B L) (tkV B L) law f 2 o t).1 ≠ 0 → ∀ N, FS M N → ER B L N (Ps (tkK B L) (tkV B L) law f 2 o t).1 (Ps (tkK B L) (tkV B L) law f 2 o t).2.1 → LPT l w d Q N) → LPT l w d Q M) ∧
    (∀ (o t : Nat) (x : Int) (fr : List Int) (m a W E : List (Int × Int)) (M : Mem), MS B L M t (x :: fr) (m ++ (a ++ W)) E o → M 134 27 = 2 → M 134 29 = law → x ≠ 7 → fr.length = o → o ≤ 8 → okm (fr.length + 1) m → oka (fr.length + 1) a → (∀ y ∈ W, y.2 < ((fr.length + 1 : Nat) : Int)) → W.length ≤ 2 * fr.length → t ≤ tkN B L → (Ps (tkK B L) (tkV B L) law f 3 o t).1 ≠ 9 →
      ((Ps (tkK B L) (tkV B L) law f 3 o t).1 = 0 → ∀ N m' E', FS M N → okm (fr.length + 1) m' → MS B L N (Ps (tkK B L) (tkV B L) law f 3 o t).2.1 (x :: fr) (m' ++ (a ++ W)) E' o → N 134 27 = 2 → E' ++ cds m' = (E ++ cds m) ++ (Ps (tkK B L) (tkV B L) law f 3 o t).2.2.map cd → ¬ (tkK B L (Ps (tkK B L) (tkV B L) law f 3 o t).2.1 = 42 ∨ tkK B L (Ps (tkK B L) (tkV B L) law f 3 o t).2.1 = 47) → LPT l w d Q N) →
      ((Ps (tkK B L) (tkV B L) law f 3 o t).1 ≠ 0 → ∀ N, FS M N → ER B L N (Ps (tkK B L) (tkV B L) law f 3 o t).1 (Ps (tkK B L) (tkV B L) law f 3 o t).2.1 → LPT l w d Q N) → LPT l w d Q M) ∧
    (∀ (o t : Nat) (x : Int) (fr : List Int) (W E : List (Int × Int)) (M : Mem), MS B L M t (x :: fr) W E o → M 134 27 = 1 → M 134 29 = law → x ≠ 7 → fr.length = o → o ≤ 8 → (∀ y ∈ W, y.2 < ((fr.length + 1 : Nat) : Int)) → W.length ≤ 2 * fr.length → t ≤ tkN B L → (Ps (tkK B L) (tkV B L) law f 0 o t).1 ≠ 9 →
      ((Ps (tkK B L) (tkV B L) law f 0 o t).1 = 0 → ∀ N m a E', FS M N → okm (fr.length + 1) m → oka (fr.length + 1) a → MS B L N (Ps (tkK B L) (tkV B L) law f 0 o t).2.1 (x :: fr) (m ++ (a ++ W)) E' o → N 134 27 = 2 → E' ++ cds m ++ cds a = E ++ (Ps (tkK B L) (tkV B L) law f 0 o t).2.2.map cd → ¬ (tkK B L (Ps (tkK B L) (tkV B L) law f 0 o t).2.1 = 43 ∨ tkK B L (Ps (tkK B L) (tkV B L) law f 0 o t).2.1 = 45 ∨ tkK B L (Ps (tkK B L) (tkV B L) law f 0 o t).2.1 = 42 ∨ tkK B L (Ps (tkK B L) (tkV B L) law f 0 o t).2.1 = 47) → LPT l w d Q N) →
      ((Ps (tkK B L) (tkV B L) law f 0 o t).1 ≠ 0 → ∀ N, FS M N → ER B L N (Ps (tkK B L) (tkV B L) law f 0 o t).1 (Ps (tkK B L) (tkV B L) law f 0 o t).2.1 → LPT l w d Q N) → LPT l w d Q M) ∧
    (∀ (o t : Nat) (x : Int) (fr : List Int) (m a W E : List (Int × Int)) (M : Mem), MS B L M t (x :: fr) (m ++ (a ++ W)) E o → M 134 27 = 2 → M 134 29 = law → x ≠ 7 → fr.length = o → o ≤ 8 → okm (fr.length + 1) m → oka (fr.length + 1) a → (∀ y ∈ W, y.2 < ((fr.length + 1 : Nat) : Int)) → W.length ≤ 2 * fr.length → t ≤ tkN B L → ¬ (tkK B L t = 42 ∨ tkK B L t = 47) → (Ps (tkK B L) (tkV B L) law f 1 o t).1 ≠ 9 →
      ((Ps (tkK B L) (tkV B L) law f 1 o t).1 = 0 → ∀ N m' a' E', FS M N → okm (fr.length + 1) m' → oka (fr.length + 1) a' → MS B L N (Ps (tkK B L) (tkV B L) law f 1 o t).2.1 (x :: fr) (m' ++ (a' ++ W)) E' o → N 134 27 = 2 → E' ++ cds m' ++ cds a' = (E ++ cds m ++ cds a) ++ (Ps (tkK B L) (tkV B L) law f 1 o t).2.2.map cd → ¬ (tkK B L (Ps (tkK B L) (tkV B L) law f 1 o t).2.1 = 43 ∨ tkK B L (Ps (tkK B L) (tkV B L) law f 1 o t).2.1 = 45 ∨ tkK B L (Ps (tkK B L) (tkV B L) law f 1 o t).2.1 = 42 ∨ tkK B L (Ps (tkK B L) (tkV B L) law f 1 o t).2.1 = 47) → LPT l w d Q N) →
      ((Ps (tkK B L) (tkV B L) law f 1 o t).1 ≠ 0 → ∀ N, FS M N → ER B L N (Ps (tkK B L) (tkV B L) law f 1 o t).1 (Ps (tkK B L) (tkV B L) law f 1 o t).2.1 → LPT l w d Q N) → LPT l w d Q M) := by
  have hK : ∀ t, tkN B L ≤ t → tkK B L t = 0 := fun t h => tkK_z h
  have hN : tkN B L ≤ 300 := Nat.le_trans (tk_all (B := B) (L := L)).1.2 hL
  intro f
  induction f with
  | zero =>
    refine ⟨?_, ?_, ?_, ?_, ?_⟩
    · intro o t fr W E M _ _ _ _ _ _ _ _ _ h9; exact absurd rfl h9
    · intro o t x fr a W E M _ _ _ _ _ _ _ _ _ _ h9; exact absurd rfl h9
    · intro o t x fr m a W E M _ _ _ _ _ _ _ _ _ _ _ h9; exact absurd rfl h9
    · intro o t x fr W E M _ _ _ _ _ _ _ _ _ h9; exact absurd rfl h9
    · intro o t x fr m a W E M _ _ _ _ _ _ _ _ _ _ _ _ h9; exact absurd rfl h9
  | succ f ih =>
    obtain ⟨s4, s2, s3, s0, s1⟩ := ih
    have lt1 : ∀ t, tkK B L t ≠ 0 → t ≤ tkN B L → t + 1 ≤ tkN B L := fun t h _ => by
      have : ¬ tkN B L ≤ t := fun z => h (hK t z)
      omega
    have ple : ∀ m o t, t ≤ tkN B L → (Ps (tkK B L) (tkV B L) law f m o t).2.1 ≤ tkN B L := fun m o t h => (Ps_ok (V := tkV B L) (law := law) hK f m o t h).2.1
    refine ⟨?_, ?_, ?_, ?_, ?_⟩
    · -- one
      intro o t fr W E M hm h27 h29 hb hfl ho hW hWl ht h9 hS hE
      have e : Ps (tkK B L) (tkV B L) law (f + 1) 4 o t = if tkK B L t = 1 ∨ tkK B L t = 2 then lf (tkK B L) (tkV B L) law t
        else if ¬ (tkK B L t = 40 ∨ tkK B L t = 45) then (1, t, [])
        else if 8 ≤ o then (3, t, [])
        else if tkK B L t = 45 then (if (Ps (tkK B L) (tkV B L) law f 4 (o + 1) (t + 1)).1 = 0 then (0, (Ps (tkK B L) (tkV B L) law f 4 (o + 1) (t + 1)).2.1, (Ps (tkK B L) (tkV B L) law f 4 (o + 1) (t + 1)).2.2 ++ [10012]) else Ps (tkK B L) (tkV B L) law f 4 (o + 1) (t + 1))
        else if (Ps (tkK B L) (tkV B L) law f 0 (o + 1) (t + 1)).1 = 0 then (if tkK B L (Ps (tkK B L) (tkV B L) law f 0 (o + 1) (t + 1)).2.1 = 41 then (0, (Ps (tkK B L) (tkV B L) law f 0 (o + 1) (t + 1)).2.1 + 1, (Ps (tkK B L) (tkV B L) law f 0 (o + 1) (t + 1)).2.2) else (1, (Ps (tkK B L) (tkV B L) law f 0 (o + 1) (t + 1)).2.1, []))
        else Ps (tkK B L) (tkV B L) law f 0 (o + 1) (t + 1) := rfl
      rw [e] at h9 hS hE
      have h19 := hm.2.1.2.1.1
      by_cases k12 : tkK B L t = 1 ∨ tkK B L t = 2
      · rw [if_pos k12] at h9 hS hE
        by_cases q : (lf (tkK B L) (tkV B L) law t).1 = 0
        · have hl := (lf_ok (K := tkK B L) (V := tkV B L) (law := law) (t := t)).2.2.2 q
          refine lp_begins (by omega) h19 h27 (ct_begins_leaf (d := d - 1) (by omega) hL (by omega) hm h29 hb hfl ho k12 q) (fun N hx => ?_)
          obtain ⟨N2, g1, g2, g3⟩ := hx
          rw [g3]
          rw [hl.1] at hS
          exact hS q N2 g1 g2
        · have hl := (lf_ok (K := tkK B L) (V := tkV B L) (law := law) (t := t))
          have e2 : (lf (tkK B L) (tkV B L) law t).2.1 = t := by
            unfold lf at q ⊢
            split at q
            · rename_i z
              rw [if_pos z]
              split at q
              · rename_i z2; rw [if_pos z2]
              · rename_i z2
                rw [if_neg z2]
                split at q
                · rename_i z3; rw [if_pos z3]
                · exact absurd rfl q
            · rename_i z
              rw [if_neg z]
              split at q
              · rename_i z2; rw [if_pos z2]
              · exact absurd rfl q
          rw [e2] at hE
          exact lp_begins (by omega) h19 h27 (ct_begins_err (d := d - 1) (by omega) hm h29 (Or.inl ⟨k12, rfl, q⟩)) (fun N hx => hE q N hx.1 hx.2)
      · rw [if_neg k12] at h9 hS hE
        by_cases k4 : ¬ (tkK B L t = 40 ∨ tkK B L t = 45)
        · rw [if_pos k4] at hE
          exact lp_begins (by omega) h19 h27 (ct_begins_err (d := d - 1) (by omega) hm h29 (Or.inr (Or.inl ⟨k12, k4, rfl⟩))) (fun N hx => hE n10 N hx.1 hx.2)
        · rw [if_neg k4] at h9 hS hE
          have k4' : tkK B L t = 40 ∨ tkK B L t = 45 := by omega
          by_cases o8 : 8 ≤ o
          · rw [if_pos o8] at hE
            exact lp_begins (by omega) h19 h27 (ct_begins_err (d := d - 1) (by omega) hm h29 (Or.inr (Or.inr ⟨k4', by omega, rfl⟩))) (fun N hx => hE n30 N hx.1 hx.2)
          · rw [if_neg o8] at h9 hS hE
            have ht1 := lt1 t (by omega) ht
            by_cases k45 : tkK B L t = 45
            · rw [if_pos k45] at h9 hS hE
              refine lp_begins (by omega) h19 h27 (ct_begins_open (d := d - 1) (f := 7) (by omega) hL hm hfl (by omega) (Or.inr ⟨k45, rfl⟩)) (fun N hx => ?_)
              obtain ⟨f1, f2, f3⟩ := hx
              refine s4 (o + 1) (t + 1) (7 :: fr) W E N f3 (f2.trans h27) (by rw [f1.2 29 (by decide) (by decide) (by decide) (by decide)]; exact h29) (Or.inr hb) (by rw [List.length_cons, hfl]) (by omega) (fun y hy => by have := hW y hy; rw [List.length_cons]; omega) (by rw [List.length_cons]; omega) ht1 (Psne (fun z => if_neg z) h9) (fun z N2 g1 g2 => ?_) (fun z => by rw [if_neg z] at hE; exact fun N2 g1 g2 => hE z N2 (f1.tr g1) g2)
              rw [if_pos z] at hS
              have e2 : ovF (7 :: fr) N2 = ovF fr (emM (up (up N2 134 22 (N2 134 22 - 1)) 134 21 (N2 134 21 - 1)) 402 0) := by show (if (7 : Int) = 7 then _ else _) = _; rw [if_pos rfl]
              rw [e2]
              obtain ⟨c1, c2, c3⟩ := g2
              have m1 : MB B L (up N2 134 22 (N2 134 22 - 1)) fr W _ (o + 1) := c2.pf (by rw [c2.2.2.1.1]; show ((fr.length + 1 : Nat) : Int) - 1 = _; omega)
              have m2 : MB B L (up (up N2 134 22 (N2 134 22 - 1)) 134 21 (N2 134 21 - 1)) fr W _ o := m1.o (by rw [c2.2.1.2.2]; omega)
              refine hS rfl _ (((f1.tr g1).u (by omega)).u (by omega)).em ⟨c1.fr (fun k p q => by unfold emM; rw [up_k (by omega), up_o (by decide), up_o (by decide), up_k (by omega), up_k (by omega)]), ?_, ?_⟩
              · rw [List.map_append, ← List.append_assoc]
                exact m2.em
              · rw [List.length_cons] at c3
                rw [List.map_append, ← List.append_assoc, List.length_append]
                show _ + 1 + _ + _ ≤ (Ps (tkK B L) (tkV B L) law f 4 (o + 1) (t + 1)).2.1
                omega
            · rw [if_neg k45] at h9 hS hE
              have k40 : tkK B L t = 40 := by omega
              refine lp_begins (by omega) h19 h27 (ct_begins_open (d := d - 1) (f := 6) (by omega) hL hm hfl (by omega) (Or.inl ⟨k40, rfl⟩)) (fun N hx => ?_)
              obtain ⟨f1, f2, f3⟩ := hx
              refine s0 (o + 1) (t + 1) 6 fr W E N f3 (f2.trans h27) (by rw [f1.2 29 (by decide) (by decide) (by decide) (by decide)]; exact h29) (by decide) hfl (by omega) (fun y hy => by have := hW y hy; omega) hWl ht1 (Psne (fun z => if_neg z) h9) (fun z N2 m a E2 g1 g2 g3 g4 g5 g6 g7 => ?_) (fun z => by rw [if_neg z] at hE; exact fun N2 g1 g2 => hE z N2 (f1.tr g1) g2)
              rw [if_pos z] at hS hE
              have al : a.length ≤ 1 := by rcases g3 with z | ⟨_, _, z⟩ <;> rw [z] <;> simp
              have ml : m.length ≤ 1 := by rcases g2 with z | ⟨_, _, z⟩ <;> rw [z] <;> simp
              have tle := ple 0 (o + 1) (t + 1) ht1
              by_cases k41 : tkK B L (Ps (tkK B L) (tkV B L) law f 0 (o + 1) (t + 1)).2.1 = 41
              · rw [if_pos k41] at hS
                have g4b := g4
                rw [← List.append_assoc] at g4b
                refine lp_goesOn (by omega) g4.2.1.2.1.1 g5 (ct_goesOn_close (d := d - 1) (P := m ++ a) (R := W) (by omega) hL (by omega) g4b hb hfl ho k41 (fun y hy => ?_) (fun y hy => ?_) (by rw [List.length_append]; omega) (by omega)) (fun N3 hx3 => ?_)
                · rcases List.mem_append.mp hy with q | q
                  · rcases g2 with z | ⟨op, _, z⟩
                    · rw [z] at q; cases q
                    · rw [z] at q; rw [List.mem_singleton.mp q]; rfl
                  · rcases g3 with z | ⟨op, _, z⟩
                    · rw [z] at q; cases q
                    · rw [z] at q; rw [List.mem_singleton.mp q]; rfl
                · have := hW y (List.mem_of_head? hy)
                  rw [List.length_cons]
                  omega
                · obtain ⟨N4, p1, p2, p3⟩ := hx3
                  rw [p3]
                  refine hS rfl N4 ((f1.tr g1).tr p1) ?_
                  rw [← g6]
                  rw [show E2 ++ cds m ++ cds a = E2 ++ List.map (fun x => (x.1, 0)) (m ++ a) by rw [List.map_append, List.append_assoc]]
                  exact p2
              · rw [if_neg k41] at hE
                exact lp_goesOn (by omega) g4.2.1.2.1.1 g5 (ct_goesOn_err (d := d - 1) (by omega) g4 (by omega) g7 (fun y => k41 y.2) (fun y => absurd y.1 (by decide))) (fun N3 hx3 => hE n10 N3 ((f1.tr g1).tr hx3.1) hx3.2)
    · -- product
      intro o t x fr a W E M hm h27 h29 hx7 hfl ho ha hW hWl ht h9 hS hE
      have e : Ps (tkK B L) (tkV B L) law (f + 1) 2 o t = if (Ps (tkK B L) (tkV B L) law f 4 o t).1 = 0 then ((Ps (tkK B L) (tkV B L) law f 3 o (Ps (tkK B L) (tkV B L) law f 4 o t).2.1).1, (Ps (tkK B L) (tkV B L) law f 3 o (Ps (tkK B L) (tkV B L) law f 4 o t).2.1).2.1, (Ps (tkK B L) (tkV B L) law f 4 o t).2.2 ++ (Ps (tkK B L) (tkV B L) law f 3 o (Ps (tkK B L) (tkV B L) law f 4 o t).2.1).2.2) else Ps (tkK B L) (tkV B L) law f 4 o t := rfl
      rw [e] at h9 hS hE
      have al : a.length ≤ 1 := by rcases ha with z | ⟨_, _, z⟩ <;> rw [z] <;> simp
      refine s4 o t (x :: fr) (a ++ W) E M hm h27 h29 (Or.inl hx7) (by rw [List.length_cons, hfl]) ho (fun y hy => ?_) (by rw [List.length_append, List.length_cons]; omega) ht (Psne (fun z => if_neg z) h9) (fun z N hf hn => ?_) (fun z => by rw [if_neg z] at hE; exact hE z)
      · rw [List.length_cons]
        rcases List.mem_append.mp hy with q | q
        · rcases ha with z | ⟨op, _, z⟩
          · rw [z] at q; cases q
          · rw [z] at q
            rw [List.mem_singleton.mp q]
            exact Int.le_refl _
        · have := hW y q; omega
      · rw [if_pos z] at h9 hS hE
        have e2 : ovF (x :: fr) N = up N 134 27 2 := by show (if x = 7 then _ else _) = _; rw [if_neg hx7]
        rw [e2]
        have hf2 : FS M (up N 134 27 2) := hf.u (by omega)
        refine s3 o _ x fr [] a W _ (up N 134 27 2) hn.st (up_s _ _ _ _) (by rw [hf2.2 29 (by decide) (by decide) (by decide) (by decide)]; exact h29) hx7 hfl ho (Or.inl rfl) ha hW hWl (ple 4 o t ht) h9 (fun z2 N' m' E' g1 g2 g3 g4 g5 g6 => hS z2 N' m' E' (hf2.tr g1) g2 g3 g4 ?_ g6) (fun z2 N' g1 g2 => hE z2 N' (hf2.tr g1) g2)
        rw [g5]
        show (E ++ _ ++ []) ++ _ = E ++ List.map cd (_ ++ _)
        rw [List.append_nil, List.map_append, List.append_assoc]
    · -- product's loop
      intro o t x fr m a W E M hm h27 h29 hx7 hfl ho hmm ha hW hWl ht h9 hS hE
      have e : Ps (tkK B L) (tkV B L) law (f + 1) 3 o t = if tkK B L t = 42 ∨ tkK B L t = 47 then (if (Ps (tkK B L) (tkV B L) law f 4 o (t + 1)).1 = 0 then ((Ps (tkK B L) (tkV B L) law f 3 o (Ps (tkK B L) (tkV B L) law f 4 o (t + 1)).2.1).1, (Ps (tkK B L) (tkV B L) law f 3 o (Ps (tkK B L) (tkV B L) law f 4 o (t + 1)).2.1).2.1, ((Ps (tkK B L) (tkV B L) law f 4 o (t + 1)).2.2 ++ [opc (tkK B L t)]) ++ (Ps (tkK B L) (tkV B L) law f 3 o (Ps (tkK B L) (tkV B L) law f 4 o (t + 1)).2.1).2.2) else Ps (tkK B L) (tkV B L) law f 4 o (t + 1)) else (0, t, []) := rfl
      rw [e] at h9 hS hE
      have al : a.length ≤ 1 := by rcases ha with z | ⟨_, _, z⟩ <;> rw [z] <;> simp
      have ml : m.length ≤ 1 := by rcases hmm with z | ⟨_, _, z⟩ <;> rw [z] <;> simp
      by_cases kt : tkK B L t = 42 ∨ tkK B L t = 47
      · rw [if_pos kt] at h9 hS hE
        have rk4 : rk (tkK B L t) = 4 := by unfold rk; rw [if_neg (by omega)]
        refine lp_goesOn (by omega) hm.2.1.2.1.1 h27 (ct_goesOn_op (d := d - 1) (P := m) (R := a ++ W) (by omega) hL (by omega) hm (by omega) (by omega) (fun y hy => ?_) (fun y hy => ?_) (by omega) (by rw [List.length_append]; omega)) (fun N hx => ?_)
        · rcases hmm with z | ⟨op, q, z⟩
          · rw [z] at hy; cases hy
          · rw [z] at hy
            rw [List.mem_singleton.mp hy, rk4]
            refine ⟨rfl, ?_⟩
            show 4 ≤ rk op
            unfold rk
            rw [if_neg (by omega)]
            omega
        · intro z
          rw [rk4] at z
          rcases ha with q | ⟨op, q, q2⟩
          · rw [q] at hy
            have hy2 := List.mem_of_head? hy
            have := hW y hy2
            have := z.1
            rw [List.length_cons] at this
            omega
          · rw [q2] at hy
            cases hy
            have := z.2
            unfold rk at this
            rw [if_pos (by exact q)] at this
            omega
        · obtain ⟨f1, f2, f3⟩ := hx
          refine s4 o (t + 1) (x :: fr) _ _ N f3 f2 (by rw [f1.2 29 (by decide) (by decide) (by decide) (by decide)]; exact h29) (Or.inl hx7) (by rw [List.length_cons, hfl]) ho (fun y hy => ?_) (by rw [List.length_cons, List.length_append, List.length_cons]; omega) (lt1 t (by omega) ht) (Psne (fun z => if_neg z) h9) (fun z N2 g1 g2 => ?_) (fun z => by rw [if_neg z] at hE; exact fun N2 g1 g2 => hE z N2 (f1.tr g1) g2)
          · rcases List.mem_cons.mp hy with q | q
            · rw [q]; exact Int.le_refl _
            · rcases List.mem_append.mp q with q | q
              · rcases ha with z | ⟨op, _, z⟩
                · rw [z] at q; cases q
                · rw [z] at q
                  rw [List.mem_singleton.mp q, List.length_cons]
                  exact Int.le_refl _
              · have := hW y q; rw [List.length_cons]; omega
          · rw [if_pos z] at h9 hS hE
            have e2 : ovF (x :: fr) N2 = up N2 134 27 2 := by show (if x = 7 then _ else _) = _; rw [if_neg hx7]
            rw [e2]
            have hf2 : FS M (up N2 134 27 2) := (f1.tr g1).u (by omega)
            refine s3 o _ x fr [(tkK B L t, ((x :: fr).length : Int))] a W _ (up N2 134 27 2) g2.st (up_s _ _ _ _) (by rw [hf2.2 29 (by decide) (by decide) (by decide) (by decide)]; exact h29) hx7 hfl ho (Or.inr ⟨tkK B L t, kt, rfl⟩) ha hW hWl (ple 4 o (t + 1) (lt1 t (by omega) ht)) h9 (fun z2 N' m' E' p1 p2 p3 p4 p5 p6 => hS z2 N' m' E' (hf2.tr p1) p2 p3 p4 ?_ p6) (fun z2 N' p1 p2 => hE z2 N' (hf2.tr p1) p2)
            rw [p5, cds_op (by omega)]
            show ((E ++ cds m ++ _) ++ _) ++ _ = (E ++ cds m) ++ List.map cd ((_ ++ [opc (tkK B L t)]) ++ _)
            rw [List.map_append, List.map_append]
            simp only [List.append_assoc, List.map_cons, List.map_nil]
      · rw [if_neg kt] at hS
        exact hS rfl M m E (FS.rf M) hmm hm h27 (by rw [List.map_nil, List.append_nil]) kt
    · -- sum
      intro o t x fr W E M hm h27 h29 hx7 hfl ho hW hWl ht h9 hS hE
      have e : Ps (tkK B L) (tkV B L) law (f + 1) 0 o t = if (Ps (tkK B L) (tkV B L) law f 2 o t).1 = 0 then ((Ps (tkK B L) (tkV B L) law f 1 o (Ps (tkK B L) (tkV B L) law f 2 o t).2.1).1, (Ps (tkK B L) (tkV B L) law f 1 o (Ps (tkK B L) (tkV B L) law f 2 o t).2.1).2.1, (Ps (tkK B L) (tkV B L) law f 2 o t).2.2 ++ (Ps (tkK B L) (tkV B L) law f 1 o (Ps (tkK B L) (tkV B L) law f 2 o t).2.1).2.2) else Ps (tkK B L) (tkV B L) law f 2 o t := rfl
      rw [e] at h9 hS hE
      refine s2 o t x fr [] W E M hm h27 h29 hx7 hfl ho (Or.inl rfl) hW hWl ht (Psne (fun z => if_neg z) h9) (fun z N m E' g1 g2 g3 g4 g5 g6 => ?_) (fun z => by rw [if_neg z] at hE; exact hE z)
      rw [if_pos z] at h9 hS hE
      refine s1 o _ x fr m [] W E' N g3 g4 (by rw [g1.2 29 (by decide) (by decide) (by decide) (by decide)]; exact h29) hx7 hfl ho g2 (Or.inl rfl) hW hWl (ple 2 o t ht) g6 h9 (fun z2 N' m' a' E'' p1 p2 p3 p4 p5 p6 p7 => hS z2 N' m' a' E'' (g1.tr p1) p2 p3 p4 p5 ?_ p7) (fun z2 N' p1 p2 => hE z2 N' (g1.tr p1) p2)
      rw [p6, g5]
      show (E ++ _ ++ []) ++ _ = E ++ List.map cd (_ ++ _)
      rw [List.append_nil, List.map_append, List.append_assoc]
    · -- sum's loop
      intro o t x fr m a W E M hm h27 h29 hx7 hfl ho hmm ha hW hWl ht hk4 h9 hS hE
      have e : Ps (tkK B L) (tkV B L) law (f + 1) 1 o t = if tkK B L t = 43 ∨ tkK B L t = 45 then (if (Ps (tkK B L) (tkV B L) law f 2 o (t + 1)).1 = 0 then ((Ps (tkK B L) (tkV B L) law f 1 o (Ps (tkK B L) (tkV B L) law f 2 o (t + 1)).2.1).1, (Ps (tkK B L) (tkV B L) law f 1 o (Ps (tkK B L) (tkV B L) law f 2 o (t + 1)).2.1).2.1, ((Ps (tkK B L) (tkV B L) law f 2 o (t + 1)).2.2 ++ [opc (tkK B L t)]) ++ (Ps (tkK B L) (tkV B L) law f 1 o (Ps (tkK B L) (tkV B L) law f 2 o (t + 1)).2.1).2.2) else Ps (tkK B L) (tkV B L) law f 2 o (t + 1)) else (0, t, []) := rfl
      rw [e] at h9 hS hE
      have al : a.length ≤ 1 := by rcases ha with z | ⟨_, _, z⟩ <;> rw [z] <;> simp
      have ml : m.length ≤ 1 := by rcases hmm with z | ⟨_, _, z⟩ <;> rw [z] <;> simp
      by_cases kt : tkK B L t = 43 ∨ tkK B L t = 45
      · rw [if_pos kt] at h9 hS hE
        have rk3 : rk (tkK B L t) = 3 := by unfold rk; rw [if_pos kt]
        have hm2 := hm
        rw [← List.append_assoc] at hm2
        refine lp_goesOn (by omega) hm.2.1.2.1.1 h27 (ct_goesOn_op (d := d - 1) (P := m ++ a) (R := W) (by omega) hL (by omega) hm2 (by omega) (by omega) (fun y hy => ?_) (fun y hy => ?_) (by rw [List.length_append]; omega) (by omega)) (fun N hx => ?_)
        · rw [rk3]
          have h3 : ∀ z : Int, 3 ≤ rk z := fun z => by unfold rk; split <;> omega
          rcases List.mem_append.mp hy with q | q
          · rcases hmm with z | ⟨op, _, z⟩
            · rw [z] at q; cases q
            · rw [z] at q; rw [List.mem_singleton.mp q]; exact ⟨rfl, h3 _⟩
          · rcases ha with z | ⟨op, _, z⟩
            · rw [z] at q; cases q
            · rw [z] at q; rw [List.mem_singleton.mp q]; exact ⟨rfl, h3 _⟩
        · intro z
          have := hW y (List.mem_of_head? hy)
          have := z.1
          rw [List.length_cons] at this
          omega
        · obtain ⟨f1, f2, f3⟩ := hx
          refine s2 o (t + 1) x fr [(tkK B L t, ((x :: fr).length : Int))] W _ N f3 f2 (by rw [f1.2 29 (by decide) (by decide) (by decide) (by decide)]; exact h29) hx7 hfl ho (Or.inr ⟨tkK B L t, kt, rfl⟩) hW hWl (lt1 t (by omega) ht) (Psne (fun z => if_neg z) h9) (fun z N2 m2 E2 g1 g2 g3 g4 g5 g6 => ?_) (fun z => by rw [if_neg z] at hE; exact fun N2 g1 g2 => hE z N2 (f1.tr g1) g2)
          rw [if_pos z] at h9 hS hE
          refine s1 o _ x fr m2 [(tkK B L t, ((x :: fr).length : Int))] W E2 N2 g3 g4 (by rw [(f1.tr g1).2 29 (by decide) (by decide) (by decide) (by decide)]; exact h29) hx7 hfl ho g2 (Or.inr ⟨tkK B L t, kt, rfl⟩) hW hWl (ple 2 o (t + 1) (lt1 t (by omega) ht)) g6 h9 (fun z2 N' m' a' E'' p1 p2 p3 p4 p5 p6 p7 => hS z2 N' m' a' E'' ((f1.tr g1).tr p1) p2 p3 p4 p5 ?_ p7) (fun z2 N' p1 p2 => hE z2 N' ((f1.tr g1).tr p1) p2)
          rw [p6, g5, cds_op (by omega)]
          show ((E ++ cds (m ++ a) ++ _) ++ _) ++ _ = (E ++ cds m ++ cds a) ++ List.map cd ((_ ++ [opc (tkK B L t)]) ++ _)
          rw [List.map_append, List.map_append, cds_app]
          simp only [List.append_assoc, List.map_cons, List.map_nil]
      · rw [if_neg kt] at hS
        exact hS rfl M m a E (FS.rf M) hmm ha hm h27 (by rw [List.map_nil, List.append_nil]) (by
          show ¬ (tkK B L t = 43 ∨ tkK B L t = 45 ∨ tkK B L t = 42 ∨ tkK B L t = 47)
          omega)
end MSUM4
