/-! THE MODEL READS A TEXT: its loop -/
theorem Ps_nn {K V : Nat → Int} {law : Int} : ∀ f m o t, 0 ≤ (Ps K V law f m o t).1
  | 0, m, o, t => by show (0 : Int) ≤ 9; decide
  | f + 1, 0, o, t => by
    have h1 := Ps_nn (K := K) (V := V) (law := law) f 2 o t
    have h2 := Ps_nn (K := K) (V := V) (law := law) f 1 o (Ps K V law f 2 o t).2.1
    unfold Ps
    split
    · exact h2
    · exact h1
  | f + 1, 1, o, t => by
    have h1 := Ps_nn (K := K) (V := V) (law := law) f 2 o (t + 1)
    have h2 := Ps_nn (K := K) (V := V) (law := law) f 1 o (Ps K V law f 2 o (t + 1)).2.1
    unfold Ps
    split
    · split
      · exact h2
      · exact h1
    · exact Int.le_refl 0
  | f + 1, 2, o, t => by
    have h1 := Ps_nn (K := K) (V := V) (law := law) f 4 o t
    have h2 := Ps_nn (K := K) (V := V) (law := law) f 3 o (Ps K V law f 4 o t).2.1
    unfold Ps
    split
    · exact h2
    · exact h1
  | f + 1, 3, o, t => by
    have h1 := Ps_nn (K := K) (V := V) (law := law) f 4 o (t + 1)
    have h2 := Ps_nn (K := K) (V := V) (law := law) f 3 o (Ps K V law f 4 o (t + 1)).2.1
    unfold Ps
    split
    · split
      · exact h2
      · exact h1
    · exact Int.le_refl 0
  | f + 1, m + 4, o, t => by
    have h1 := Ps_nn (K := K) (V := V) (law := law) f 4 (o + 1) (t + 1)
    have h2 := Ps_nn (K := K) (V := V) (law := law) f 0 (o + 1) (t + 1)
    unfold Ps
    split
    · unfold lf
      split
      · split
        · show (0 : Int) ≤ 1; decide
        · split
          · show (0 : Int) ≤ 5; decide
          · exact Int.le_refl 0
      · split
        · show (0 : Int) ≤ 2; decide
        · exact Int.le_refl 0
    · split
      · show (0 : Int) ≤ 1; decide
      · split
        · show (0 : Int) ≤ 3; decide
        · split
          · split
            · exact Int.le_refl 0
            · exact h1
          · split
            · split
              · exact Int.le_refl 0
              · show (0 : Int) ≤ 1; decide
            · exact h2
theorem dd_nn {K V : Nat → Int} {k : Int} {t : Nat} : 0 ≤ (ddF K V k t).1 := by
  have n1 : ∀ a b t, 0 ≤ nbF K V a b t := fun a b t => by have := nbF_01 (K := K) (V := V) (a := a) (b := b) (t := t); omega
  have w1 : ∀ a t, 0 ≤ wdF K V a t := fun a t => by have := wdF_01 (K := K) (V := V) (a := a) (t := t); omega
  unfold ddF
  split
  · split
    · exact n1 _ _ _
    · split
      · exact w1 _ _
      · split
        · exact n1 _ _ _
        · split
          · exact w1 _ _
          · split
            · exact n1 _ _ _
            · exact Int.le_refl 0
  · split
    · split
      · exact n1 _ _ _
      · exact Int.le_refl 0
    · split
      · exact n1 _ _ _
      · exact Int.le_refl 0
theorem clF_nn {K V : Nat → Int} {F c t : Nat} {tld : Bool} : 0 ≤ (clF K V F tld c t).1 := by
  unfold clF
  split
  · split
    · show (0 : Int) ≤ 4; decide
    · split
      · show (0 : Int) ≤ 6; decide
      · split
        · split
          · split
            · exact Int.le_refl 0
            · show (0 : Int) ≤ 1; decide
          · exact Ps_nn _ _ _ _
        · split
          · split
            · exact Int.le_refl 0
            · show (0 : Int) ≤ 1; decide
          · exact dd_nn
  · show (0 : Int) ≤ 1; decide
theorem Tx_nn {K V : Nat → Int} {F : Nat} : ∀ n t acc, 0 ≤ (Tx K V F n t acc).1
  | 0, t, acc => Int.le_refl 0
  | n + 1, t, acc => by
    have h1 := Tx_nn (K := K) (V := V) (F := F) n
    unfold Tx
    split
    · exact Int.le_refl 0
    · split
      · exact h1 _ _
      · exact clF_nn
/-- a law is told once -/
def UNQ (acc : List Cz) : Prop := ∀ (k : Nat) (c : Cz), acc[k]? = some c → c.1 < 4 → lawOf acc c.1 = some c.2.2.2.2
theorem UNQ.app {acc : List Cz} {c : Cz} (h : UNQ acc) (hc : c.1 < 4 → lawOf acc c.1 = none) : UNQ (acc ++ [c]) := by
  intro k z hz h4
  rw [lawOf_app]
  by_cases q : k < acc.length
  · rw [List.getElem?_append_left q] at hz
    rw [h k z hz h4]
    rfl
  · have hi := (List.getElem?_eq_some_iff.mp hz).1
    rw [List.length_append, List.length_singleton] at hi
    obtain rfl : k = acc.length := by omega
    rw [List.getElem?_append_right (Nat.le_refl _), Nat.sub_self] at hz
    cases hz
    rw [hc h4, if_pos rfl]
    rfl
theorem Tx_unq {K V : Nat → Int} {F N : Nat} (hK : ∀ t, N ≤ t → K t = 0) : ∀ n t acc, UNQ acc → UNQ (Tx K V F n t acc).2.2
  | 0, t, acc, h => h
  | n + 1, t, acc, h => by
    unfold Tx
    split
    · exact h
    · split
      · rename_i h0
        refine Tx_unq hK n _ _ (h.app (fun h4 => ?_))
        have e1 : (mkC V t (clF K V F (lawOf acc (V t)).isSome acc.length t).2.2).1 = V t := by unfold mkC; split <;> rfl
        rw [e1] at h4 ⊢
        have := ((clF_ok hK h0).2.2.2.2 h4).1
        cases hl : lawOf acc (V t) with
        | none => rfl
        | some y => rw [hl] at this; simp at this
      · exact h
section MTEXT
variable {l : Launch} {w : Wd} {d : Nat} {Q : Option MV → Mem → Prop} {B : Nat → Int} {L F : Nat}
abbrev W133 (l : Launch) (w : Wd) (d : Nat) (Q : Option MV → Mem → Prop) (M : Mem) : Prop := WM l w RX9 cX9_text 3 (some .int) d Q 133 [some (vR 134), none, none] [] M
theorem lp_err {N : Mem} (h : N 134 19 ≠ 0) (k : W133 l w d Q N) : LPT l w d Q N := by
  refine e_aload0 dX9_text_74 ?_
  refine e_getI fl_X9_197 la_134 rfl dX9_text_75 ?_
  refine e_if_ne (tgt := 133) dX9_text_78 (by decide) (fun h78 => ?_) (fun h => absurd h (by omega))
  exact k
theorem lp_end {N : Mem} (h19 : N 134 19 = 0) (h27 : N 134 27 = 4) (h17 : N 134 17 = 0) (k : W133 l w d Q N) : LPT l w d Q N := by
  refine e_aload0 dX9_text_74 ?_
  refine e_getI fl_X9_197 la_134 rfl dX9_text_75 ?_
  refine WW.ec (y := 0) (h19) ?_
  refine e_if_ne (tgt := 133) dX9_text_78 (by decide) (fun h => absurd h (fun z => z rfl)) (fun h78 => ?_)
  refine e_aload0 dX9_text_81 ?_
  refine e_getI fl_X9_250 la_134 rfl dX9_text_82 ?_
  refine WW.ec (y := 4) (h27) ?_
  refine e_iconst dX9_text_85 rfl kc_4 ?_
  refine e_icmp_ne (tgt := 96) dX9_text_86 (by decide) (fun h => absurd h (fun z => z rfl)) (fun h86 => ?_)
  refine e_aload0 dX9_text_89 ?_
  refine e_getI fl_X9_180 la_134 rfl dX9_text_90 ?_
  refine e_if_eq (tgt := 133) dX9_text_93 (by decide) (fun h93 => ?_) (fun h => absurd h (by omega))
  exact k
theorem lp_clause {M : Mem} {PP : Mem → Prop} (hd : 7 ≤ d) (h19 : M 134 19 = 0) (h27 : M 134 27 = 4) (h17 : M 134 17 ≠ 0) (hc : GV l w yX9_clause cX9_clause 1 (d - 1) [vR 134] M PP) (k : ∀ N, PP N → LPT l w d Q N) : LPT l w d Q M := by
  refine e_aload0 dX9_text_74 ?_
  refine e_getI fl_X9_197 la_134 rfl dX9_text_75 ?_
  refine WW.ec (y := 0) (h19) ?_
  refine e_if_ne (tgt := 133) dX9_text_78 (by decide) (fun h => absurd h (fun z => z rfl)) (fun h78 => ?_)
  refine e_aload0 dX9_text_81 ?_
  refine e_getI fl_X9_250 la_134 rfl dX9_text_82 ?_
  refine WW.ec (y := 4) (h27) ?_
  refine e_iconst dX9_text_85 rfl kc_4 ?_
  refine e_icmp_ne (tgt := 96) dX9_text_86 (by decide) (fun h => absurd h (fun z => z rfl)) (fun h86 => ?_)
  refine e_aload0 dX9_text_89 ?_
  refine e_getI fl_X9_180 la_134 rfl dX9_text_90 ?_
  refine e_if_eq (tgt := 133) dX9_text_93 (by decide) (fun h => absurd h (by omega)) (fun h93 => ?_)
  refine e_aload0 dX9_text_96 ?_
  refine e_getI fl_X9_250 la_134 rfl dX9_text_97 ?_
  refine WW.ec (y := 4) (h27) ?_
  refine e_iconst dX9_text_100 rfl kc_1 ?_
  refine e_icmp_ne (tgt := 111) dX9_text_101 (by decide) (fun h101 => ?_) (fun h => absurd h (by decide))
  refine e_aload0 dX9_text_111 ?_
  refine e_getI fl_X9_250 la_134 rfl dX9_text_112 ?_
  refine WW.ec (y := 4) (h27) ?_
  refine e_iconst dX9_text_115 rfl kc_2 ?_
  refine e_icmp_ne (tgt := 126) dX9_text_116 (by decide) (fun h116 => ?_) (fun h => absurd h (by decide))
  refine e_aload0 dX9_text_126 ?_
  refine e_cVGV (hc) cy_X9_clause cv_X9_clause ml_X9_281 la_134 rfl rfl rfl (rok (by omega) (by decide)) (Nat.le_of_ble_eq_true rfl) dX9_text_127 (fun N hx => ?_)
  refine e_goto (tgt := 74) dX9_text_130 (by decide) ?_
  exact k N hx
theorem tx_loop (hd : 7 ≤ d) (hL : L ≤ 300) (hF : 4 * tkN B L + 3 ≤ F) {M0 : Mem} : ∀ (n t : Nat) (acc : List Cz) (E : List (Int × Int)) (M : Mem), FCl M0 M → MS B L M t [] [] E 0 → M 134 27 = 4 → NCL M E acc → acc.length ≤ 24 → t ≤ tkN B L → tkN B L + 1 ≤ n + t →
    ((Tx (tkK B L) (tkV B L) F n t acc).1 = 0 → ∀ N E', FCl M0 N → NCL N E' (Tx (tkK B L) (tkV B L) F n t acc).2.2 → EMI N E' → E'.length ≤ 300 → N 134 19 = 0 ∧ N 134 20 = -1 → W133 l w d Q N) →
    ((Tx (tkK B L) (tkV B L) F n t acc).1 ≠ 0 → ∀ N, FCl M0 N → ER B L N (Tx (tkK B L) (tkV B L) F n t acc).1 (Tx (tkK B L) (tkV B L) F n t acc).2.1 → W133 l w d Q N) → LPT l w d Q M
  | 0, t, acc, E, M, _, _, _, _, _, ht, hn, _, _ => by omega
  | n + 1, t, acc, E, M, hf, hm, h27, hN, hc, ht, hn, hS, hE => by
    have hNN : tkN B L ≤ 300 := Nat.le_trans (tk_all (B := B) (L := L)).1.2 hL
    have hK : ∀ t, tkN B L ≤ t → tkK B L t = 0 := fun t h => tkK_z h
    have h19 := hm.2.1.2.1.1
    have e : Tx (tkK B L) (tkV B L) F (n + 1) t acc = if tkK B L t = 0 then (0, t, acc) else if (clF (tkK B L) (tkV B L) F (lawOf acc (tkV B L t)).isSome acc.length t).1 = 0 then Tx (tkK B L) (tkV B L) F n (clF (tkK B L) (tkV B L) F (lawOf acc (tkV B L t)).isSome acc.length t).2.1 (acc ++ [mkC (tkV B L) t (clF (tkK B L) (tkV B L) F (lawOf acc (tkV B L t)).isSome acc.length t).2.2]) else ((clF (tkK B L) (tkV B L) F (lawOf acc (tkV B L t)).isSome acc.length t).1, (clF (tkK B L) (tkV B L) F (lawOf acc (tkV B L t)).isSome acc.length t).2.1, acc) := rfl
    rw [e] at hS hE
    have htk := hm.1.2.1
    by_cases k0 : tkK B L t = 0
    · rw [if_pos k0] at hS
      have hs : M 134 17 = 0 := by
        rcases htk with q | q | q | q | q
        · exact q.2
        · omega
        · omega
        · have := q.1; omega
        · omega
      have hac : E.length + 0 + 0 ≤ t := hm.2.2
      exact lp_end h19 h27 hs (hS rfl M E hf hN hm.2.1.2.2.2.2 (by omega) ⟨h19, hm.2.1.2.1.2.1⟩)
    · rw [if_neg k0] at hS hE
      have hs : M 134 17 ≠ 0 := by
        rcases htk with q | q | q | q | q
        · omega
        · have := q.2.1; omega
        · omega
        · have := q.2.1; omega
        · omega
      clear htk
      have ht1 : t + 1 ≤ tkN B L := by
        have : ¬ tkN B L ≤ t := fun z => k0 (hK t z)
        omega
      have err : ∀ (N : Mem) (f : Int) (tt : Nat), f ≠ 0 → FCl M0 N → ER B L N f tt → (clF (tkK B L) (tkV B L) F (lawOf acc (tkV B L t)).isSome acc.length t).1 = f → (clF (tkK B L) (tkV B L) F (lawOf acc (tkV B L t)).isSome acc.length t).2.1 = tt → LPT l w d Q N := by
        intro N f tt hf0 hfc hER e1 e2
        rw [if_neg (by rw [e1]; exact hf0)] at hE
        refine lp_err (by rw [hER.1]; exact hf0) (hE (by show (clF (tkK B L) (tkV B L) F (lawOf acc (tkV B L t)).isSome acc.length t).1 ≠ 0; rw [e1]; exact hf0) N hfc ?_)
        show ER B L N (clF (tkK B L) (tkV B L) F (lawOf acc (tkV B L t)).isSome acc.length t).1 (clF (tkK B L) (tkV B L) F (lawOf acc (tkV B L t)).isSome acc.length t).2.1
        rw [e1, e2]
        exact hER
      refine lp_clause hd h19 h27 hs (ct_clause (d := d - 1) (F := F) (by omega) hL hm hN hc ht k0) (fun N hx => ?_)
      obtain ⟨fc, hco⟩ := hx
      rcases hco with ⟨⟨⟨kk, v0, v4⟩, tl, c24⟩, n27, n29, nms, n28, n149, n150, nold⟩ | ⟨v4, r0, n27, nms, nncl, r2⟩ | ⟨r0, ner⟩
      · -- a law
        have hcl : clF (tkK B L) (tkV B L) F (lawOf acc (tkV B L t)).isSome acc.length t = (if (Ps (tkK B L) (tkV B L) (tkV B L t) F 0 0 (t + 1)).1 = 0 then (if tkK B L (Ps (tkK B L) (tkV B L) (tkV B L t) F 0 0 (t + 1)).2.1 = 59 then (0, (Ps (tkK B L) (tkV B L) (tkV B L t) F 0 0 (t + 1)).2.1 + 1, (Ps (tkK B L) (tkV B L) (tkV B L t) F 0 0 (t + 1)).2.2) else (1, (Ps (tkK B L) (tkV B L) (tkV B L t) F 0 0 (t + 1)).2.1, [])) else ((Ps (tkK B L) (tkV B L) (tkV B L t) F 0 0 (t + 1)).1, (Ps (tkK B L) (tkV B L) (tkV B L t) F 0 0 (t + 1)).2.1, [])) := by
          unfold clF
          rw [if_pos ⟨kk, v0, by omega⟩, tl, if_neg (fun z => absurd z.2 (by decide)), if_neg (by omega), if_pos v4]
        have h9 : (Ps (tkK B L) (tkV B L) (tkV B L t) F 0 0 (t + 1)).1 ≠ 9 := Ps_fuel hK F 0 0 (t + 1) ht1 (by unfold wgt; simp; omega)
        have ple := (Ps_ok (V := tkV B L) (law := tkV B L t) hK F 0 0 (t + 1) ht1).2.1
        refine (sums (l := l) (w := w) (d := d) (Q := Q) (B := B) (L := L) (law := tkV B L t) hd hL F).2.2.2.1 0 (t + 1) 1 [] [] E N nms n27 n29 (by decide) rfl (by decide) (fun y hy => by cases hy) (Nat.le_refl _) ht1 h9 (fun z N2 m a E2 g1 g2 g3 g4 g5 g6 g7 => ?_) (fun z N2 g1 g2 => ?_)
        · rw [if_pos z] at hcl
          have al : a.length ≤ 1 := by rcases g3 with z | ⟨_, _, z⟩ <;> rw [z] <;> simp
          have ml : m.length ≤ 1 := by rcases g2 with z | ⟨_, _, z⟩ <;> rw [z] <;> simp
          have fc2 : FCl M N2 := fc.tr g1.fcl
          have h28b : N2 134 28 = (acc.length : Int) := by rw [g1.2 28 (by decide) (by decide) (by decide) (by decide)]; exact n28
          by_cases k59 : tkK B L (Ps (tkK B L) (tkV B L) (tkV B L t) F 0 0 (t + 1)).2.1 = 59
          · rw [if_pos k59] at hcl
            rw [hcl] at hS hE
            rw [if_pos rfl] at hS hE
            refine lp_goesOn (by omega) g4.2.1.2.1.1 g5 (ct_goesOn_end (d := d - 1) (P := m ++ (a ++ [])) (by omega) hL (by omega) g4 k59 (fun y hy => ?_) (by rw [List.append_nil, List.length_append]; omega) (by rw [h28b]; omega)) (fun N3 hx3 => ?_)
            · rw [List.append_nil] at hy
              rcases List.mem_append.mp hy with q | q
              · rcases g2 with z | ⟨op, _, z⟩
                · rw [z] at q; cases q
                · rw [z] at q; rw [List.mem_singleton.mp q]; rfl
              · rcases g3 with z | ⟨op, _, z⟩
                · rw [z] at q; cases q
                · rw [z] at q; rw [List.mem_singleton.mp q]; rfl
            · obtain ⟨c1, c2, c3, c4, c5⟩ := hx3
              have eE : E2 ++ cds (m ++ (a ++ [])) = E ++ (Ps (tkK B L) (tkV B L) (tkV B L t) F 0 0 (t + 1)).2.2.map cd := by rw [← g6, List.append_nil, cds_app, List.append_assoc]
              rw [eE, List.append_assoc] at c5
              have fc3 : FCl N2 N3 := ⟨fun o a b => c1 o a (by omega) (by omega) (by omega), fun k a b c e f g => c2 k a b c e g⟩
              have ol3 : OLD M N3 acc.length := (nold.tr (fun o a b => g1.1 o (by omega) (by omega) (by omega) (by omega))).tr (fun o a b => c1 o (by omega) (by omega) (by omega) (by omega))
              have hmk : mkC (tkV B L) t (Ps (tkK B L) (tkV B L) (tkV B L t) F 0 0 (t + 1)).2.2 = (tkV B L t, -1, -1, -1, (Ps (tkK B L) (tkV B L) (tkV B L t) F 0 0 (t + 1)).2.2) := by unfold mkC; rw [if_pos v4]
              have hncl : NCL N3 (E ++ ((Ps (tkK B L) (tkV B L) (tkV B L t) F 0 0 (t + 1)).2.2.map cd ++ [(408, 0)])) (acc ++ [mkC (tkV B L) t (Ps (tkK B L) (tkV B L) (tkV B L t) F 0 0 (t + 1)).2.2]) := by
                refine hN.ext (by rw [c4, h28b]) ol3 ?_ ⟨E.length, ?_, ?_, fun _ => ⟨fun i x hx => ?_, ?_⟩⟩ (fun z => ?_) (fun z => ?_)
                · rw [hmk, c1 149 (by decide) (by decide) (by decide) (by decide), g1.1 149 (by decide) (by decide) (by decide) (by decide)]; exact n149
                · rw [c1 150 (by decide) (by decide) (by decide) (by decide), g1.1 150 (by decide) (by decide) (by decide) (by decide)]; exact n150
                · rw [List.length_append, List.length_append]; show _ < _ + (_ + 1); omega
                · rw [hmk] at hx
                  have hx2 : (Ps (tkK B L) (tkV B L) (tkV B L t) F 0 0 (t + 1)).2.2[i]? = some x := hx
                  have hi := (List.getElem?_eq_some_iff.mp hx2).1
                  rw [List.getElem?_append_right (by omega), show E.length + i - E.length = i by omega, List.getElem?_append_left (by rw [List.length_map]; exact hi), List.getElem?_map, hx2]
                  rfl
                · rw [hmk]
                  show (E ++ _)[E.length + (Ps (tkK B L) (tkV B L) (tkV B L t) F 0 0 (t + 1)).2.2.length]? = _
                  rw [List.getElem?_append_right (by omega), List.getElem?_append_right (by rw [List.length_map]; omega), List.length_map, show E.length + (Ps (tkK B L) (tkV B L) (tkV B L t) F 0 0 (t + 1)).2.2.length - E.length - (Ps (tkK B L) (tkV B L) (tkV B L t) F 0 0 (t + 1)).2.2.length = 0 by omega]
                  rfl
                · rw [hmk] at z; exact absurd z (by show ¬ (4 : Int) ≤ tkV B L t; omega)
                · rw [hmk] at z; exact absurd z (by show ¬ tkV B L t = (4 : Int); omega)
              have tle : (Ps (tkK B L) (tkV B L) (tkV B L t) F 0 0 (t + 1)).2.1 + 1 ≤ tkN B L := by
                have : ¬ tkN B L ≤ (Ps (tkK B L) (tkV B L) (tkV B L t) F 0 0 (t + 1)).2.1 := fun z => by rw [hK _ z] at k59; exact absurd k59 (by decide)
                omega
              have tge := (Ps_ok (V := tkV B L) (law := tkV B L t) hK F 0 0 (t + 1) ht1).1
              exact tx_loop hd hL hF n _ _ _ N3 ((hf.tr fc2).tr fc3) c5 c3 hncl (by rw [List.length_append]; show _ + 1 ≤ 24; omega) tle (by omega) hS hE
          · rw [if_neg k59] at hcl
            exact lp_goesOn (by omega) g4.2.1.2.1.1 g5 (ct_goesOn_err (d := d - 1) (by omega) g4 (by decide) g7 (fun y => absurd y.1 (by decide)) (fun y => k59 y.2)) (fun N3 hx3 => err N3 1 _ (by decide) ((hf.tr fc2).tr hx3.1.fcl) hx3.2 (by rw [hcl]) (by rw [hcl]))
        · rw [if_neg z] at hcl
          exact err N2 _ _ z ((hf.tr fc).tr g1.fcl) g2 (by rw [hcl]) (by rw [hcl])
      · -- a deed
        have hok := clF_ok hK r0
        rw [if_pos r0] at hS hE
        rw [r2] at hS hE
        exact tx_loop hd hL hF n _ _ _ N (hf.tr fc) nms n27 nncl (by rw [List.length_append]; show _ + 1 ≤ 24; have := hok.2.2.2.1; omega) hok.1.2 (by have := hok.1.1; omega) hS hE
      · exact err N _ _ r0 (hf.tr fc) ner rfl rfl
end MTEXT
