/-! THE MODEL'S LAW, told -/
/-- the model's text t holds these clauses -/
def MSC (t : Nat) (M : Mem) (acc : List Cz) : Prop := M 138 t = acc.length ∧ ∀ (k : Nat) (c : Cz), acc[k]? = some c → M 139 (24 * t + k) = c.1 ∧ (c.1 < 4 → (∃ p : Nat, M 140 (24 * t + k) = p ∧ ORD (M 144) (M 145) p c.2.2.2.2 ∧ 400 * t ≤ p ∧ p + c.2.2.2.2.length < 400 * t + 400) ∧ lawOf acc c.1 = some c.2.2.2.2) ∧ (4 ≤ c.1 → M 141 (24 * t + k) = c.2.1) ∧ (c.1 = 4 → M 142 (24 * t + k) = c.2.2.1 ∧ M 143 (24 * t + k) = c.2.2.2.1)
/-- the texts of class and model -/
def TXS (G M : Mem) : Prop := (0 ≤ G 1 15 ∧ G 1 15 ≤ 4) ∧ (G 1 16 = -1 ∨ isT G (G 1 16)) ∧ ∀ t : Nat, (t : Int) < G 1 15 → ∃ acc, (SCR t G acc ∧ G (90 + 6 * t) 1 ≤ 300) ∧ accOk acc ∧ MSC t M acc
theorem lwR_C {j : Nat} {G : Mem} {acc : List Cz} {w : Nat} (hw : w < 4) (h : SCR j G acc) : (if 0 < G (93 + 6 * j) w then some (seg (G (91 + 6 * j)) (G (92 + 6 * j) w).toNat (G (93 + 6 * j) w - G (92 + 6 * j) w).toNat) else none) = lawOf acc w := by
  have hl := h.2.2 w hw
  cases e : lawOf acc w with
  | none =>
    rw [e] at hl
    have : G (93 + 6 * j) w = 0 := hl
    rw [if_neg (by omega)]
  | some cs =>
    rw [e] at hl
    obtain ⟨a1, a2, a3, a4, a5⟩ := hl
    rw [if_pos (by omega), show (G (93 + 6 * j) w - G (92 + 6 * j) w).toNat = cs.length by omega, a5]
theorem TxOk_of {j : Nat} {G : Mem} {acc : List Cz} (h : SCR j G acc) (h3 : G (90 + 6 * j) 1 ≤ 300) (ha : accOk acc) : TxOk G j := by
  intro w hw h0
  have hC := lwR_C hw h
  have hl := h.2.2 w hw
  cases e : lawOf acc w with
  | none =>
    rw [e] at hl
    have : G (93 + 6 * j) w = 0 := hl
    omega
  | some cs =>
    rw [e, if_pos h0] at hC
    rw [e] at hl
    obtain ⟨a1, a2, a3, a4, a5⟩ := hl
    refine ⟨by omega, ?_⟩
    rw [Option.some.inj hC]
    unfold lawOf at e
    cases e2 : acc.find? (fun c => c.1 == (w : Int)) with
    | none => rw [e2] at e; cases e
    | some c =>
      rw [e2] at e
      have hc : c.2.2.2.2 = cs := Option.some.inj e
      have hm := List.mem_of_find?_eq_some e2
      have hk : (c.1 == (w : Int)) = true := List.find?_some (p := fun c : Cz => c.1 == (w : Int)) e2
      have hk2 : c.1 = (w : Int) := by simpa using hk
      rw [← hc]
      exact (ha.2 c hm).2 (by omega)
theorem TXS.C {G M : Mem} (h : TXS G M) {t : Nat} (ht : G 1 16 = t) (htt : (t : Int) < G 1 15) : ∃ acc, (∀ w, w < 4 → lawC G w = lawOf acc w) ∧ accOk acc ∧ MSC t M acc := by
  obtain ⟨acc, ⟨h1, h2⟩, h3, h4⟩ := h.2.2 t htt
  refine ⟨acc, fun w hw => ?_, h3, h4⟩
  rw [← lwR_C hw h1]
  unfold lawC isT
  rw [ht, Int.toNat_natCast]
  by_cases q : 0 < G (93 + 6 * t) w
  · rw [if_pos ⟨⟨by omega, htt⟩, q⟩, if_pos q]
  · rw [if_neg (fun z => q z.2), if_neg q]
theorem lawOf_none {acc : List Cz} {w : Int} (h : ∀ (k : Nat) (c : Cz), acc[k]? = some c → c.1 ≠ w) : lawOf acc w = none := by
  unfold lawOf
  rw [List.find?_eq_none.mpr]
  · rfl
  · intro c hc
    obtain ⟨k, hk⟩ := List.getElem?_of_mem hc
    simpa using h k c hk
section MLAW2
variable {l : Launch} {w : Wd} {d : Nat} {M : Mem} {Q : Option MV → Mem → Prop}
/-- what ordersOf finds -/
def FND (M : Mem) (o : Option (List Int)) (x : Int) : Prop := (o = none ∧ x = -1) ∨ ∃ cs, ∃ p : Nat, o = some cs ∧ x = p ∧ ORD (M 144) (M 145) p cs
theorem oo_loop {t u : Nat} {acc : List Cz} (ht : t < 4) (hu : u < 4) (h3 : M 135 3 = t) (hS : MSC t M acc) (hl : acc.length ≤ 24) (hQ : ∀ x, FND M (lawOf acc u) x → Q (some (vI x)) M) : ∀ (q i : Nat) (x : Int) (x4 : Option MV), i + q = acc.length → ((x = -1 ∧ ∀ k, k < i → ∀ c : Cz, acc[k]? = some c → c.1 ≠ u) ∨ ∃ k c, acc[k]? = some c ∧ c.1 = (u : Int) ∧ x = M 140 (24 * t + k)) → WM l w RX9 cX9_ordersOf 5 (some .int) d Q 4 [some (vR 134), some (vI (u : Int)), some (vI x), some (vI (i : Int)), x4] [] M
  | 0, i, x, x4, hi, hx => by
    have hq : FND M (lawOf acc u) x := by
      rcases hx with ⟨rfl, hn⟩ | ⟨k, c, hk, hc, rfl⟩
      · exact Or.inl ⟨lawOf_none (fun k c hk => hn k (by have := (List.getElem?_eq_some_iff.mp hk).1; omega) c hk), rfl⟩
      · have := (hS.2 k c hk).2.1 (by omega)
        obtain ⟨⟨p, hp, hO, _⟩, hlw⟩ := this
        exact Or.inr ⟨c.2.2.2.2, p, by rw [← hc]; exact hlw, hp, hO⟩
    refine e_aload0 dX9_ordersOf_4 ?_
    refine e_getR fl_X9_7 la_134 rfl dX9_ordersOf_5 ?_
    refine e_iconst dX9_ordersOf_8 rfl kc_3 ?_
    refine e_ialdK (k := 3) la_135 (by decide) (rfl) dX9_ordersOf_9 ?_
    refine WW.ec (y := (t : Int)) (h3) ?_
    refine e_iconst dX9_ordersOf_10 rfl kc_m1 ?_
    refine e_icmp_eq (tgt := 71) dX9_ordersOf_11 (by decide) (fun h11 => ?_) (fun h11 => ?_)
    · refine e_iload2 dX9_ordersOf_71 ?_
      refine e_iret dX9_ordersOf_72 ?_
      exact hQ x hq
    · refine e_iload3 dX9_ordersOf_14 ?_
      refine e_aload0 dX9_ordersOf_15 ?_
      refine e_getR fl_X9_27 la_134 rfl dX9_ordersOf_16 ?_
      refine e_aload0 dX9_ordersOf_19 ?_
      refine e_getR fl_X9_7 la_134 rfl dX9_ordersOf_20 ?_
      refine e_iconst dX9_ordersOf_23 rfl kc_3 ?_
      refine e_ialdK (k := 3) la_135 (by decide) (rfl) dX9_ordersOf_24 ?_
      refine WW.ec (y := (t : Int)) (h3) ?_
      refine e_ialdK (k := t) la_138 (by omega) (by omega) dX9_ordersOf_25 ?_
      refine WW.ec (y := (acc.length : Int)) (hS.1) ?_
      refine e_icmp_ge (tgt := 71) dX9_ordersOf_26 (by decide) (fun h26 => ?_) (fun h26 => ?_)
      · refine e_iload2 dX9_ordersOf_71 ?_
        refine e_iret dX9_ordersOf_72 ?_
        exact hQ x hq
      · omega
  | q + 1, i, x, x4, hi, hx => by
    obtain ⟨c, hc⟩ : ∃ c, acc[i]? = some c := ⟨_, List.getElem?_eq_getElem (by omega)⟩
    have hm := hS.2 i c hc
    have ih1 := oo_loop ht hu h3 hS hl hQ q (i + 1) (M 140 (24 * t + i)) (some (vI ((24 * t + i : Nat) : Int))) (by omega)
    have ih2 := oo_loop ht hu h3 hS hl hQ q (i + 1) x (some (vI ((24 * t + i : Nat) : Int))) (by omega)
    refine e_aload0 dX9_ordersOf_4 ?_
    refine e_getR fl_X9_7 la_134 rfl dX9_ordersOf_5 ?_
    refine e_iconst dX9_ordersOf_8 rfl kc_3 ?_
    refine e_ialdK (k := 3) la_135 (by decide) (rfl) dX9_ordersOf_9 ?_
    refine WW.ec (y := (t : Int)) (h3) ?_
    refine e_iconst dX9_ordersOf_10 rfl kc_m1 ?_
    refine e_icmp_eq (tgt := 71) dX9_ordersOf_11 (by decide) (fun h11 => ?_) (fun h11 => ?_)
    · omega
    · refine e_iload3 dX9_ordersOf_14 ?_
      refine e_aload0 dX9_ordersOf_15 ?_
      refine e_getR fl_X9_27 la_134 rfl dX9_ordersOf_16 ?_
      refine e_aload0 dX9_ordersOf_19 ?_
      refine e_getR fl_X9_7 la_134 rfl dX9_ordersOf_20 ?_
      refine e_iconst dX9_ordersOf_23 rfl kc_3 ?_
      refine e_ialdK (k := 3) la_135 (by decide) (rfl) dX9_ordersOf_24 ?_
      refine WW.ec (y := (t : Int)) (h3) ?_
      refine e_ialdK (k := t) la_138 (by omega) (by omega) dX9_ordersOf_25 ?_
      refine WW.ec (y := (acc.length : Int)) (hS.1) ?_
      refine e_icmp_ge (tgt := 71) dX9_ordersOf_26 (by decide) (fun h26 => ?_) (fun h26 => ?_)
      · omega
      · refine e_bipush dX9_ordersOf_29 rfl kb_24 ?_
        refine e_aload0 dX9_ordersOf_31 ?_
        refine e_getR fl_X9_7 la_134 rfl dX9_ordersOf_32 ?_
        refine e_iconst dX9_ordersOf_35 rfl kc_3 ?_
        refine e_ialdK (k := 3) la_135 (by decide) (rfl) dX9_ordersOf_36 ?_
        refine WW.ec (y := (t : Int)) (h3) ?_
        refine e_imul dX9_ordersOf_37 (⟨by omega, by omega⟩) ?_
        refine e_iload3 dX9_ordersOf_38 ?_
        refine e_iadd dX9_ordersOf_39 (⟨by omega, by omega⟩) ?_
        refine WW.ec (y := ((24 * t + i : Nat) : Int)) (by omega) ?_
        refine e_istore4 dX9_ordersOf_40 rfl ?_
        refine e_aload0 dX9_ordersOf_42 ?_
        refine e_getR fl_X9_30 la_134 rfl dX9_ordersOf_43 ?_
        refine e_iload4 dX9_ordersOf_46 ?_
        refine e_ialdK (k := 24 * t + i) la_139 (by omega) (by omega) dX9_ordersOf_48 ?_
        refine WW.ec (y := c.1) (hm.1) ?_
        refine e_iload1 dX9_ordersOf_49 ?_
        refine e_icmp_ne (tgt := 63) dX9_ordersOf_50 (by decide) (fun h50 => ?_) (fun h50 => ?_)
        · refine e_iload2 dX9_ordersOf_63 ?_
          refine e_istore2 dX9_ordersOf_64 rfl ?_
          refine e_iinc3 dX9_ordersOf_65 rfl (⟨by omega, by omega⟩) rfl ?_
          refine e_goto (tgt := 4) dX9_ordersOf_68 (by decide) ?_
          first | exact ih1 (Or.inr ⟨i, c, hc, (by omega), rfl⟩) | exact ih2 (by
            rcases hx with ⟨hx, hn⟩ | hx
            · refine Or.inl ⟨hx, fun k hk c2 hc2 => ?_⟩
              rcases Nat.lt_succ_iff_lt_or_eq.mp hk with h | h
              · exact hn k h c2 hc2
              · subst h; rw [hc] at hc2; cases hc2; exact h50
            · exact Or.inr hx)
        · refine e_aload0 dX9_ordersOf_53 ?_
          refine e_getR fl_X9_33 la_134 rfl dX9_ordersOf_54 ?_
          refine e_iload4 dX9_ordersOf_57 ?_
          refine e_ialdK (k := 24 * t + i) la_140 (by omega) (by omega) dX9_ordersOf_59 ?_
          refine e_goto (tgt := 64) dX9_ordersOf_60 (by decide) ?_
          refine e_istore2 dX9_ordersOf_64 rfl ?_
          refine e_iinc3 dX9_ordersOf_65 rfl (⟨by omega, by omega⟩) rfl ?_
          refine e_goto (tgt := 4) dX9_ordersOf_68 (by decide) ?_
          first | exact ih1 (Or.inr ⟨i, c, hc, (by omega), rfl⟩) | exact ih2 (by
            rcases hx with ⟨hx, hn⟩ | hx
            · refine Or.inl ⟨hx, fun k hk c2 hc2 => ?_⟩
              rcases Nat.lt_succ_iff_lt_or_eq.mp hk with h | h
              · exact hn k h c2 hc2
              · subst h; rw [hc] at hc2; cases hc2; exact h50
            · exact Or.inr hx)
theorem ct_X9_ordersOf {G : Mem} {u : Nat} (hu : u < 4) (h3 : M 135 3 = G 1 16) (hT : TXS G M) : GI l w yX9_ordersOf cX9_ordersOf 5 .int d [vR 134, vI (u : Int)] M (fun x M1 => M1 = M ∧ FND M (lawC G u) x) := by
  by_cases q : G 1 16 = -1
  · have hn : lawC G u = none := by unfold lawC isT; rw [if_neg (by omega)]
    refine MT.of [some (vR 134), some (vI (u : Int)), none, none, none] ⟨by decide, rfl⟩ rfl (Nat.le_of_ble_eq_true rfl) (fun hA hM => ?_)
    refine e_iconst dX9_ordersOf_0 rfl kc_m1 ?_
    refine e_istore2 dX9_ordersOf_1 rfl ?_
    refine e_iconst dX9_ordersOf_2 rfl kc_0 ?_
    refine e_istore3 dX9_ordersOf_3 rfl ?_
    refine e_aload0 dX9_ordersOf_4 ?_
    refine e_getR fl_X9_7 la_134 rfl dX9_ordersOf_5 ?_
    refine e_iconst dX9_ordersOf_8 rfl kc_3 ?_
    refine e_ialdK (k := 3) la_135 (by decide) (rfl) dX9_ordersOf_9 ?_
    refine WW.ec (y := -1) (by rw [h3, q]) ?_
    refine e_iconst dX9_ordersOf_10 rfl kc_m1 ?_
    refine e_icmp_eq (tgt := 71) dX9_ordersOf_11 (by decide) (fun h11 => ?_) (fun h => absurd h (fun z => z rfl))
    refine e_iload2 dX9_ordersOf_71 ?_
    refine e_iret dX9_ordersOf_72 ?_
    exact ⟨_, rfl, rfl, Or.inl ⟨hn, rfl⟩⟩
  · have ht : isT G (G 1 16) := by rcases hT.2.1 with h | h; exact absurd h q; exact h
    have hT1 := hT.1
    obtain ⟨acc, hC, ha, hS⟩ := hT.C (t := (G 1 16).toNat) (by omega) (by omega)
    rw [hC u hu]
    have h := oo_loop (l := l) (w := w) (d := d) (M := M) (Q := fun r M1 => ∃ x, r = some (vI x) ∧ M1 = M ∧ FND M (lawOf acc u) x) (t := (G 1 16).toNat) (u := u) (acc := acc) (by omega) hu (by omega) hS ha.1 (fun x hx => ⟨x, rfl, rfl, hx⟩) acc.length 0 (-1) none (by omega) (Or.inl ⟨rfl, fun k hk => absurd hk (Nat.not_lt_zero k)⟩)
    refine MT.of [some (vR 134), some (vI (u : Int)), none, none, none] ⟨by decide, rfl⟩ rfl (Nat.le_of_ble_eq_true rfl) (fun hA hM => ?_)
    refine e_iconst dX9_ordersOf_0 rfl kc_m1 ?_
    refine e_istore2 dX9_ordersOf_1 rfl ?_
    refine e_iconst dX9_ordersOf_2 rfl kc_0 ?_
    refine e_istore3 dX9_ordersOf_3 rfl ?_
    exact h
theorem lawOf_wf {acc : List Cz} (ha : accOk acc) {u : Nat} (hu : u < 4) {cs : List Int} (e : lawOf acc u = some cs) : wfc cs 0 1 := by
  unfold lawOf at e
  cases e2 : acc.find? (fun c => c.1 == (u : Int)) with
  | none => rw [e2] at e; cases e
  | some c =>
    rw [e2] at e
    have hc : c.2.2.2.2 = cs := Option.some.inj e
    have hm := List.mem_of_find?_eq_some e2
    have hk : (c.1 == (u : Int)) = true := List.find?_some (p := fun c : Cz => c.1 == (u : Int)) e2
    have hk2 : c.1 = (u : Int) := by simpa using hk
    rw [← hc]
    exact (ha.2 c hm).2 (by omega)
theorem TXS.wf {G M : Mem} (hT : TXS G M) {u : Nat} (hu : u < 4) {cs : List Int} (e : lawC G u = some cs) : wfc cs 0 1 := by
  by_cases q : G 1 16 = -1
  · unfold lawC isT at e
    rw [if_neg (by omega)] at e
    cases e
  · have ht : isT G (G 1 16) := by rcases hT.2.1 with h | h; exact absurd h q; exact h
    obtain ⟨acc, hC, ha, hS⟩ := hT.C (t := (G 1 16).toNat) (by omega) (by omega)
    rw [hC u hu] at e
    exact lawOf_wf ha hu e
theorem rpn_bnd {nm : Nat → Int} (hn : ∀ k, k < 8 → bnd (nm k)) : ∀ (cs st : List Int), wfc cs st.length 1 → (∀ v ∈ st, bnd v) → bnd ((rpn nm cs st).headD 0)
  | [], st, hw, hb => by
    have hl : st.length = 1 := hw
    cases st with
    | nil => cases hl
    | cons x r => exact hb x List.mem_cons_self
  | c :: cs, st, hw, hb => rpn_bnd hn cs (opS nm c st) (opS_len hw) (opS_b hn hw hb)
theorem lawV_none {u : Nat} {nm : Nat → Int} (hu : u < 4) (h3 : 1 ≤ nm 3 ∧ nm 3 ≤ 9) (h1 : 0 ≤ nm 1 ∧ nm 1 ≤ 9) : lawV none u nm = if (u : Int) = 0 then nm 3 else if (u : Int) = 1 then 10 * nm 3 else if (u : Int) = 2 then 0 else nm 1 := by
  unfold lawV clampW untoldV
  rcases (show u = 0 ∨ u = 1 ∨ u = 2 ∨ u = 3 by omega) with rfl | rfl | rfl | rfl
  · show max (if ((0 : Nat) : Int) = 1 then 1 else 0) (min (if ((0 : Nat) : Int) = 3 then 10 else 99) (nm 3)) = nm 3
    rw [if_neg (by decide), if_neg (by decide)]; omega
  · show max (if ((1 : Nat) : Int) = 1 then 1 else 0) (min (if ((1 : Nat) : Int) = 3 then 10 else 99) (10 * nm 3)) = 10 * nm 3
    rw [if_pos (by decide), if_neg (by decide)]; omega
  · rfl
  · show max (if ((3 : Nat) : Int) = 1 then 1 else 0) (min (if ((3 : Nat) : Int) = 3 then 10 else 99) (nm 1)) = nm 1
    rw [if_neg (by decide), if_pos (by decide)]; omega
theorem names8 {N : Mem} {x0 x1 x2 x3 x4 x5 x6 x7 : Int} : (∀ o, o ≠ 156 → up (up (up (up (up (up (up (up N 156 0 x0) 156 1 x1) 156 2 x2) 156 3 x3) 156 4 x4) 156 5 x5) 156 6 x6) 156 7 x7 o = N o) ∧ ∀ k, k < 8 → up (up (up (up (up (up (up (up N 156 0 x0) 156 1 x1) 156 2 x2) 156 3 x3) 156 4 x4) 156 5 x5) 156 6 x6) 156 7 x7 156 k = nameV x0 x1 x2 x3 x4 x5 x6 x7 k := by
  refine ⟨fun o ho => by rw [up_row ho, up_row ho, up_row ho, up_row ho, up_row ho, up_row ho, up_row ho, up_row ho], fun k hk => ?_⟩
  rcases (show k = 0 ∨ k = 1 ∨ k = 2 ∨ k = 3 ∨ k = 4 ∨ k = 5 ∨ k = 6 ∨ k = 7 by omega) with rfl | rfl | rfl | rfl | rfl | rfl | rfl | rfl <;> simp [up, nameV]
/-- what the law looks at -/
def LR (G : Mem) (A : Nat → Int) : Prop := HD G A ∧ RW G A 40
theorem RA.lr {G : Mem} {A : Nat → Int} (h : RA G A) : LR G A := ⟨h.1, h.2.2.1⟩
theorem ct_X9_lawOf {G : Mem} (hd : 3 ≤ d) {u h c i : Nat} {th ln : Int} (hu : u < 4) (hh : (h : Int) < G 1 0) (hG : LW G) (hR : LR G (M 135)) (hT : TXS G M) (hc : c ≤ 6) (hi : i ≤ 12) (hth : 1 ≤ th ∧ th ≤ 9) (hln : 0 ≤ ln ∧ ln ≤ 12) :
    GI l w yX9_lawOf cX9_lawOf 8 .int d [vR 134, vI (u : Int), vI (h : Int), vI (c : Int), vI th, vI ln, vI (i : Int)] M (fun x M1 => x = lawV (lawC G u) u (nmOf G h c th ln i) ∧ FM M M1) := by
  have a3 : M 135 3 = G 1 16 := hR.1.1.2.2.2
  have i1 := hG.1.1
  have a10 := hR.1.2.1 h hh
  have aw := hR.2.1 h hh
  have l2 := hG.2.1 h (by omega)
  have hcall := ct_X9_ordersOf (l := l) (w := w) (d := d - 1) hu a3 hT
  refine MT.of [some (vR 134), some (vI (u : Int)), some (vI (h : Int)), some (vI (c : Int)), some (vI th), some (vI ln), some (vI (i : Int)), none] ⟨by decide, rfl⟩ rfl (Nat.le_of_ble_eq_true rfl) (fun hA hM => ?_)
  refine e_aload0 dX9_lawOf_0 ?_
  refine e_iload1 dX9_lawOf_1 ?_
  refine e_cVGI (hcall) cy_X9_ordersOf cv_X9_ordersOf ml_X9_296 la_134 rfl rfl rfl (rok (by omega) (by decide)) (Nat.le_of_ble_eq_true rfl) dX9_lawOf_2 (fun x M1 hx => ?_)
  refine e_istore7 dX9_lawOf_5 rfl ?_
  obtain ⟨rfl, ⟨hn, rfl⟩ | ⟨cs, p, hs, rfl, hO⟩⟩ := hx
  · rw [hn]
    have hv : ∀ y : Int, y = lawV none u (nmOf G h c th ln i) → (fun r M1' => ∃ x, r = some (vI x) ∧ x = lawV none u (nmOf G h c th ln i) ∧ FM M1 M1') (some (vI y)) M1 := fun y hy => ⟨y, rfl, hy, FM.rf M1⟩
    have ed : nmOf G h c th ln i 3 = th ∧ nmOf G h c th ln i 1 = G 2 h := ⟨rfl, by unfold nmOf nameV; rw [if_neg (by decide), if_pos rfl, Int.toNat_natCast]⟩
    refine e_iload7 dX9_lawOf_7 ?_
    refine e_iconst dX9_lawOf_9 rfl kc_m1 ?_
    refine e_icmp_ne (tgt := 54) dX9_lawOf_10 (by decide) (fun h => absurd h (by decide)) (fun _ => ?_)
    refine e_iload1 dX9_lawOf_13 ?_
    refine e_if_ne (tgt := 22) dX9_lawOf_14 (by decide) (fun h14 => ?_) (fun h14 => ?_)
    · refine e_iload1 dX9_lawOf_22 ?_
      refine e_iconst dX9_lawOf_23 rfl kc_1 ?_
      refine e_icmp_ne (tgt := 35) dX9_lawOf_24 (by decide) (fun h24 => ?_) (fun h24 => ?_)
      · refine e_iload1 dX9_lawOf_35 ?_
        refine e_iconst dX9_lawOf_36 rfl kc_2 ?_
        refine e_icmp_ne (tgt := 44) dX9_lawOf_37 (by decide) (fun h37 => ?_) (fun h37 => ?_)
        · refine e_aload0 dX9_lawOf_44 ?_
          refine e_getR fl_X9_7 la_134 rfl dX9_lawOf_45 ?_
          refine e_bipush dX9_lawOf_48 rfl kb_10 ?_
          refine e_iload2 dX9_lawOf_50 ?_
          refine e_iadd dX9_lawOf_51 (⟨by omega, by omega⟩) ?_
          refine e_ialdK (k := 10 + h) la_135 (by omega) (by omega) dX9_lawOf_52 ?_
          refine WW.ec (y := G 2 h) (a10) ?_
          refine e_iret dX9_lawOf_53 ?_
          refine hv _ ?_
          rw [lawV_none hu (by rw [ed.1]; exact hth) (by rw [ed.2]; exact l2.1), ed.1, ed.2]
          first | (exfalso; omega) | rw [if_pos (by omega)] | rw [if_neg (by omega), if_pos (by omega)] | rw [if_neg (by omega), if_neg (by omega), if_pos (by omega)] | rw [if_neg (by omega), if_neg (by omega), if_neg (by omega)]
        · refine e_iconst dX9_lawOf_40 rfl kc_0 ?_
          refine e_goto (tgt := 53) dX9_lawOf_41 (by decide) ?_
          refine e_iret dX9_lawOf_53 ?_
          refine hv _ ?_
          rw [lawV_none hu (by rw [ed.1]; exact hth) (by rw [ed.2]; exact l2.1), ed.1, ed.2]
          first | (exfalso; omega) | rw [if_pos (by omega)] | rw [if_neg (by omega), if_pos (by omega)] | rw [if_neg (by omega), if_neg (by omega), if_pos (by omega)] | rw [if_neg (by omega), if_neg (by omega), if_neg (by omega)]
      · refine e_bipush dX9_lawOf_27 rfl kb_10 ?_
        refine e_iload4 dX9_lawOf_29 ?_
        refine e_imul dX9_lawOf_31 (⟨by omega, by omega⟩) ?_
        refine e_goto (tgt := 53) dX9_lawOf_32 (by decide) ?_
        refine e_iret dX9_lawOf_53 ?_
        refine hv _ ?_
        rw [lawV_none hu (by rw [ed.1]; exact hth) (by rw [ed.2]; exact l2.1), ed.1, ed.2]
        first | (exfalso; omega) | rw [if_pos (by omega)] | rw [if_neg (by omega), if_pos (by omega)] | rw [if_neg (by omega), if_neg (by omega), if_pos (by omega)] | rw [if_neg (by omega), if_neg (by omega), if_neg (by omega)]
    · refine e_iload4 dX9_lawOf_17 ?_
      refine e_goto (tgt := 53) dX9_lawOf_19 (by decide) ?_
      refine e_iret dX9_lawOf_53 ?_
      refine hv _ ?_
      rw [lawV_none hu (by rw [ed.1]; exact hth) (by rw [ed.2]; exact l2.1), ed.1, ed.2]
      first | (exfalso; omega) | rw [if_pos (by omega)] | rw [if_neg (by omega), if_pos (by omega)] | rw [if_neg (by omega), if_neg (by omega), if_pos (by omega)] | rw [if_neg (by omega), if_neg (by omega), if_neg (by omega)]
  · rw [hs]
    have hwf := hT.wf hu hs
    have c40 := aw.1
    have c48 := aw.2.1
    have hnm : ∀ N : Mem, (∀ o, o ≠ 156 → N o = M1 o) → (∀ k, k < 8 → N 156 k = nameV h (G 2 h) c th ln i (G 3 h) (G 4 h) k) → WM l w RX9 cX9_lawOf 8 (some .int) d (fun r M' => ∃ x, r = some (vI x) ∧ x = lawV (some cs) u (nmOf G h c th ln i) ∧ FM M1 M') 139 [some (vR 134), some (vI (u : Int)), some (vI (h : Int)), some (vI (c : Int)), some (vI th), some (vI ln), some (vI (i : Int)), some (vI (p : Int))] [] N := by
      intro N hN hk
      have hb : ∀ k, k < 8 → bnd (N 156 k) := by
        intro k h8
        rw [hk k h8]
        unfold nameV bnd
        have d1 := l2.1
        have d2 := l2.2.1
        have d3 := l2.2.2
        repeat' split
        all_goals omega
      have hsay := ct_X9_saysOf (l := l) (w := w) (d := d - 1) (M := N) (p := p) (cs := cs) (by omega) (by rw [hN 144 (by decide), hN 145 (by decide)]; exact hO) hwf hb
      have hrb := rpn_bnd hb cs [] hwf (fun v hv => by cases hv)
      have hcg : rpn (N 156) cs [] = rpn (nmOf G h c th ln i) cs [] := rpn_congr (fun k h8 => by rw [hk k h8]; unfold nmOf; rw [Int.toNat_natCast]) cs []
      rw [hcg] at hsay hrb
      have hv : ∀ v a b : Int, v = (rpn (nmOf G h c th ln i) cs []).headD 0 → a = (if (u : Int) = 1 then 1 else 0) → b = (if (u : Int) = 3 then 10 else 99) → (if v < a then a else if v > b then b else v) = lawV (some cs) u (nmOf G h c th ln i) := by
        intro v a b e1 e2 e3
        show _ = clampW u ((rpn (nmOf G h c th ln i) cs []).headD 0)
        unfold clampW
        rw [← e1, ← e2, ← e3]
        have : a ≤ b := by rw [e2, e3]; split <;> split <;> omega
        split
        · omega
        · split <;> omega
      refine e_aload0 dX9_lawOf_139 ?_
      refine e_iload7 dX9_lawOf_140 ?_
      refine e_cVGL (hsay) cy_X9_saysOf cv_X9_saysOf ml_X9_299 la_134 rfl rfl rfl (rok (by omega) (by decide)) (Nat.le_of_ble_eq_true rfl) dX9_lawOf_142 (fun v M2 hx => ?_)
      obtain ⟨e1, f1, _⟩ := hx
      rw [← e1] at hrb
      have hf : FM M1 M2 := fun o a b => (f1 o a b).trans (hN o a)
      refine e_iload1 dX9_lawOf_145 ?_
      refine e_iconst dX9_lawOf_146 rfl kc_1 ?_
      refine e_icmp_ne (tgt := 154) dX9_lawOf_147 (by decide) (fun h147 => ?_) (fun h147 => ?_)
      · refine e_iconst dX9_lawOf_154 rfl kc_0 ?_
        refine e_iload1 dX9_lawOf_155 ?_
        refine e_iconst dX9_lawOf_156 rfl kc_3 ?_
        refine e_icmp_ne (tgt := 165) dX9_lawOf_157 (by decide) (fun h157 => ?_) (fun h157 => ?_)
        · refine e_bipush dX9_lawOf_165 rfl kb_99 ?_
          refine e_cSI (ct_X9_held (d := d - 1) hrb) cy_X9_held cs_X9_held ml_X9_303 rfl rfl (rok (by omega) (by decide)) (Nat.le_of_ble_eq_true rfl) dX9_lawOf_167 ?_
          refine e_iret dX9_lawOf_170 ?_
          exact ⟨_, rfl, hv _ _ _ e1 (by first | rw [if_pos (by omega)] | rw [if_neg (by omega)]) (by first | rw [if_pos (by omega)] | rw [if_neg (by omega)]), hf⟩
        · refine e_bipush dX9_lawOf_160 rfl kb_10 ?_
          refine e_goto (tgt := 167) dX9_lawOf_162 (by decide) ?_
          refine e_cSI (ct_X9_held (d := d - 1) hrb) cy_X9_held cs_X9_held ml_X9_303 rfl rfl (rok (by omega) (by decide)) (Nat.le_of_ble_eq_true rfl) dX9_lawOf_167 ?_
          refine e_iret dX9_lawOf_170 ?_
          exact ⟨_, rfl, hv _ _ _ e1 (by first | rw [if_pos (by omega)] | rw [if_neg (by omega)]) (by first | rw [if_pos (by omega)] | rw [if_neg (by omega)]), hf⟩
      · refine e_iconst dX9_lawOf_150 rfl kc_1 ?_
        refine e_goto (tgt := 155) dX9_lawOf_151 (by decide) ?_
        refine e_iload1 dX9_lawOf_155 ?_
        refine e_iconst dX9_lawOf_156 rfl kc_3 ?_
        refine e_icmp_ne (tgt := 165) dX9_lawOf_157 (by decide) (fun h157 => ?_) (fun h157 => ?_)
        · refine e_bipush dX9_lawOf_165 rfl kb_99 ?_
          refine e_cSI (ct_X9_held (d := d - 1) hrb) cy_X9_held cs_X9_held ml_X9_303 rfl rfl (rok (by omega) (by decide)) (Nat.le_of_ble_eq_true rfl) dX9_lawOf_167 ?_
          refine e_iret dX9_lawOf_170 ?_
          exact ⟨_, rfl, hv _ _ _ e1 (by first | rw [if_pos (by omega)] | rw [if_neg (by omega)]) (by first | rw [if_pos (by omega)] | rw [if_neg (by omega)]), hf⟩
        · refine e_bipush dX9_lawOf_160 rfl kb_10 ?_
          refine e_goto (tgt := 167) dX9_lawOf_162 (by decide) ?_
          refine e_cSI (ct_X9_held (d := d - 1) hrb) cy_X9_held cs_X9_held ml_X9_303 rfl rfl (rok (by omega) (by decide)) (Nat.le_of_ble_eq_true rfl) dX9_lawOf_167 ?_
          refine e_iret dX9_lawOf_170 ?_
          exact ⟨_, rfl, hv _ _ _ e1 (by first | rw [if_pos (by omega)] | rw [if_neg (by omega)]) (by first | rw [if_pos (by omega)] | rw [if_neg (by omega)]), hf⟩
    refine e_iload7 dX9_lawOf_7 ?_
    refine e_iconst dX9_lawOf_9 rfl kc_m1 ?_
    refine e_icmp_ne (tgt := 54) dX9_lawOf_10 (by decide) (fun h10 => ?_) (fun h => absurd h (by omega))
    refine e_aload0 dX9_lawOf_54 ?_
    refine e_getR fl_X9_81 la_134 rfl dX9_lawOf_55 ?_
    refine e_iconst dX9_lawOf_58 rfl kc_0 ?_
    refine e_iload2 dX9_lawOf_59 ?_
    refine e_iastK (k := 0) la_156 (by decide) (rfl) dX9_lawOf_60 ?_
    refine e_aload0 dX9_lawOf_61 ?_
    refine e_getR fl_X9_81 la_134 rfl dX9_lawOf_62 ?_
    refine e_iconst dX9_lawOf_65 rfl kc_1 ?_
    refine e_aload0 dX9_lawOf_66 ?_
    refine e_getR fl_X9_7 la_134 rfl dX9_lawOf_67 ?_
    refine e_bipush dX9_lawOf_70 rfl kb_10 ?_
    refine e_iload2 dX9_lawOf_72 ?_
    refine e_iadd dX9_lawOf_73 (⟨by omega, by omega⟩) ?_
    refine e_ialdK (k := 10 + h) la_135 (by omega) (by omega) dX9_lawOf_74 ?_
    refine WW.ec (y := G 2 h) (by rw [up_o (by decide)]; exact a10) ?_
    refine e_iastK (k := 1) la_156 (by decide) (rfl) dX9_lawOf_75 ?_
    refine e_aload0 dX9_lawOf_76 ?_
    refine e_getR fl_X9_81 la_134 rfl dX9_lawOf_77 ?_
    refine e_iconst dX9_lawOf_80 rfl kc_2 ?_
    refine e_iload3 dX9_lawOf_81 ?_
    refine e_iastK (k := 2) la_156 (by decide) (rfl) dX9_lawOf_82 ?_
    refine e_aload0 dX9_lawOf_83 ?_
    refine e_getR fl_X9_81 la_134 rfl dX9_lawOf_84 ?_
    refine e_iconst dX9_lawOf_87 rfl kc_3 ?_
    refine e_iload4 dX9_lawOf_88 ?_
    refine e_iastK (k := 3) la_156 (by decide) (rfl) dX9_lawOf_90 ?_
    refine e_aload0 dX9_lawOf_91 ?_
    refine e_getR fl_X9_81 la_134 rfl dX9_lawOf_92 ?_
    refine e_iconst dX9_lawOf_95 rfl kc_4 ?_
    refine e_iload5 dX9_lawOf_96 ?_
    refine e_iastK (k := 4) la_156 (by decide) (rfl) dX9_lawOf_98 ?_
    refine e_aload0 dX9_lawOf_99 ?_
    refine e_getR fl_X9_81 la_134 rfl dX9_lawOf_100 ?_
    refine e_iconst dX9_lawOf_103 rfl kc_5 ?_
    refine e_iload6 dX9_lawOf_104 ?_
    refine e_iastK (k := 5) la_156 (by decide) (rfl) dX9_lawOf_106 ?_
    refine e_aload0 dX9_lawOf_107 ?_
    refine e_getR fl_X9_81 la_134 rfl dX9_lawOf_108 ?_
    refine e_bipush dX9_lawOf_111 rfl kb_6 ?_
    refine e_aload0 dX9_lawOf_113 ?_
    refine e_getR fl_X9_7 la_134 rfl dX9_lawOf_114 ?_
    refine e_bipush dX9_lawOf_117 rfl kb_40 ?_
    refine e_iload2 dX9_lawOf_119 ?_
    refine e_iadd dX9_lawOf_120 (⟨by omega, by omega⟩) ?_
    refine e_ialdK (k := 40 + h) la_135 (by omega) (by omega) dX9_lawOf_121 ?_
    refine WW.ec (y := G 3 h) (by rw [up_o (by decide), up_o (by decide), up_o (by decide), up_o (by decide), up_o (by decide), up_o (by decide)]; exact c40) ?_
    refine e_iastK (k := 6) la_156 (by decide) (rfl) dX9_lawOf_122 ?_
    refine e_aload0 dX9_lawOf_123 ?_
    refine e_getR fl_X9_81 la_134 rfl dX9_lawOf_124 ?_
    refine e_bipush dX9_lawOf_127 rfl kb_7 ?_
    refine e_aload0 dX9_lawOf_129 ?_
    refine e_getR fl_X9_7 la_134 rfl dX9_lawOf_130 ?_
    refine e_bipush dX9_lawOf_133 rfl kb_48 ?_
    refine e_iload2 dX9_lawOf_135 ?_
    refine e_iadd dX9_lawOf_136 (⟨by omega, by omega⟩) ?_
    refine e_ialdK (k := 48 + h) la_135 (by omega) (by omega) dX9_lawOf_137 ?_
    refine WW.ec (y := G 4 h) (by rw [up_o (by decide), up_o (by decide), up_o (by decide), up_o (by decide), up_o (by decide), up_o (by decide), up_o (by decide)]; exact c48) ?_
    refine e_iastK (k := 7) la_156 (by decide) (rfl) dX9_lawOf_138 ?_
    exact hnm _ names8.1 names8.2
theorem ct_X9_lawFor {G : Mem} (hd : 4 ≤ d) {u h c i : Nat} (hu : u < 4) (hh : (h : Int) < G 1 0) (hc : (c : Int) < G 1 5) (hi : i ≤ 12) (hG : LW G) (hth : 1 ≤ G 6 c) (hR : LR G (M 135)) (hT : TXS G M) :
    GI l w yX9_lawFor cX9_lawFor 5 .int d [vR 134, vI (u : Int), vI (h : Int), vI (c : Int), vI (i : Int)] M (fun x M1 => x = tellV G u h c i ∧ FM M M1) := by
  have i5 := hG.1.2.1
  have a20 := hR.1.2.2 c hc
  have h6 := hG.2.2.1 c (by omega)
  have h7 := hG.1.2.2 c (by omega)
  have hlaw := ct_X9_lawOf (l := l) (w := w) (d := d - 1) (M := M) (u := u) (h := h) (c := c) (i := i) (th := G 6 c) (ln := G 7 c) (by omega) hu hh hG hR hT (by omega) hi (by omega) h7
  refine MT.of [some (vR 134), some (vI (u : Int)), some (vI (h : Int)), some (vI (c : Int)), some (vI (i : Int))] ⟨by decide, rfl⟩ rfl (Nat.le_of_ble_eq_true rfl) (fun hA hM => ?_)
  refine e_aload0 dX9_lawFor_0 ?_
  refine e_iload1 dX9_lawFor_1 ?_
  refine e_iload2 dX9_lawFor_2 ?_
  refine e_iload3 dX9_lawFor_3 ?_
  refine e_aload0 dX9_lawFor_4 ?_
  refine e_iload3 dX9_lawFor_5 ?_
  refine e_cVI (ct_X9_thickOf (d := d - 1) (by omega)) cy_X9_thickOf cv_X9_thickOf ml_X9_307 la_134 rfl rfl rfl (rok (by omega) (by decide)) (Nat.le_of_ble_eq_true rfl) dX9_lawFor_6 ?_
  refine WW.ec (y := G 6 c) (a20.1) ?_
  refine e_aload0 dX9_lawFor_9 ?_
  refine e_iload3 dX9_lawFor_10 ?_
  refine e_cVI (ct_X9_inchesOf (d := d - 1) (by omega)) cy_X9_inchesOf cv_X9_inchesOf ml_X9_310 la_134 rfl rfl rfl (rok (by omega) (by decide)) (Nat.le_of_ble_eq_true rfl) dX9_lawFor_11 ?_
  refine WW.ec (y := G 7 c) (a20.2) ?_
  refine e_iload4 dX9_lawFor_14 ?_
  refine e_cVGI (hlaw) cy_X9_lawOf cv_X9_lawOf ml_X9_313 la_134 rfl rfl rfl (rok (by omega) (by decide)) (Nat.le_of_ble_eq_true rfl) dX9_lawFor_16 (fun x M1 hx => ?_)
  refine e_iret dX9_lawFor_19 ?_
  exact ⟨_, rfl, hx.1.trans (by unfold tellV; rw [Int.toNat_natCast, Int.toNat_natCast]), hx.2⟩
end MLAW2
