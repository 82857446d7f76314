/-! THE MODEL'S SUPPER, the answer -/
def bestF (K : Nat → Nat → Int) (n : Nat) (b : Int × List Nat) (e : List Nat) : Int × List Nat := if b.1 < prd K n n e then (prd K n n e, e) else b
section MSUP3
variable {l : Launch} {w : Wd} {d : Nat} {M : Mem} {Q : Option MV → Mem → Prop}
theorem su_loop {G : Mem} (hd : 5 ≤ d) (hg : GS G M) {s n : Nat} {th i : Int} (hn : (gl s (G 1 0).toNat).length = n) (h6 : n ≤ 6) (h1 : 1 ≤ n) (hth : 1 ≤ th ∧ th ≤ 9) (hi : 0 ≤ i ∧ i < n) (hQ : ∀ N x, FQ M N → x = seatV G s th i.toNat → Q (some (vI x)) N) :
    ∀ (q m : Nat) (b : Int × List Nat) (N : Mem) (x7 x8 : Option MV), m + q = facN n → ((arr n n (2 ^ n - 1)).take m).foldl (bestF (gK G s th) n) (-1, []) = b → -1 ≤ b.1 → b.1 ≤ 1000000 → (∀ j, j < n → 0 ≤ b.1 → N 162 j = (((gl s (G 1 0).toNat).getD (b.2.getD j 0) 0 : Nat) : Int)) → FQ M N → CMS G s N → WM l w RX9 cX9_supper 9 (some .int) d Q 102 [some (vR 134), some (vI (s : Int)), some (vI th), some (vI i), some (vI (n : Int)), some (vI b.1), some (vI (m : Int)), x7, x8] [] N
  | 0, m, b, N, x7, x8, hm, hb, b0, b1, hbest, hf, hcm => by
    have hfb := fac_b n (by omega)
    have hrow := ct_X9_rows (l := l) (w := w) (d := d - 1) (M := N) (n := n) h6
    have hK := gK_ok G s th
    have htop := (bst_b (n := n) hK n (2 ^ n - 1)).1
    have hff : b = (bst (gK G s th) n n (2 ^ n - 1), chs (gK G s th) n (bst (gK G s th) n n (2 ^ n - 1)) n (2 ^ n - 1) 1) := by
      rw [← hb, List.take_of_length_le (by rw [arr_len h6]; omega)]
      have h64 := bit_f n h6
      have hpos : 1 ≤ 2 ^ n := Nat.one_le_two_pow
      have hfc := first_chs hK h6 n (2 ^ n - 1) 1 (bst (gK G s th) n n (2 ^ n - 1)) (by omega) h64.1 (by decide) (Int.one_mul _)
      refine fold_first (v := prd (gK G s th) n n) _ _ (fun e he => (prd_le hK n _ e he).2) (by show (-1 : Int) < _; omega) ?_
      rw [← hfc]
      congr 1
      funext e
      rw [Int.one_mul]
    have hx := hbest i.toNat (by omega) (by rw [hff]; exact htop)
    have hq := hQ N (N 162 i.toNat) hf (by rw [hx, hff]; unfold seatV; rw [hn])
    refine e_iload6 dX9_supper_102 ?_
    refine e_iload4 dX9_supper_104 ?_
    refine e_cSI (hrow) cy_X9_rows cs_X9_rows ml_X9_377 rfl rfl (rok (by omega) (by decide)) (Nat.le_of_ble_eq_true rfl) dX9_supper_106 ?_
    refine e_icmp_ge (tgt := 217) dX9_supper_109 (by decide) (fun h109 => ?_) (fun h109 => ?_)
    · skip
      refine e_aload0 dX9_supper_217 ?_
      refine e_getR fl_X9_100 la_134 rfl dX9_supper_218 ?_
      refine e_iload3 dX9_supper_221 ?_
      refine e_ialdK (k := i.toNat) la_162 (by omega) (by omega) dX9_supper_222 ?_
      refine e_iret dX9_supper_223 ?_
      exact hq
    · omega
  | q + 1, m, b, N, x7, x8, hm, hb, b0, b1, hbest, hf, hcm => by
    have hfb := fac_b n (by omega)
    have hrow := ct_X9_rows (l := l) (w := w) (d := d - 1) (M := N) (n := n) h6
    have hK := gK_ok G s th
    obtain ⟨e, he1, he2⟩ := lo_get (n := n) (k := m) h6 (by omega)
    have hmem : e ∈ arr n n (2 ^ n - 1) := List.mem_of_getElem? he2
    obtain ⟨hel, hlt⟩ := arr_ok n _ e hmem
    have hpb := prd_le hK n _ e hmem
    have hbb := (bst_b (n := n) hK n (2 ^ n - 1)).2
    have hpw := pow6 h6
    have htake : ((arr n n (2 ^ n - 1)).take (m + 1)).foldl (bestF (gK G s th) n) (-1, []) = bestF (gK G s th) n b e := by
      rw [List.take_add_one, he2, List.foldl_append, hb]
      rfl
    have hord := ct_X9_laysOrder (l := l) (w := w) (d := d - 1) (M := N) (n := n) (k := m) (e := e) h6 (by omega) (by omega) he1
    have ih := fun b2 N2 y7 y8 h2 => su_loop hd hg hn h6 h1 hth hi hQ q (m + 1) b2 N2 y7 y8 (by omega) (htake.trans h2)
    clear htake he1 he2 hmem
    have h112 : ∀ N1 : Mem, (∀ o, o ≠ 161 → N1 o = N o) → (∀ j, j < n → N1 161 j = N 160 (e.getD j 0)) → WM l w RX9 cX9_supper 9 (some .int) d Q 126 [some (vR 134), some (vI (s : Int)), some (vI th), some (vI i), some (vI (n : Int)), some (vI b.1), some (vI (m : Int)), some (vI 1), some (vI ((1 : Nat) : Int))] [] N1 := by
      intro N1 a1 a2
      have hf1 : FQ M N1 := fun o ho => (a1 o (by omega)).trans (hf o ho)
      have e0 : e.drop 0 = e := rfl
      have hst := prd_step (K := gK G s th) hel (show 0 < n by omega)
      rw [e0, Nat.sub_zero, show gK G s th (e.getD 0 0) 0 = 1 from rfl] at hst
      refine pr_loop (M := N1) (by omega) (hg.fq hf1) hn h6 hth hel hlt (fun N2 v8 f2 g2 => ?_) (fun j hj => ?_) (n - 1) 1 1 N1 (Nat.le_refl 1) (by omega) hst.symm (by decide) (by decide) (fun _ _ _ => rfl)
      · have hf2 : FQ M N2 := hf1.tr f2
        have c2 : CMS G s N2 := fun j hj => by rw [g2 160 (by decide) (by decide), a1 160 (by decide)]; exact hcm j hj
        generalize hp : prd (gK G s th) n n e = p at hpb
        by_cases hlt2 : b.1 < p
        · have hbe : bestF (gK G s th) n b e = (p, e) := by unfold bestF; rw [hp, if_pos hlt2]
          have hcp := cp_loop (l := l) (w := w) (d := d) (M := N2) (Q := Q) (s := s) (n := n) (m := m) (th := th) (i := i) (b := p) (pv := p) h6 (fun N3 w8 f3 g3 => by
            have ih2 := ih (p, e) N3 (some (vI p)) w8 hbe (by show -1 ≤ p; omega) (by show p ≤ 1000000; omega) (fun j hj _ => by
              rw [g3 j hj, g2 161 (by decide) (by decide), a2 j hj]
              exact hcm _ (by rw [hn]; exact mem_getD hlt (by omega))) (fun o ho => (f3 o (by omega)).trans (hf2 o ho)) (fun j hj => by rw [f3 160 (by decide)]; exact c2 j hj)
            refine e_iinc6 dX9_supper_211 rfl (⟨by omega, by omega⟩) rfl ?_
            refine e_goto (tgt := 102) dX9_supper_214 (by decide) ?_
            exact ih2) n 0 N2 (by omega) (fun _ _ => rfl) (fun j hj => by omega)
          refine e_iload7 dX9_supper_170 ?_
          refine e_iload5 dX9_supper_172 ?_
          refine e_icmp_le (tgt := 211) dX9_supper_174 (by decide) (fun h174 => ?_) (fun h174 => ?_)
          · omega
          · refine e_iload7 dX9_supper_177 ?_
            refine e_istore5 dX9_supper_179 rfl ?_
            refine e_iconst dX9_supper_181 rfl kc_0 ?_
            refine e_istore8 dX9_supper_182 rfl ?_
            exact hcp
        · have hbe : bestF (gK G s th) n b e = b := by unfold bestF; rw [hp, if_neg hlt2]
          have ih2 := ih b N2 (some (vI p)) v8 hbe b0 b1 (fun j hj h0 => by rw [g2 162 (by decide) (by decide), a1 162 (by decide)]; exact hbest j hj h0) hf2 c2
          refine e_iload7 dX9_supper_170 ?_
          refine e_iload5 dX9_supper_172 ?_
          refine e_icmp_le (tgt := 211) dX9_supper_174 (by decide) (fun h174 => ?_) (fun h174 => ?_)
          · refine e_iinc6 dX9_supper_211 rfl (⟨by omega, by omega⟩) rfl ?_
            refine e_goto (tgt := 102) dX9_supper_214 (by decide) ?_
            exact ih2
          · omega
      · rw [a2 j hj]
        exact hcm _ (by rw [hn]; exact mem_getD hlt (by omega))
    clear ih
    refine e_iload6 dX9_supper_102 ?_
    refine e_iload4 dX9_supper_104 ?_
    refine e_cSI (hrow) cy_X9_rows cs_X9_rows ml_X9_377 rfl rfl (rok (by omega) (by decide)) (Nat.le_of_ble_eq_true rfl) dX9_supper_106 ?_
    refine e_icmp_ge (tgt := 217) dX9_supper_109 (by decide) (fun h109 => ?_) (fun h109 => ?_)
    · omega
    · refine e_aload0 dX9_supper_112 ?_
      refine e_iload4 dX9_supper_113 ?_
      refine e_iload6 dX9_supper_115 ?_
      refine e_cVGV (hord) cy_X9_laysOrder cv_X9_laysOrder ml_X9_380 la_134 rfl rfl rfl (rok (by omega) (by decide)) (Nat.le_of_ble_eq_true rfl) dX9_supper_117 (fun N1 hx => ?_)
      have h126 := h112 N1 hx.1 hx.2
      refine e_iconst dX9_supper_120 rfl kc_1 ?_
      refine e_istore7 dX9_supper_121 rfl ?_
      refine e_iconst dX9_supper_123 rfl kc_1 ?_
      refine e_istore8 dX9_supper_124 rfl ?_
      exact h126
theorem ct_X9_supper {G : Mem} (hd : 6 ≤ d) (hg : GS G M) {s th i : Int} : GI l w yX9_supper cX9_supper 9 .int d [vR 134, vI s, vI th, vI i] M (fun x M1 => supperR G s th i x ∧ FQ M M1) := by
  have i1 := hg.gm.1.1.1
  have hp8 := pow8 (H := (G 1 0).toNat) (by omega)
  have hcast : (2 : Int) ^ (G 1 0).toNat = ((2 ^ (G 1 0).toNat : Nat) : Int) := by simp
  have hp1 : 1 ≤ 2 ^ (G 1 0).toNat := Nat.one_le_two_pow
  have e0 : M 135 0 = G 1 0 := hg.2.2.1.1.1.1
  have bad : ∀ N, FQ M N → ¬ (0 ≤ s ∧ s < 2 ^ (G 1 0).toNat ∧ 1 ≤ popc s.toNat ∧ popc s.toNat ≤ 6 ∧ 1 ≤ th ∧ th ≤ 9 ∧ 0 ≤ i ∧ i < popc s.toNat) → ∃ x, some (vI (-1)) = some (vI x) ∧ supperR G s th i x ∧ FQ M N := fun N hf nk => ⟨_, rfl, Or.inr ⟨nk, rfl⟩, hf⟩
  have esh : bShl 1 (G 1 0) - 1 = ((2 ^ (G 1 0).toNat - 1 : Nat) : Int) := by rw [bShl1 (by omega) (by omega), hcast]; omega
  by_cases ok : (1 ≤ s ∧ s < 2 ^ (G 1 0).toNat) ∧ (1 ≤ th ∧ th ≤ 9) ∧ 0 ≤ i
  · obtain ⟨s, rfl⟩ : ∃ n : Nat, s = n := ⟨s.toNat, by omega⟩
    have hs1 : s < 2 ^ (G 1 0).toNat := by omega
    have hpop := gl_pop (G 1 0).toNat (by omega) s (by omega) hs1
    have h40 := cm_guests (l := l) (w := w) (d := d) (M := M) (Q := fun r M1 => ∃ x, r = some (vI x) ∧ supperR G s th i x ∧ FQ M M1) hg (s := s) (th := th) (i := i) hs1 (fun h7 N hf => bad N hf (fun z => by have := z.2.2.2.1; rw [Int.toNat_natCast, ← hpop] at this; omega)) (fun N v5 hf hc h6 => by
      by_cases hin : i < (gl s (G 1 0).toNat).length
      · have h102 := su_loop (l := l) (w := w) (d := d) (M := M) (Q := fun r M1 => ∃ x, r = some (vI x) ∧ supperR G s th i x ∧ FQ M M1) (by omega) hg (s := s) (th := th) (i := i) rfl h6 (by omega) ok.2.1 ⟨ok.2.2, hin⟩ (fun N x hf hx => ⟨x, rfl, Or.inl ⟨by omega, by omega, by rw [Int.toNat_natCast, ← hpop]; omega, by rw [Int.toNat_natCast, ← hpop]; omega, ok.2.1.1, ok.2.1.2, ok.2.2, by rw [Int.toNat_natCast, ← hpop]; exact hin, by rw [Int.toNat_natCast]; exact hx⟩, hf⟩) (facN (gl s (G 1 0).toNat).length) 0 (-1, []) N none none (by omega) rfl (by decide) (by decide) (fun j hj h0 => absurd h0 (by decide)) hf hc
        refine e_iload3 dX9_supper_88 ?_
        refine e_iload4 dX9_supper_89 ?_
        refine e_icmp_lt (tgt := 96) dX9_supper_91 (by decide) (fun h91 => ?_) (fun h91 => ?_)
        · refine e_iconst dX9_supper_96 rfl kc_m1 ?_
          refine e_istore5 dX9_supper_97 rfl ?_
          refine e_iconst dX9_supper_99 rfl kc_0 ?_
          refine e_istore6 dX9_supper_100 rfl ?_
          exact h102
        · omega
      · refine e_iload3 dX9_supper_88 ?_
        refine e_iload4 dX9_supper_89 ?_
        refine e_icmp_lt (tgt := 96) dX9_supper_91 (by decide) (fun h91 => ?_) (fun h91 => ?_)
        · omega
        · refine e_iconst dX9_supper_94 rfl kc_m1 ?_
          refine e_iret dX9_supper_95 ?_
          exact bad N hf (fun z => by have := z.2.2.2.2.2.2.2; rw [Int.toNat_natCast, ← hpop] at this; omega)) (G 1 0).toNat 0 M (by omega) (by simp [gl]) (FQ.rf M) (fun j hj => absurd hj (by simp [gl]))
    refine MT.of [some (vR 134), some (vI s), some (vI th), some (vI i), none, none, none, none, none] ⟨by decide, rfl⟩ rfl (Nat.le_of_ble_eq_true rfl) (fun hA hM => ?_)
    refine e_iload1 dX9_supper_0 ?_
    refine e_iconst dX9_supper_1 rfl kc_1 ?_
    refine e_iconst dX9_supper_2 rfl kc_1 ?_
    refine e_aload0 dX9_supper_3 ?_
    refine e_getR fl_X9_7 la_134 rfl dX9_supper_4 ?_
    refine e_iconst dX9_supper_7 rfl kc_0 ?_
    refine e_ialdK (k := 0) la_135 (by decide) (rfl) dX9_supper_8 ?_
    refine WW.ec (y := G 1 0) (e0) ?_
    refine e_ishl dX9_supper_9 ?_
    refine e_iconst dX9_supper_10 rfl kc_1 ?_
    refine e_isub dX9_supper_11 (⟨by omega, by omega⟩) ?_
    refine WW.ec (y := ((2 ^ (G 1 0).toNat - 1 : Nat) : Int)) (esh) ?_
    refine e_cSZ (ct_X9_in (d := d - 1)) cy_X9_in cs_X9_in ml_X9_120 rfl rfl (rok (by omega) (by decide)) (Nat.le_of_ble_eq_true rfl) dX9_supper_12 (fun g12 => ?_) (fun g12 => ?_)
    · refine e_if_eq (tgt := 32) dX9_supper_15 (by decide) (fun h => absurd h (by decide)) (fun _ => ?_)
      refine e_iload2 dX9_supper_18 ?_
      refine e_iconst dX9_supper_19 rfl kc_1 ?_
      refine e_bipush dX9_supper_20 rfl kb_9 ?_
      refine e_cSZ (ct_X9_in (d := d - 1)) cy_X9_in cs_X9_in ml_X9_120 rfl rfl (rok (by omega) (by decide)) (Nat.le_of_ble_eq_true rfl) dX9_supper_22 (fun g22 => ?_) (fun g22 => ?_)
      · refine e_if_eq (tgt := 32) dX9_supper_25 (by decide) (fun h => absurd h (by decide)) (fun _ => ?_)
        refine e_iload3 dX9_supper_28 ?_
        refine e_if_ge (tgt := 34) dX9_supper_29 (by decide) (fun h29 => ?_) (fun h29 => ?_)
        · refine e_iconst dX9_supper_34 rfl kc_0 ?_
          refine e_istore4 dX9_supper_35 rfl ?_
          refine e_iconst dX9_supper_37 rfl kc_0 ?_
          refine e_istore5 dX9_supper_38 rfl ?_
          exact h40
        · first | exact absurd ⟨by omega, by omega⟩ g12 | exact absurd ok.2.1 g22 | omega
      · refine e_if_eq (tgt := 32) dX9_supper_25 (by decide) (fun _ => ?_) (fun h => absurd h (by decide))
        first | exact absurd ⟨by omega, by omega⟩ g12 | exact absurd ok.2.1 g22 | omega
    · refine e_if_eq (tgt := 32) dX9_supper_15 (by decide) (fun _ => ?_) (fun h => absurd h (by decide))
      first | exact absurd ⟨by omega, by omega⟩ g12 | exact absurd ok.2.1 g22 | omega
  · have nk : ¬ (0 ≤ s ∧ s < 2 ^ (G 1 0).toNat ∧ 1 ≤ popc s.toNat ∧ popc s.toNat ≤ 6 ∧ 1 ≤ th ∧ th ≤ 9 ∧ 0 ≤ i ∧ i < popc s.toNat) := fun z => by
      rcases (show s = 0 ∨ 1 ≤ s by omega) with h | h
      · have := z.2.2.1
        rw [h] at this
        exact absurd this (by decide)
      · exact ok ⟨⟨h, z.2.1⟩, ⟨z.2.2.2.2.1, z.2.2.2.2.2.1⟩, z.2.2.2.2.2.2.1⟩
    refine MT.of [some (vR 134), some (vI s), some (vI th), some (vI i), none, none, none, none, none] ⟨by decide, rfl⟩ rfl (Nat.le_of_ble_eq_true rfl) (fun hA hM => ?_)
    refine e_iload1 dX9_supper_0 ?_
    refine e_iconst dX9_supper_1 rfl kc_1 ?_
    refine e_iconst dX9_supper_2 rfl kc_1 ?_
    refine e_aload0 dX9_supper_3 ?_
    refine e_getR fl_X9_7 la_134 rfl dX9_supper_4 ?_
    refine e_iconst dX9_supper_7 rfl kc_0 ?_
    refine e_ialdK (k := 0) la_135 (by decide) (rfl) dX9_supper_8 ?_
    refine WW.ec (y := G 1 0) (e0) ?_
    refine e_ishl dX9_supper_9 ?_
    refine e_iconst dX9_supper_10 rfl kc_1 ?_
    refine e_isub dX9_supper_11 (⟨by omega, by omega⟩) ?_
    refine WW.ec (y := ((2 ^ (G 1 0).toNat - 1 : Nat) : Int)) (esh) ?_
    refine e_cSZ (ct_X9_in (d := d - 1)) cy_X9_in cs_X9_in ml_X9_120 rfl rfl (rok (by omega) (by decide)) (Nat.le_of_ble_eq_true rfl) dX9_supper_12 (fun g12 => ?_) (fun g12 => ?_)
    · refine e_if_eq (tgt := 32) dX9_supper_15 (by decide) (fun h => absurd h (by decide)) (fun _ => ?_)
      refine e_iload2 dX9_supper_18 ?_
      refine e_iconst dX9_supper_19 rfl kc_1 ?_
      refine e_bipush dX9_supper_20 rfl kb_9 ?_
      refine e_cSZ (ct_X9_in (d := d - 1)) cy_X9_in cs_X9_in ml_X9_120 rfl rfl (rok (by omega) (by decide)) (Nat.le_of_ble_eq_true rfl) dX9_supper_22 (fun g22 => ?_) (fun g22 => ?_)
      · refine e_if_eq (tgt := 32) dX9_supper_25 (by decide) (fun h => absurd h (by decide)) (fun _ => ?_)
        refine e_iload3 dX9_supper_28 ?_
        refine e_if_ge (tgt := 34) dX9_supper_29 (by decide) (fun h29 => ?_) (fun h29 => ?_)
        · exact absurd ⟨⟨by omega, by omega⟩, g22, by omega⟩ ok
        · refine e_iconst dX9_supper_32 rfl kc_m1 ?_
          refine e_iret dX9_supper_33 ?_
          exact bad M (FQ.rf M) nk
      · refine e_if_eq (tgt := 32) dX9_supper_25 (by decide) (fun _ => ?_) (fun h => absurd h (by decide))
        refine e_iconst dX9_supper_32 rfl kc_m1 ?_
        refine e_iret dX9_supper_33 ?_
        exact bad M (FQ.rf M) nk
    · refine e_if_eq (tgt := 32) dX9_supper_15 (by decide) (fun _ => ?_) (fun h => absurd h (by decide))
      refine e_iconst dX9_supper_32 rfl kc_m1 ?_
      refine e_iret dX9_supper_33 ?_
      exact bad M (FQ.rf M) nk
end MSUP3
