/-! THE MODEL PLAYS A TEXT -/
theorem MSC.fr {t : Nat} {M M1 : Mem} {acc : List Cz} (h : MSC t M acc) (h4 : ∀ o, 138 ≤ o → o ≤ 145 → M1 o = M o) : MSC t M1 acc := by
  unfold MSC at h ⊢
  rw [h4 138 (by decide) (by decide), h4 139 (by decide) (by decide), h4 140 (by decide) (by decide), h4 141 (by decide) (by decide), h4 142 (by decide) (by decide), h4 143 (by decide) (by decide), h4 144 (by decide) (by decide), h4 145 (by decide) (by decide)]
  exact h
section MPLAY
variable {l : Launch} {w : Wd} {d : Nat} {M : Mem} {Q : Option MV → Mem → Prop}
theorem mp_loop {t : Nat} {acc : List Cz} {kd nu : Nat → Int} (hd : 7 ≤ d) (ht : t < 4) (ha : accOk acc) (hS : MSC t M acc) (hk : ∀ (k : Nat) (c : Cz), acc[k]? = some c → kd k = c.1 ∧ (4 ≤ c.1 → nu (k * 3) = c.2.1) ∧ (c.1 = 4 → nu (k * 3 + 1) = c.2.2.1 ∧ nu (k * 3 + 2) = c.2.2.2.1)) :
    ∀ (q i : Nat) (X N : Mem) (v3 v4 : Option MV), i + q = acc.length → FD M N → GS X N → (∀ N', FD M N' → GS (playZ kd nu q i X) N' → Q (some (vI (playX kd nu q i X))) N') → WM l w RX9 cX9_played 5 (some .int) d Q 21 [some (vR 134), some (vI (t : Int)), some (vI (i : Int)), v3, v4] [] N
  | 0, i, X, N, v3, v4, hi, hf, hg, hQ => by
    have hS2 := hS.fr (M1 := N) (fun o a b => hf o (by omega) (by omega) (by omega))
    have hq := hQ N hf hg
    have hl24 := ha.1
    refine e_iload2 dX9_played_21 ?_
    refine e_aload0 dX9_played_22 ?_
    refine e_getR fl_X9_27 la_134 rfl dX9_played_23 ?_
    refine e_iload1 dX9_played_26 ?_
    refine e_ialdK (k := t) la_138 (by omega) (by omega) dX9_played_27 ?_
    refine WW.ec (y := (acc.length : Int)) (hS2.1) ?_
    refine e_icmp_ge (tgt := 162) dX9_played_28 (by decide) (fun h28 => ?_) (fun h28 => ?_)
    · refine e_iconst dX9_played_162 rfl kc_m1 ?_
      refine e_iret dX9_played_163 ?_
      exact hq
    · omega
  | q + 1, i, X, N, v3, v4, hi, hf, hg, hQ => by
    have hS2 := hS.fr (M1 := N) (fun o a b => hf o (by omega) (by omega) (by omega))
    have hl24 := ha.1
    obtain ⟨c, hc⟩ : ∃ c, acc[i]? = some c := ⟨_, List.getElem?_eq_getElem (by omega)⟩
    have hm := hS2.2 i c hc
    have hkc := hk i c hc
    have hb := (ha.2 c (List.mem_of_getElem? hc)).1
    have h148 : ∀ (N2 : Mem) (x : Int), FD M N2 → x = doX X (kd i) (nu (i * 3)) (nu (i * 3 + 1)) (nu (i * 3 + 2)) → GS (doZ X (kd i) (nu (i * 3)) (nu (i * 3 + 1)) (nu (i * 3 + 2))) N2 → WM l w RX9 cX9_played 5 (some .int) d Q 148 [some (vR 134), some (vI (t : Int)), some (vI (i : Int)), some (vI ((24 * t + i : Nat) : Int)), some (vI x)] [] N2 := by
      intro N2 x hf2 hx hg2
      unfold playX playZ at hQ
      by_cases e : x = -1
      · rw [if_pos (hx.symm.trans e)] at hQ
        rw [if_pos (hx.symm.trans e)] at hQ
        have hq := hQ N2 hf2 hg2
        refine e_iload4 dX9_played_148 ?_
        refine e_iconst dX9_played_150 rfl kc_m1 ?_
        refine e_icmp_ne (tgt := 156) dX9_played_151 (by decide) (fun h => absurd h (fun z => z e)) (fun h151 => ?_)
        refine e_iload2 dX9_played_154 ?_
        refine e_iret dX9_played_155 ?_
        exact hq
      · rw [if_neg (fun z => e (hx.trans z))] at hQ
        rw [if_neg (fun z => e (hx.trans z))] at hQ
        have ih := mp_loop hd ht ha hS hk q (i + 1) _ N2 (some (vI ((24 * t + i : Nat) : Int))) (some (vI x)) (by omega) hf2 hg2 hQ
        refine e_iload4 dX9_played_148 ?_
        refine e_iconst dX9_played_150 rfl kc_m1 ?_
        refine e_icmp_ne (tgt := 156) dX9_played_151 (by decide) (fun h151 => ?_) (fun h => absurd h (by omega))
        refine e_iinc2 dX9_played_156 rfl (⟨by omega, by omega⟩) rfl ?_
        refine e_goto (tgt := 21) dX9_played_159 (by decide) ?_
        exact ih
    have b4 : c.1 = 4 → kd i = 4 ∧ nu (i * 3) = c.2.1 ∧ nu (i * 3 + 1) = c.2.2.1 ∧ nu (i * 3 + 2) = c.2.2.2.1 := fun e => ⟨hkc.1.trans e, hkc.2.1 (by omega), (hkc.2.2 e).1, (hkc.2.2 e).2⟩
    by_cases k4 : c.1 = 4
    · have e4 := b4 k4
      have hcall := ct_X9_buy (l := l) (w := w) (d := d - 1) (by omega) hg (h := c.2.2.2.1) (c := c.2.2.1) (i := c.2.1)
      have n2 := hm.2.2.2 k4
      have n1 := hm.2.2.1 (by omega)
      refine e_iload2 dX9_played_21 ?_
      refine e_aload0 dX9_played_22 ?_
      refine e_getR fl_X9_27 la_134 rfl dX9_played_23 ?_
      refine e_iload1 dX9_played_26 ?_
      refine e_ialdK (k := t) la_138 (by omega) (by omega) dX9_played_27 ?_
      refine WW.ec (y := (acc.length : Int)) (hS2.1) ?_
      refine e_icmp_ge (tgt := 162) dX9_played_28 (by decide) (fun h28 => ?_) (fun h28 => ?_)
      · omega
      · refine e_bipush dX9_played_31 rfl kb_24 ?_
        refine e_iload1 dX9_played_33 ?_
        refine e_imul dX9_played_34 (⟨by omega, by omega⟩) ?_
        refine e_iload2 dX9_played_35 ?_
        refine e_iadd dX9_played_36 (⟨by omega, by omega⟩) ?_
        refine WW.ec (y := ((24 * t + i : Nat) : Int)) (by omega) ?_
        refine e_istore3 dX9_played_37 rfl ?_
        refine e_iconst dX9_played_38 rfl kc_0 ?_
        refine e_istore4 dX9_played_39 rfl ?_
        refine e_aload0 dX9_played_41 ?_
        refine e_getR fl_X9_30 la_134 rfl dX9_played_42 ?_
        refine e_iload3 dX9_played_45 ?_
        refine e_ialdK (k := 24 * t + i) la_139 (by omega) (by omega) dX9_played_46 ?_
        refine WW.ec (y := 4) (by rw [hm.1, k4]) ?_
        refine e_table (tgt := 148) dX9_played_47 (by decide) (fun _ _ => ⟨29, 76, rfl, by decide, ?_⟩) (fun h => absurd h (by decide))
        refine e_aload0 dX9_played_76 ?_
        refine e_aload0 dX9_played_77 ?_
        refine e_getR fl_X9_42 la_134 rfl dX9_played_78 ?_
        refine e_iload3 dX9_played_81 ?_
        refine e_ialdK (k := 24 * t + i) la_143 (by omega) (by omega) dX9_played_82 ?_
        refine WW.ec (y := c.2.2.2.1) (n2.2) ?_
        refine e_aload0 dX9_played_83 ?_
        refine e_getR fl_X9_39 la_134 rfl dX9_played_84 ?_
        refine e_iload3 dX9_played_87 ?_
        refine e_ialdK (k := 24 * t + i) la_142 (by omega) (by omega) dX9_played_88 ?_
        refine WW.ec (y := c.2.2.1) (n2.1) ?_
        refine e_aload0 dX9_played_89 ?_
        refine e_getR fl_X9_36 la_134 rfl dX9_played_90 ?_
        refine e_iload3 dX9_played_93 ?_
        refine e_ialdK (k := 24 * t + i) la_141 (by omega) (by omega) dX9_played_94 ?_
        refine WW.ec (y := c.2.1) (n1) ?_
        refine e_cVGI (hcall) cy_X9_buy cv_X9_buy ml_X9_346 la_134 rfl rfl rfl (rok (by omega) (by decide)) (Nat.le_of_ble_eq_true rfl) dX9_played_95 (fun x N2 hx => ?_)
        have hnx := h148 N2 x (hf.tr hx.2.1) (by unfold doX; rw [if_pos e4.1, e4.2.1, e4.2.2.1, e4.2.2.2]; exact hx.1) (by unfold doZ; rw [if_pos e4.1, e4.2.1, e4.2.2.1, e4.2.2.2]; exact hx.2.2)
        refine e_istore4 dX9_played_98 rfl ?_
        refine e_goto (tgt := 148) dX9_played_100 (by decide) ?_
        exact hnx
    by_cases k5 : c.1 = 5
    · have hcall := ct_X9_light (l := l) (w := w) (d := d - 1) (by omega) hg (c := c.2.1)
      have n1 := hm.2.2.1 (by omega)
      have e1 : kd i = 5 := hkc.1.trans k5
      have e2 := hkc.2.1 (by omega)
      refine e_iload2 dX9_played_21 ?_
      refine e_aload0 dX9_played_22 ?_
      refine e_getR fl_X9_27 la_134 rfl dX9_played_23 ?_
      refine e_iload1 dX9_played_26 ?_
      refine e_ialdK (k := t) la_138 (by omega) (by omega) dX9_played_27 ?_
      refine WW.ec (y := (acc.length : Int)) (hS2.1) ?_
      refine e_icmp_ge (tgt := 162) dX9_played_28 (by decide) (fun h28 => ?_) (fun h28 => ?_)
      · omega
      · refine e_bipush dX9_played_31 rfl kb_24 ?_
        refine e_iload1 dX9_played_33 ?_
        refine e_imul dX9_played_34 (⟨by omega, by omega⟩) ?_
        refine e_iload2 dX9_played_35 ?_
        refine e_iadd dX9_played_36 (⟨by omega, by omega⟩) ?_
        refine WW.ec (y := ((24 * t + i : Nat) : Int)) (by omega) ?_
        refine e_istore3 dX9_played_37 rfl ?_
        refine e_iconst dX9_played_38 rfl kc_0 ?_
        refine e_istore4 dX9_played_39 rfl ?_
        refine e_aload0 dX9_played_41 ?_
        refine e_getR fl_X9_30 la_134 rfl dX9_played_42 ?_
        refine e_iload3 dX9_played_45 ?_
        refine e_ialdK (k := 24 * t + i) la_139 (by omega) (by omega) dX9_played_46 ?_
        refine WW.ec (y := 5) (by rw [hm.1, k5]) ?_
        refine e_table (tgt := 148) dX9_played_47 (by decide) (fun _ _ => ⟨56, 103, rfl, by decide, ?_⟩) (fun h => absurd h (by decide))
        refine e_aload0 dX9_played_103 ?_
        refine e_aload0 dX9_played_104 ?_
        refine e_getR fl_X9_36 la_134 rfl dX9_played_105 ?_
        refine e_iload3 dX9_played_108 ?_
        refine e_ialdK (k := 24 * t + i) la_141 (by omega) (by omega) dX9_played_109 ?_
        refine WW.ec (y := c.2.1) (n1) ?_
        refine e_cVGI (hcall) cy_X9_light cv_X9_light ml_X9_350 la_134 rfl rfl rfl (rok (by omega) (by decide)) (Nat.le_of_ble_eq_true rfl) dX9_played_110 (fun x N2 hx => ?_)
        have hnx := h148 N2 x (hf.tr hx.2.1) (by unfold doX; rw [if_neg (by omega), if_pos e1, e2]; exact hx.1) (by unfold doZ; rw [if_neg (by omega), if_pos e1, e2]; exact hx.2.2)
        refine e_istore4 dX9_played_113 rfl ?_
        refine e_goto (tgt := 148) dX9_played_115 (by decide) ?_
        exact hnx
    by_cases k6 : c.1 = 6
    · have hcall := ct_X9_burn (l := l) (w := w) (d := d - 1) (by omega) hg (c := c.2.1)
      have n1 := hm.2.2.1 (by omega)
      have e1 : kd i = 6 := hkc.1.trans k6
      have e2 := hkc.2.1 (by omega)
      refine e_iload2 dX9_played_21 ?_
      refine e_aload0 dX9_played_22 ?_
      refine e_getR fl_X9_27 la_134 rfl dX9_played_23 ?_
      refine e_iload1 dX9_played_26 ?_
      refine e_ialdK (k := t) la_138 (by omega) (by omega) dX9_played_27 ?_
      refine WW.ec (y := (acc.length : Int)) (hS2.1) ?_
      refine e_icmp_ge (tgt := 162) dX9_played_28 (by decide) (fun h28 => ?_) (fun h28 => ?_)
      · omega
      · refine e_bipush dX9_played_31 rfl kb_24 ?_
        refine e_iload1 dX9_played_33 ?_
        refine e_imul dX9_played_34 (⟨by omega, by omega⟩) ?_
        refine e_iload2 dX9_played_35 ?_
        refine e_iadd dX9_played_36 (⟨by omega, by omega⟩) ?_
        refine WW.ec (y := ((24 * t + i : Nat) : Int)) (by omega) ?_
        refine e_istore3 dX9_played_37 rfl ?_
        refine e_iconst dX9_played_38 rfl kc_0 ?_
        refine e_istore4 dX9_played_39 rfl ?_
        refine e_aload0 dX9_played_41 ?_
        refine e_getR fl_X9_30 la_134 rfl dX9_played_42 ?_
        refine e_iload3 dX9_played_45 ?_
        refine e_ialdK (k := 24 * t + i) la_139 (by omega) (by omega) dX9_played_46 ?_
        refine WW.ec (y := 6) (by rw [hm.1, k6]) ?_
        refine e_table (tgt := 148) dX9_played_47 (by decide) (fun _ _ => ⟨71, 118, rfl, by decide, ?_⟩) (fun h => absurd h (by decide))
        refine e_aload0 dX9_played_118 ?_
        refine e_aload0 dX9_played_119 ?_
        refine e_getR fl_X9_36 la_134 rfl dX9_played_120 ?_
        refine e_iload3 dX9_played_123 ?_
        refine e_ialdK (k := 24 * t + i) la_141 (by omega) (by omega) dX9_played_124 ?_
        refine WW.ec (y := c.2.1) (n1) ?_
        refine e_cVGI (hcall) cy_X9_burn cv_X9_burn ml_X9_353 la_134 rfl rfl rfl (rok (by omega) (by decide)) (Nat.le_of_ble_eq_true rfl) dX9_played_125 (fun x N2 hx => ?_)
        have hnx := h148 N2 x (hf.tr hx.2.1) (by unfold doX; rw [if_neg (by omega), if_neg (by omega), if_pos e1, e2]; exact hx.1) (by unfold doZ; rw [if_neg (by omega), if_neg (by omega), if_pos e1, e2]; exact hx.2.2)
        refine e_istore4 dX9_played_128 rfl ?_
        refine e_goto (tgt := 148) dX9_played_130 (by decide) ?_
        exact hnx
    by_cases k7 : c.1 = 7
    · have hcall := ct_X9_moths (l := l) (w := w) (d := d - 1) (by omega) hg (n := c.2.1)
      have n1 := hm.2.2.1 (by omega)
      have e1 : kd i = 7 := hkc.1.trans k7
      have e2 := hkc.2.1 (by omega)
      refine e_iload2 dX9_played_21 ?_
      refine e_aload0 dX9_played_22 ?_
      refine e_getR fl_X9_27 la_134 rfl dX9_played_23 ?_
      refine e_iload1 dX9_played_26 ?_
      refine e_ialdK (k := t) la_138 (by omega) (by omega) dX9_played_27 ?_
      refine WW.ec (y := (acc.length : Int)) (hS2.1) ?_
      refine e_icmp_ge (tgt := 162) dX9_played_28 (by decide) (fun h28 => ?_) (fun h28 => ?_)
      · omega
      · refine e_bipush dX9_played_31 rfl kb_24 ?_
        refine e_iload1 dX9_played_33 ?_
        refine e_imul dX9_played_34 (⟨by omega, by omega⟩) ?_
        refine e_iload2 dX9_played_35 ?_
        refine e_iadd dX9_played_36 (⟨by omega, by omega⟩) ?_
        refine WW.ec (y := ((24 * t + i : Nat) : Int)) (by omega) ?_
        refine e_istore3 dX9_played_37 rfl ?_
        refine e_iconst dX9_played_38 rfl kc_0 ?_
        refine e_istore4 dX9_played_39 rfl ?_
        refine e_aload0 dX9_played_41 ?_
        refine e_getR fl_X9_30 la_134 rfl dX9_played_42 ?_
        refine e_iload3 dX9_played_45 ?_
        refine e_ialdK (k := 24 * t + i) la_139 (by omega) (by omega) dX9_played_46 ?_
        refine WW.ec (y := 7) (by rw [hm.1, k7]) ?_
        refine e_table (tgt := 148) dX9_played_47 (by decide) (fun _ _ => ⟨86, 133, rfl, by decide, ?_⟩) (fun h => absurd h (by decide))
        refine e_aload0 dX9_played_133 ?_
        refine e_aload0 dX9_played_134 ?_
        refine e_getR fl_X9_36 la_134 rfl dX9_played_135 ?_
        refine e_iload3 dX9_played_138 ?_
        refine e_ialdK (k := 24 * t + i) la_141 (by omega) (by omega) dX9_played_139 ?_
        refine WW.ec (y := c.2.1) (n1) ?_
        refine e_cVGI (hcall) cy_X9_moths cv_X9_moths ml_X9_356 la_134 rfl rfl rfl (rok (by omega) (by decide)) (Nat.le_of_ble_eq_true rfl) dX9_played_140 (fun x N2 hx => ?_)
        have hnx := h148 N2 x (hf.tr hx.2.1) (by unfold doX; rw [if_neg (by omega), if_neg (by omega), if_neg (by omega), if_pos e1, e2]; exact hx.1) (by unfold doZ; rw [if_neg (by omega), if_neg (by omega), if_neg (by omega), if_pos e1, e2]; exact hx.2.2)
        refine e_istore4 dX9_played_143 rfl ?_
        refine e_goto (tgt := 148) dX9_played_145 (by decide) ?_
        exact hnx
    have e1 := hkc.1
    have hnx := h148 N 0 hf (by unfold doX; rw [if_neg (by omega), if_neg (by omega), if_neg (by omega), if_neg (by omega)]) (by unfold doZ; rw [if_neg (by omega), if_neg (by omega), if_neg (by omega), if_neg (by omega)]; exact hg)
    refine e_iload2 dX9_played_21 ?_
    refine e_aload0 dX9_played_22 ?_
    refine e_getR fl_X9_27 la_134 rfl dX9_played_23 ?_
    refine e_iload1 dX9_played_26 ?_
    refine e_ialdK (k := t) la_138 (by omega) (by omega) dX9_played_27 ?_
    refine WW.ec (y := (acc.length : Int)) (hS2.1) ?_
    refine e_icmp_ge (tgt := 162) dX9_played_28 (by decide) (fun h28 => ?_) (fun h28 => ?_)
    · omega
    · refine e_bipush dX9_played_31 rfl kb_24 ?_
      refine e_iload1 dX9_played_33 ?_
      refine e_imul dX9_played_34 (⟨by omega, by omega⟩) ?_
      refine e_iload2 dX9_played_35 ?_
      refine e_iadd dX9_played_36 (⟨by omega, by omega⟩) ?_
      refine WW.ec (y := ((24 * t + i : Nat) : Int)) (by omega) ?_
      refine e_istore3 dX9_played_37 rfl ?_
      refine e_iconst dX9_played_38 rfl kc_0 ?_
      refine e_istore4 dX9_played_39 rfl ?_
      refine e_aload0 dX9_played_41 ?_
      refine e_getR fl_X9_30 la_134 rfl dX9_played_42 ?_
      refine e_iload3 dX9_played_45 ?_
      refine e_ialdK (k := 24 * t + i) la_139 (by omega) (by omega) dX9_played_46 ?_
      refine WW.ec (y := c.1) (hm.1) ?_
      refine e_table (tgt := 148) dX9_played_47 (by decide) (fun a b => absurd (And.intro a b) (by omega)) (fun _ => ?_)
      exact hnx
theorem ct_X9_played {G : Mem} (hd : 8 ≤ d) (hg : GS G M) {t : Int} : GI l w yX9_played cX9_played 5 .int d [vR 134, vI t] M (fun x M1 => FD M M1 ∧ ((isT G t ∧ x = playX (G (94 + 6 * t.toNat)) (G (95 + 6 * t.toNat)) (G (90 + 6 * t.toNat) 6).toNat 0 G ∧ GS (playZ (G (94 + 6 * t.toNat)) (G (95 + 6 * t.toNat)) (G (90 + 6 * t.toNat) 6).toNat 0 G) M1) ∨ (¬ isT G t ∧ x = -2 ∧ GS G M1))) := by
  have e2 : M 135 2 = G 1 15 := hg.2.2.1.1.1.2.2.1
  have hT := hg.2.2.2
  have h15 := hT.1
  refine MT.of [some (vR 134), some (vI t), none, none, none] ⟨by decide, rfl⟩ rfl (Nat.le_of_ble_eq_true rfl) (fun hA hM => ?_)
  by_cases it : isT G t
  · obtain ⟨j, rfl⟩ : ∃ j : Nat, t = j := ⟨t.toNat, by have := it.1; omega⟩
    have itb := it.2
    obtain ⟨acc, ⟨hS, _⟩, ha, hM2⟩ := hT.2.2 j itb
    rw [toN]
    have hl := mp_loop (l := l) (w := w) (d := d) (M := M) (Q := fun r M1 => ∃ x, r = some (vI x) ∧ FD M M1 ∧ ((isT G (j : Int) ∧ x = playX (G (94 + 6 * j)) (G (95 + 6 * j)) (G (90 + 6 * j) 6).toNat 0 G ∧ GS (playZ (G (94 + 6 * j)) (G (95 + 6 * j)) (G (90 + 6 * j) 6).toNat 0 G) M1) ∨ (¬ isT G (j : Int) ∧ x = -2 ∧ GS G M1))) (t := j) (acc := acc) (kd := G (94 + 6 * j)) (nu := G (95 + 6 * j)) (by omega) (by omega) ha hM2 hS.2.1 acc.length 0 G M none none (by omega) (FD.rf M) hg (fun N' hf hg' => ⟨_, rfl, hf, Or.inl ⟨it, by rw [show (G (90 + 6 * j) 6).toNat = acc.length by rw [hS.1.1, toN]], by rw [show (G (90 + 6 * j) 6).toNat = acc.length by rw [hS.1.1, toN]]; exact hg'⟩⟩)
    refine e_iload1 dX9_played_0 ?_
    refine e_iconst dX9_played_1 rfl kc_0 ?_
    refine e_aload0 dX9_played_2 ?_
    refine e_getR fl_X9_7 la_134 rfl dX9_played_3 ?_
    refine e_iconst dX9_played_6 rfl kc_2 ?_
    refine e_ialdK (k := 2) la_135 (by decide) (rfl) dX9_played_7 ?_
    refine WW.ec (y := G 1 15) (e2) ?_
    refine e_iconst dX9_played_8 rfl kc_1 ?_
    refine e_isub dX9_played_9 (⟨by omega, by omega⟩) ?_
    refine e_cSZ (ct_X9_in (d := d - 1)) cy_X9_in cs_X9_in ml_X9_120 rfl rfl (rok (by omega) (by decide)) (Nat.le_of_ble_eq_true rfl) dX9_played_10 (fun g10 => ?_) (fun g10 => ?_)
    · refine e_if_ne (tgt := 19) dX9_played_13 (by decide) (fun _ => ?_) (fun h => absurd h (by decide))
      refine e_iconst dX9_played_19 rfl kc_0 ?_
      refine e_istore2 dX9_played_20 rfl ?_
      exact hl
    · refine e_if_ne (tgt := 19) dX9_played_13 (by decide) (fun h => absurd h (by decide)) (fun _ => ?_)
      exact absurd (And.intro it.1 (by omega)) g10
  · refine e_iload1 dX9_played_0 ?_
    refine e_iconst dX9_played_1 rfl kc_0 ?_
    refine e_aload0 dX9_played_2 ?_
    refine e_getR fl_X9_7 la_134 rfl dX9_played_3 ?_
    refine e_iconst dX9_played_6 rfl kc_2 ?_
    refine e_ialdK (k := 2) la_135 (by decide) (rfl) dX9_played_7 ?_
    refine WW.ec (y := G 1 15) (e2) ?_
    refine e_iconst dX9_played_8 rfl kc_1 ?_
    refine e_isub dX9_played_9 (⟨by omega, by omega⟩) ?_
    refine e_cSZ (ct_X9_in (d := d - 1)) cy_X9_in cs_X9_in ml_X9_120 rfl rfl (rok (by omega) (by decide)) (Nat.le_of_ble_eq_true rfl) dX9_played_10 (fun g10 => ?_) (fun g10 => ?_)
    · refine e_if_ne (tgt := 19) dX9_played_13 (by decide) (fun _ => ?_) (fun h => absurd h (by decide))
      exact absurd ⟨g10.1, by omega⟩ it
    · refine e_if_ne (tgt := 19) dX9_played_13 (by decide) (fun h => absurd h (by decide)) (fun _ => ?_)
      refine e_bipush dX9_played_16 rfl kb_m2 ?_
      refine e_iret dX9_played_18 ?_
      exact ⟨_, rfl, FD.rf M, Or.inr ⟨it, rfl, hg⟩⟩
end MPLAY
