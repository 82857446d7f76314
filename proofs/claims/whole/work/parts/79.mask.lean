/-! THE MODEL IS ASKED -/
/-- the same but for the model's scratch rows -/
def FQ (M M1 : Mem) : Prop := ∀ o, (o < 156 ∨ 166 < o) → M1 o = M o
theorem FQ.rf (M : Mem) : FQ M M := fun _ _ => rfl
theorem FQ.tr {M M1 M2 : Mem} (h : FQ M M1) (h2 : FQ M1 M2) : FQ M M2 := fun o a => (h2 o a).trans (h o a)
theorem FM.fq {M M1 : Mem} (h : FM M M1) : FQ M M1 := fun o a => h o (by omega) (by omega)
theorem FQ.up {M M1 : Mem} {o k : Nat} {v : Int} (h : FQ M M1) (ho : 156 ≤ o ∧ o ≤ 166) : FQ M (up M1 o k v) := fun q a => by rw [up_row (by omega)]; exact h q a
theorem GS.fq {G M M1 : Mem} (h : GS G M) (hf : FQ M M1) : GS G M1 := ⟨h.1, h.2.1, by rw [hf 135 (by decide)]; exact h.2.2.1, h.2.2.2.fr rfl rfl (fun _ _ _ => rfl) (fun o a b => hf o (by omega))⟩
theorem GS.gm {G M : Mem} (h : GS G M) : GM G := h.1.gm
theorem GS.isH {G M : Mem} (h : GS G M) (x : Int) : (0 ≤ x ∧ x < M 135 0) ↔ isH G x := by rw [h.2.2.1.1.1.1]
theorem GS.isC {G M : Mem} (h : GS G M) (x : Int) : (0 ≤ x ∧ x < M 135 1) ↔ isC G x := by rw [h.2.2.1.1.1.2.1]
/-- a candle told, as both hold it -/
theorem GS.cn {G M : Mem} (h : GS G M) {c : Nat} (hc : (c : Int) < G 1 5) : (M 135 (20 + 2 * c) = G 6 c ∧ M 135 (21 + 2 * c) = G 7 c) ∧ (M 135 (64 + 15 * c + 0) = G 8 c ∧ M 135 (64 + 15 * c + 1) = G 9 c ∧ M 135 (64 + 15 * c + 2) = G 10 c) ∧ (∀ i : Nat, (i : Int) < G 7 c → M 135 (67 + 15 * c + i) = ownr G c i) ∧ (c < 6 ∧ (1 ≤ G 7 c ∧ G 7 c ≤ 12) ∧ (0 ≤ G 10 c ∧ G 10 c ≤ G 7 c) ∧ (1 ≤ G 6 c ∧ G 6 c ≤ 9) ∧ 0 ≤ G 8 c ∧ G 8 c ≤ 3) := by
  have hG := h.gm
  have i5 := hG.1.1.2.1
  have h7 := hG.1.1.2.2 c (by omega)
  have h6 := hG.1.2.2.1 c (by omega)
  have th := h.2.1 c hc
  have a := h.2.2.1.1.2.2 c hc
  have b := h.2.2.1.c0 hc
  have h10 := hG.2.2.1.2 c ⟨by omega, hc⟩
  have h8 := (hG.2.2.2.2.2 c ⟨by omega, hc⟩).1
  rw [toN] at h10 h8
  refine ⟨a, ⟨b.1, b.2.1, b.2.2.1⟩, fun i hi => ?_, by omega, by omega, h10, by omega, h8⟩
  rw [b.2.2.2 i (by omega)]
  unfold ownr
  rw [if_pos ⟨⟨by omega, hc⟩, by omega, by rw [toN]; exact hi⟩]
  congr 1
  omega
section MASK
variable {l : Launch} {w : Wd} {d : Nat} {M : Mem} {Q : Option MV → Mem → Prop}
theorem ct_X9_houseOf {G : Mem} (hd : 2 ≤ d) (hg : GS G M) {h k : Int} : PI l w yX9_houseOf cX9_houseOf 3 d [vR 134, vI h, vI k] M (houseOfV G h k) M := by
  have nn := hg.nn
  have e0 := hg.2.2.1.1.1.1
  refine MT.of [some (vR 134), some (vI h), some (vI k)] ⟨by decide, rfl⟩ rfl (Nat.le_of_ble_eq_true rfl) (fun hA hM => ?_)
  by_cases hh : isH G h
  · obtain ⟨h', rfl⟩ : ∃ n : Nat, h = n := ⟨h.toNat, by have := hh.1; omega⟩
    have hh1 := hh.2
    have aw := hg.2.2.1.h0 hh1
    have a10 := hg.2.2.1.1.2.1 h' hh1
    unfold houseOfV
    rw [if_pos hh, toN]
    refine e_aload0 dX9_houseOf_0 ?_
    refine e_iload1 dX9_houseOf_1 ?_
    refine e_cVZ (ct_X9_isHouse (d := d - 1) (by omega) nn.1) cy_X9_isHouse cv_X9_isHouse ml_X9_317 la_134 rfl rfl rfl (rok (by omega) (by decide)) (Nat.le_of_ble_eq_true rfl) dX9_houseOf_2 (fun g2 => ?_) (fun g2 => ?_)
    · refine e_if_ne (tgt := 11) dX9_houseOf_5 (by decide) (fun _ => ?_) (fun h => absurd h (by decide))
      refine e_iload2 dX9_houseOf_11 ?_
      refine e_table (tgt := 84) dX9_houseOf_12 (by decide) (fun hl12 hh12 => ?_) (fun h12 => ?_)
      · rcases (show k = 0 ∨ k = 1 ∨ k = 2 ∨ k = 3 by omega) with hs12 | hs12 | hs12 | hs12
        · refine ⟨32, 44, (by rw [hs12]; rfl), by decide, ?_⟩
          refine e_aload0 dX9_houseOf_44 ?_
          refine e_getR fl_X9_7 la_134 rfl dX9_houseOf_45 ?_
          refine e_bipush dX9_houseOf_48 rfl kb_10 ?_
          refine e_iload1 dX9_houseOf_50 ?_
          refine e_iadd dX9_houseOf_51 (⟨by omega, by omega⟩) ?_
          refine e_ialdK (k := 10 + h') la_135 (by omega) (by omega) dX9_houseOf_52 ?_
          refine WW.ec (y := G 2 h') (a10) ?_
          refine e_iret dX9_houseOf_53 ?_
          exact ⟨rfl, by rw [if_pos hs12]⟩
        · refine ⟨42, 54, (by rw [hs12]; rfl), by decide, ?_⟩
          refine e_aload0 dX9_houseOf_54 ?_
          refine e_getR fl_X9_7 la_134 rfl dX9_houseOf_55 ?_
          refine e_bipush dX9_houseOf_58 rfl kb_40 ?_
          refine e_iload1 dX9_houseOf_60 ?_
          refine e_iadd dX9_houseOf_61 (⟨by omega, by omega⟩) ?_
          refine e_ialdK (k := 40 + h') la_135 (by omega) (by omega) dX9_houseOf_62 ?_
          refine WW.ec (y := G 3 h') (aw.1) ?_
          refine e_iret dX9_houseOf_63 ?_
          exact ⟨rfl, by rw [if_neg (by omega), if_pos hs12]⟩
        · refine ⟨52, 64, (by rw [hs12]; rfl), by decide, ?_⟩
          refine e_aload0 dX9_houseOf_64 ?_
          refine e_getR fl_X9_7 la_134 rfl dX9_houseOf_65 ?_
          refine e_bipush dX9_houseOf_68 rfl kb_48 ?_
          refine e_iload1 dX9_houseOf_70 ?_
          refine e_iadd dX9_houseOf_71 (⟨by omega, by omega⟩) ?_
          refine e_ialdK (k := 48 + h') la_135 (by omega) (by omega) dX9_houseOf_72 ?_
          refine WW.ec (y := G 4 h') (aw.2.1) ?_
          refine e_iret dX9_houseOf_73 ?_
          exact ⟨rfl, by rw [if_neg (by omega), if_neg (by omega), if_pos hs12]⟩
        · refine ⟨62, 74, (by rw [hs12]; rfl), by decide, ?_⟩
          refine e_aload0 dX9_houseOf_74 ?_
          refine e_getR fl_X9_7 la_134 rfl dX9_houseOf_75 ?_
          refine e_bipush dX9_houseOf_78 rfl kb_56 ?_
          refine e_iload1 dX9_houseOf_80 ?_
          refine e_iadd dX9_houseOf_81 (⟨by omega, by omega⟩) ?_
          refine e_ialdK (k := 56 + h') la_135 (by omega) (by omega) dX9_houseOf_82 ?_
          refine WW.ec (y := G 5 h') (aw.2.2) ?_
          refine e_iret dX9_houseOf_83 ?_
          exact ⟨rfl, by rw [if_neg (by omega), if_neg (by omega), if_neg (by omega), if_pos hs12]⟩
      · refine e_bipush dX9_houseOf_84 rfl kb_m2 ?_
        refine e_iret dX9_houseOf_86 ?_
        exact ⟨rfl, by rw [if_neg (by omega), if_neg (by omega), if_neg (by omega), if_neg (by omega)]⟩
    · refine e_if_ne (tgt := 11) dX9_houseOf_5 (by decide) (fun h => absurd h (by decide)) (fun _ => ?_)
      refine e_bipush dX9_houseOf_8 rfl kb_m2 ?_
      refine e_iret dX9_houseOf_10 ?_
      exact absurd ⟨hh.1, by omega⟩ g2
  · unfold houseOfV
    rw [if_neg hh]
    refine e_aload0 dX9_houseOf_0 ?_
    refine e_iload1 dX9_houseOf_1 ?_
    refine e_cVZ (ct_X9_isHouse (d := d - 1) (by omega) nn.1) cy_X9_isHouse cv_X9_isHouse ml_X9_317 la_134 rfl rfl rfl (rok (by omega) (by decide)) (Nat.le_of_ble_eq_true rfl) dX9_houseOf_2 (fun g2 => ?_) (fun g2 => ?_)
    · refine e_if_ne (tgt := 11) dX9_houseOf_5 (by decide) (fun _ => ?_) (fun h => absurd h (by decide))
      exact absurd ((hg.isH h).mp g2) hh
    · refine e_if_ne (tgt := 11) dX9_houseOf_5 (by decide) (fun h => absurd h (by decide)) (fun _ => ?_)
      refine e_bipush dX9_houseOf_8 rfl kb_m2 ?_
      refine e_iret dX9_houseOf_10 ?_
      exact ⟨rfl, rfl⟩
theorem ct_X9_candleOf {G : Mem} (hd : 2 ≤ d) (hg : GS G M) {c k : Int} : PI l w yX9_candleOf cX9_candleOf 3 d [vR 134, vI c, vI k] M (candleOfV G c k) M := by
  have nn := hg.nn
  refine MT.of [some (vR 134), some (vI c), some (vI k)] ⟨by decide, rfl⟩ rfl (Nat.le_of_ble_eq_true rfl) (fun hA hM => ?_)
  by_cases hc : isC G c
  · obtain ⟨c', rfl⟩ : ∃ n : Nat, c = n := ⟨c.toNat, by have := hc.1; omega⟩
    obtain ⟨⟨a1, a2⟩, ⟨a3, a4, a5⟩, a6, h6, h7, h10, h61, h8⟩ := hg.cn hc.2
    unfold candleOfV
    rw [if_pos hc]
    by_cases hi : 10 ≤ k ∧ k ≤ 9 + G 7 c'
    · obtain ⟨i', ei⟩ : ∃ n : Nat, k - 10 = n := ⟨(k - 10).toNat, by omega⟩
      have eo := a6 i' (by omega)
      have hin : isIn G c' (k - 10) := ⟨hc, by omega, by rw [toN]; omega⟩
      rw [if_neg (by omega), if_neg (by omega), if_neg (by omega), if_neg (by omega), if_neg (by omega), if_pos ⟨hi.1, hin⟩, ei]
      refine e_aload0 dX9_candleOf_0 ?_
      refine e_iload1 dX9_candleOf_1 ?_
      refine e_cVZ (ct_X9_isCandle (d := d - 1) (by omega) nn.2.1) cy_X9_isCandle cv_X9_isCandle ml_X9_320 la_134 rfl rfl rfl (rok (by omega) (by decide)) (Nat.le_of_ble_eq_true rfl) dX9_candleOf_2 (fun g2 => ?_) (fun g2 => ?_)
      · refine e_if_ne (tgt := 11) dX9_candleOf_5 (by decide) (fun _ => ?_) (fun h => absurd h (by decide))
        refine e_iload2 dX9_candleOf_11 ?_
        refine e_bipush dX9_candleOf_12 rfl kb_10 ?_
        refine e_bipush dX9_candleOf_14 rfl kb_9 ?_
        refine e_aload0 dX9_candleOf_16 ?_
        refine e_iload1 dX9_candleOf_17 ?_
        refine e_cVI (ct_X9_inchesOf (d := d - 1) h6) cy_X9_inchesOf cv_X9_inchesOf ml_X9_310 la_134 rfl rfl rfl (rok (by omega) (by decide)) (Nat.le_of_ble_eq_true rfl) dX9_candleOf_18 ?_
        refine WW.ec (y := G 7 c') (a2) ?_
        refine e_iadd dX9_candleOf_21 (⟨by omega, by omega⟩) ?_
        refine e_cSZ (ct_X9_in (d := d - 1)) cy_X9_in cs_X9_in ml_X9_120 rfl rfl (rok (by omega) (by decide)) (Nat.le_of_ble_eq_true rfl) dX9_candleOf_22 (fun g22 => ?_) (fun g22 => ?_)
        · refine e_if_eq (tgt := 38) dX9_candleOf_25 (by decide) (fun h => absurd h (by decide)) (fun _ => ?_)
          refine e_aload0 dX9_candleOf_28 ?_
          refine e_iload1 dX9_candleOf_29 ?_
          refine e_iload2 dX9_candleOf_30 ?_
          refine e_bipush dX9_candleOf_31 rfl kb_10 ?_
          refine e_isub dX9_candleOf_33 (⟨by omega, by omega⟩) ?_
          refine WW.ec (y := (i' : Int)) (ei) ?_
          refine e_cVI (ct_X9_ownerOf (d := d - 1) h6 (by omega)) cy_X9_ownerOf cv_X9_ownerOf ml_X9_330 la_134 rfl rfl rfl (rok (by omega) (by decide)) (Nat.le_of_ble_eq_true rfl) dX9_candleOf_34 ?_
          refine WW.ec (y := ownr G c' i') (eo) ?_
          refine e_iret dX9_candleOf_37 ?_
          exact ⟨rfl, rfl⟩
        · refine e_if_eq (tgt := 38) dX9_candleOf_25 (by decide) (fun _ => ?_) (fun h => absurd h (by decide))
          exact absurd hi g22
      · refine e_if_ne (tgt := 11) dX9_candleOf_5 (by decide) (fun h => absurd h (by decide)) (fun _ => ?_)
        refine e_bipush dX9_candleOf_8 rfl kb_m2 ?_
        refine e_iret dX9_candleOf_10 ?_
        exact absurd ((hg.isC _).mpr hc) g2
    · have hin : ¬ (10 ≤ k ∧ isIn G c' (k - 10)) := fun z => hi ⟨z.1, by have := z.2.2.2; rw [toN] at this; omega⟩
      refine e_aload0 dX9_candleOf_0 ?_
      refine e_iload1 dX9_candleOf_1 ?_
      refine e_cVZ (ct_X9_isCandle (d := d - 1) (by omega) nn.2.1) cy_X9_isCandle cv_X9_isCandle ml_X9_320 la_134 rfl rfl rfl (rok (by omega) (by decide)) (Nat.le_of_ble_eq_true rfl) dX9_candleOf_2 (fun g2 => ?_) (fun g2 => ?_)
      · refine e_if_ne (tgt := 11) dX9_candleOf_5 (by decide) (fun _ => ?_) (fun h => absurd h (by decide))
        refine e_iload2 dX9_candleOf_11 ?_
        refine e_bipush dX9_candleOf_12 rfl kb_10 ?_
        refine e_bipush dX9_candleOf_14 rfl kb_9 ?_
        refine e_aload0 dX9_candleOf_16 ?_
        refine e_iload1 dX9_candleOf_17 ?_
        refine e_cVI (ct_X9_inchesOf (d := d - 1) h6) cy_X9_inchesOf cv_X9_inchesOf ml_X9_310 la_134 rfl rfl rfl (rok (by omega) (by decide)) (Nat.le_of_ble_eq_true rfl) dX9_candleOf_18 ?_
        refine WW.ec (y := G 7 c') (a2) ?_
        refine e_iadd dX9_candleOf_21 (⟨by omega, by omega⟩) ?_
        refine e_cSZ (ct_X9_in (d := d - 1)) cy_X9_in cs_X9_in ml_X9_120 rfl rfl (rok (by omega) (by decide)) (Nat.le_of_ble_eq_true rfl) dX9_candleOf_22 (fun g22 => ?_) (fun g22 => ?_)
        · refine e_if_eq (tgt := 38) dX9_candleOf_25 (by decide) (fun h => absurd h (by decide)) (fun _ => ?_)
          exact absurd g22 hi
        · refine e_if_eq (tgt := 38) dX9_candleOf_25 (by decide) (fun _ => ?_) (fun h => absurd h (by decide))
          refine e_iload2 dX9_candleOf_38 ?_
          refine e_table (tgt := 105) dX9_candleOf_39 (by decide) (fun hl39 hh39 => ?_) (fun h39 => ?_)
          · rcases (show k = 0 ∨ k = 1 ∨ k = 2 ∨ k = 3 ∨ k = 4 by omega) with hs39 | hs39 | hs39 | hs39 | hs39
            · refine ⟨33, 72, (by rw [hs39]; rfl), by decide, ?_⟩
              refine e_aload0 dX9_candleOf_72 ?_
              refine e_iload1 dX9_candleOf_73 ?_
              refine e_cVI (ct_X9_thickOf (d := d - 1) h6) cy_X9_thickOf cv_X9_thickOf ml_X9_307 la_134 rfl rfl rfl (rok (by omega) (by decide)) (Nat.le_of_ble_eq_true rfl) dX9_candleOf_74 ?_
              refine WW.ec (y := G 6 c') (a1) ?_
              refine e_iret dX9_candleOf_77 ?_
              exact ⟨rfl, by rw [if_pos hs39, toN]⟩
            · refine ⟨39, 78, (by rw [hs39]; rfl), by decide, ?_⟩
              refine e_aload0 dX9_candleOf_78 ?_
              refine e_iload1 dX9_candleOf_79 ?_
              refine e_cVI (ct_X9_inchesOf (d := d - 1) h6) cy_X9_inchesOf cv_X9_inchesOf ml_X9_310 la_134 rfl rfl rfl (rok (by omega) (by decide)) (Nat.le_of_ble_eq_true rfl) dX9_candleOf_80 ?_
              refine WW.ec (y := G 7 c') (a2) ?_
              refine e_iret dX9_candleOf_83 ?_
              exact ⟨rfl, by rw [if_neg (by omega), if_pos hs39, toN]⟩
            · refine ⟨45, 84, (by rw [hs39]; rfl), by decide, ?_⟩
              refine e_aload0 dX9_candleOf_84 ?_
              refine e_iload1 dX9_candleOf_85 ?_
              refine e_iconst dX9_candleOf_86 rfl kc_0 ?_
              refine e_cVI (ct_X9_ofCandle (d := d - 1) (k := 0) h6 (by decide)) cy_X9_ofCandle cv_X9_ofCandle ml_X9_327 la_134 rfl rfl rfl (rok (by omega) (by decide)) (Nat.le_of_ble_eq_true rfl) dX9_candleOf_87 ?_
              refine WW.ec (y := G 8 c') (a3) ?_
              refine e_iret dX9_candleOf_90 ?_
              exact ⟨rfl, by rw [if_neg (by omega), if_neg (by omega), if_pos hs39, toN]⟩
            · refine ⟨52, 91, (by rw [hs39]; rfl), by decide, ?_⟩
              refine e_aload0 dX9_candleOf_91 ?_
              refine e_iload1 dX9_candleOf_92 ?_
              refine e_iconst dX9_candleOf_93 rfl kc_1 ?_
              refine e_cVI (ct_X9_ofCandle (d := d - 1) (k := 1) h6 (by decide)) cy_X9_ofCandle cv_X9_ofCandle ml_X9_327 la_134 rfl rfl rfl (rok (by omega) (by decide)) (Nat.le_of_ble_eq_true rfl) dX9_candleOf_94 ?_
              refine WW.ec (y := G 9 c') (a4) ?_
              refine e_iret dX9_candleOf_97 ?_
              exact ⟨rfl, by rw [if_neg (by omega), if_neg (by omega), if_neg (by omega), if_pos hs39, toN]⟩
            · refine ⟨59, 98, (by rw [hs39]; rfl), by decide, ?_⟩
              refine e_aload0 dX9_candleOf_98 ?_
              refine e_iload1 dX9_candleOf_99 ?_
              refine e_iconst dX9_candleOf_100 rfl kc_2 ?_
              refine e_cVI (ct_X9_ofCandle (d := d - 1) (k := 2) h6 (by decide)) cy_X9_ofCandle cv_X9_ofCandle ml_X9_327 la_134 rfl rfl rfl (rok (by omega) (by decide)) (Nat.le_of_ble_eq_true rfl) dX9_candleOf_101 ?_
              refine WW.ec (y := G 10 c') (a5) ?_
              refine e_iret dX9_candleOf_104 ?_
              exact ⟨rfl, by rw [if_neg (by omega), if_neg (by omega), if_neg (by omega), if_neg (by omega), if_pos hs39, toN]⟩
          · refine e_bipush dX9_candleOf_105 rfl kb_m2 ?_
            refine e_iret dX9_candleOf_107 ?_
            exact ⟨rfl, by rw [if_neg (by omega), if_neg (by omega), if_neg (by omega), if_neg (by omega), if_neg (by omega), if_neg hin]⟩
      · refine e_if_ne (tgt := 11) dX9_candleOf_5 (by decide) (fun h => absurd h (by decide)) (fun _ => ?_)
        refine e_bipush dX9_candleOf_8 rfl kb_m2 ?_
        refine e_iret dX9_candleOf_10 ?_
        exact absurd ((hg.isC _).mpr hc) g2
  · unfold candleOfV
    rw [if_neg hc]
    refine e_aload0 dX9_candleOf_0 ?_
    refine e_iload1 dX9_candleOf_1 ?_
    refine e_cVZ (ct_X9_isCandle (d := d - 1) (by omega) nn.2.1) cy_X9_isCandle cv_X9_isCandle ml_X9_320 la_134 rfl rfl rfl (rok (by omega) (by decide)) (Nat.le_of_ble_eq_true rfl) dX9_candleOf_2 (fun g2 => ?_) (fun g2 => ?_)
    · refine e_if_ne (tgt := 11) dX9_candleOf_5 (by decide) (fun _ => ?_) (fun h => absurd h (by decide))
      exact absurd ((hg.isC c).mp g2) hc
    · refine e_if_ne (tgt := 11) dX9_candleOf_5 (by decide) (fun h => absurd h (by decide)) (fun _ => ?_)
      refine e_bipush dX9_candleOf_8 rfl kb_m2 ?_
      refine e_iret dX9_candleOf_10 ?_
      exact ⟨rfl, rfl⟩
theorem ct_X9_drip {G : Mem} (hd : 2 ≤ d) (hg : GS G M) {i k : Int} : PI l w yX9_drip cX9_drip 3 d [vR 134, vI i, vI k] M (dripV G i k) M := by
  have nn := hg.nn
  have e1 := hg.2.2.1.d0.1
  have hdr := hg.gm.dr
  unfold dripV
  refine MT.of [some (vR 134), some (vI i), some (vI k)] ⟨by decide, rfl⟩ rfl (Nat.le_of_ble_eq_true rfl) (fun hA hM => ?_)
  by_cases ok : 0 ≤ i ∧ i < G 1 13 ∧ 0 ≤ k ∧ k < 5
  · obtain ⟨i', rfl⟩ : ∃ n : Nat, i = n := ⟨i.toNat, by omega⟩
    obtain ⟨k', rfl⟩ : ∃ n : Nat, k = n := ⟨k.toNat, by omega⟩
    have hr := hg.2.2.1.2.2.1.2.2.2.2.1 (5 * i' + k') (by omega)
    have er : M 135 (155 + (5 * i' + k')) = G 12 ((i' : Int) * 5 + k').toNat := by
      rw [show ((i' : Int) * 5 + k').toNat = 5 * i' + k' by omega, ← hr]
    rw [if_neg (by omega), if_pos ok]
    refine e_iload1 dX9_drip_0 ?_
    refine e_iconst dX9_drip_1 rfl kc_m1 ?_
    refine e_icmp_ne (tgt := 14) dX9_drip_2 (by decide) (fun h2 => ?_) (fun h2 => ?_)
    · refine e_iload1 dX9_drip_14 ?_
      refine e_iconst dX9_drip_15 rfl kc_0 ?_
      refine e_aload0 dX9_drip_16 ?_
      refine e_getR fl_X9_7 la_134 rfl dX9_drip_17 ?_
      refine e_sipush dX9_drip_20 rfl ks_154 ?_
      refine e_ialdK (k := 154) la_135 (by decide) (rfl) dX9_drip_23 ?_
      refine WW.ec (y := G 1 13) (e1) ?_
      refine e_iconst dX9_drip_24 rfl kc_1 ?_
      refine e_isub dX9_drip_25 (⟨by omega, by omega⟩) ?_
      refine e_cSZ (ct_X9_in (d := d - 1)) cy_X9_in cs_X9_in ml_X9_120 rfl rfl (rok (by omega) (by decide)) (Nat.le_of_ble_eq_true rfl) dX9_drip_26 (fun g26 => ?_) (fun g26 => ?_)
      · refine e_if_eq (tgt := 58) dX9_drip_29 (by decide) (fun h => absurd h (by decide)) (fun _ => ?_)
        refine e_iload2 dX9_drip_32 ?_
        refine e_iconst dX9_drip_33 rfl kc_0 ?_
        refine e_iconst dX9_drip_34 rfl kc_4 ?_
        refine e_cSZ (ct_X9_in (d := d - 1)) cy_X9_in cs_X9_in ml_X9_120 rfl rfl (rok (by omega) (by decide)) (Nat.le_of_ble_eq_true rfl) dX9_drip_35 (fun g35 => ?_) (fun g35 => ?_)
        · refine e_if_eq (tgt := 58) dX9_drip_38 (by decide) (fun h => absurd h (by decide)) (fun _ => ?_)
          refine e_aload0 dX9_drip_41 ?_
          refine e_getR fl_X9_7 la_134 rfl dX9_drip_42 ?_
          refine e_sipush dX9_drip_45 rfl ks_155 ?_
          refine e_iconst dX9_drip_48 rfl kc_5 ?_
          refine e_iload1 dX9_drip_49 ?_
          refine e_imul dX9_drip_50 (⟨by omega, by omega⟩) ?_
          refine e_iadd dX9_drip_51 (⟨by omega, by omega⟩) ?_
          refine e_iload2 dX9_drip_52 ?_
          refine e_iadd dX9_drip_53 (⟨by omega, by omega⟩) ?_
          refine e_ialdK (k := 155 + (5 * i' + k')) la_135 (by omega) (by omega) dX9_drip_54 ?_
          refine WW.ec (y := G 12 ((i' : Int) * 5 + k').toNat) (er) ?_
          refine e_goto (tgt := 60) dX9_drip_55 (by decide) ?_
          refine e_iret dX9_drip_60 ?_
          exact ⟨rfl, rfl⟩
        · refine e_if_eq (tgt := 58) dX9_drip_38 (by decide) (fun _ => ?_) (fun h => absurd h (by decide))
          omega
      · refine e_if_eq (tgt := 58) dX9_drip_29 (by decide) (fun _ => ?_) (fun h => absurd h (by decide))
        omega
    · omega
  · refine e_iload1 dX9_drip_0 ?_
    refine e_iconst dX9_drip_1 rfl kc_m1 ?_
    refine e_icmp_ne (tgt := 14) dX9_drip_2 (by decide) (fun h2 => ?_) (fun h2 => ?_)
    · refine e_iload1 dX9_drip_14 ?_
      refine e_iconst dX9_drip_15 rfl kc_0 ?_
      refine e_aload0 dX9_drip_16 ?_
      refine e_getR fl_X9_7 la_134 rfl dX9_drip_17 ?_
      refine e_sipush dX9_drip_20 rfl ks_154 ?_
      refine e_ialdK (k := 154) la_135 (by decide) (rfl) dX9_drip_23 ?_
      refine WW.ec (y := G 1 13) (e1) ?_
      refine e_iconst dX9_drip_24 rfl kc_1 ?_
      refine e_isub dX9_drip_25 (⟨by omega, by omega⟩) ?_
      refine e_cSZ (ct_X9_in (d := d - 1)) cy_X9_in cs_X9_in ml_X9_120 rfl rfl (rok (by omega) (by decide)) (Nat.le_of_ble_eq_true rfl) dX9_drip_26 (fun g26 => ?_) (fun g26 => ?_)
      · refine e_if_eq (tgt := 58) dX9_drip_29 (by decide) (fun h => absurd h (by decide)) (fun _ => ?_)
        refine e_iload2 dX9_drip_32 ?_
        refine e_iconst dX9_drip_33 rfl kc_0 ?_
        refine e_iconst dX9_drip_34 rfl kc_4 ?_
        refine e_cSZ (ct_X9_in (d := d - 1)) cy_X9_in cs_X9_in ml_X9_120 rfl rfl (rok (by omega) (by decide)) (Nat.le_of_ble_eq_true rfl) dX9_drip_35 (fun g35 => ?_) (fun g35 => ?_)
        · refine e_if_eq (tgt := 58) dX9_drip_38 (by decide) (fun h => absurd h (by decide)) (fun _ => ?_)
          omega
        · refine e_if_eq (tgt := 58) dX9_drip_38 (by decide) (fun _ => ?_) (fun h => absurd h (by decide))
          refine e_bipush dX9_drip_58 rfl kb_m2 ?_
          refine e_iret dX9_drip_60 ?_
          exact ⟨rfl, by rw [if_neg (by omega), if_neg ok]⟩
      · refine e_if_eq (tgt := 58) dX9_drip_29 (by decide) (fun _ => ?_) (fun h => absurd h (by decide))
        refine e_bipush dX9_drip_58 rfl kb_m2 ?_
        refine e_iret dX9_drip_60 ?_
        exact ⟨rfl, by rw [if_neg (by omega), if_neg ok]⟩
    · refine e_aload0 dX9_drip_5 ?_
      refine e_getR fl_X9_7 la_134 rfl dX9_drip_6 ?_
      refine e_sipush dX9_drip_9 rfl ks_154 ?_
      refine e_ialdK (k := 154) la_135 (by decide) (rfl) dX9_drip_12 ?_
      refine WW.ec (y := G 1 13) (e1) ?_
      refine e_iret dX9_drip_13 ?_
      exact ⟨rfl, by rw [if_pos (by omega)]⟩
theorem ab_loop {G : Mem} (hd : 2 ≤ d) (hg : GS G M) {k : Int} (hk : 10 ≤ k ∧ k ≤ 13) (hQ : Q (some (vI (cntS G (k - 10) (G 1 5).toNat))) M) : ∀ q i : Nat, i + q = (G 1 5).toNat → WM l w RX9 cX9_about 4 (some .int) d Q 111 [some (vR 134), some (vI k), some (vI (cntS G (k - 10) i)), some (vI (i : Int))] [] M
  | 0, i, hi => by
    obtain rfl : i = (G 1 5).toNat := by omega
    have h5 := hg.gm.1.1.2.1
    have e1 := hg.2.2.1.1.1.2.1
    refine e_iload3 dX9_about_111 ?_
    refine e_aload0 dX9_about_112 ?_
    refine e_getR fl_X9_7 la_134 rfl dX9_about_113 ?_
    refine e_iconst dX9_about_116 rfl kc_1 ?_
    refine e_ialdK (k := 1) la_135 (by decide) (rfl) dX9_about_117 ?_
    refine WW.ec (y := G 1 5) (e1) ?_
    refine e_icmp_ge (tgt := 148) dX9_about_118 (by decide) (fun h118 => ?_) (fun h118 => ?_)
    · refine e_iload2 dX9_about_148 ?_
      refine e_iret dX9_about_149 ?_
      exact hQ
    · omega
  | q + 1, i, hi => by
    have h5 := hg.gm.1.1.2.1
    have e1 := hg.2.2.1.1.1.2.1
    have ih := ab_loop hd hg hk hQ q (i + 1) (by omega)
    obtain ⟨_, ⟨a3, _⟩, _, h6, _⟩ := hg.cn (c := i) (by omega)
    have hb := cntS_b G (k - 10) i
    have es : cntS G (k - 10) (i + 1) = cntS G (k - 10) i + if G 8 i = k - 10 then 1 else 0 := rfl
    rw [es] at ih
    refine e_iload3 dX9_about_111 ?_
    refine e_aload0 dX9_about_112 ?_
    refine e_getR fl_X9_7 la_134 rfl dX9_about_113 ?_
    refine e_iconst dX9_about_116 rfl kc_1 ?_
    refine e_ialdK (k := 1) la_135 (by decide) (rfl) dX9_about_117 ?_
    refine WW.ec (y := G 1 5) (e1) ?_
    refine e_icmp_ge (tgt := 148) dX9_about_118 (by decide) (fun h118 => ?_) (fun h118 => ?_)
    · omega
    · refine e_iload2 dX9_about_121 ?_
      refine e_aload0 dX9_about_122 ?_
      refine e_iload3 dX9_about_123 ?_
      refine e_iconst dX9_about_124 rfl kc_0 ?_
      refine e_cVI (ct_X9_ofCandle (d := d - 1) (k := 0) h6 (by decide)) cy_X9_ofCandle cv_X9_ofCandle ml_X9_327 la_134 rfl rfl rfl (rok (by omega) (by decide)) (Nat.le_of_ble_eq_true rfl) dX9_about_125 ?_
      refine WW.ec (y := G 8 i) (a3) ?_
      refine e_iload1 dX9_about_128 ?_
      refine e_bipush dX9_about_129 rfl kb_10 ?_
      refine e_isub dX9_about_131 (⟨by omega, by omega⟩) ?_
      refine e_icmp_ne (tgt := 139) dX9_about_132 (by decide) (fun h132 => ?_) (fun h132 => ?_)
      · refine e_iconst dX9_about_139 rfl kc_0 ?_
        refine e_iadd dX9_about_140 (⟨by omega, by omega⟩) ?_
        refine e_istore2 dX9_about_141 rfl ?_
        refine e_iinc3 dX9_about_142 rfl (⟨by omega, by omega⟩) rfl ?_
        refine e_goto (tgt := 111) dX9_about_145 (by decide) ?_
        first | (rw [if_pos (by omega)] at ih; exact ih) | (rw [if_neg (by omega)] at ih; exact ih)
      · refine e_iconst dX9_about_135 rfl kc_1 ?_
        refine e_goto (tgt := 140) dX9_about_136 (by decide) ?_
        refine e_iadd dX9_about_140 (⟨by omega, by omega⟩) ?_
        refine e_istore2 dX9_about_141 rfl ?_
        refine e_iinc3 dX9_about_142 rfl (⟨by omega, by omega⟩) rfl ?_
        refine e_goto (tgt := 111) dX9_about_145 (by decide) ?_
        first | (rw [if_pos (by omega)] at ih; exact ih) | (rw [if_neg (by omega)] at ih; exact ih)
theorem ct_X9_about {G : Mem} (hd : 2 ≤ d) (hg : GS G M) (ht : M 134 3 = G 114 1) {k : Int} : PI l w yX9_about cX9_about 4 d [vR 134, vI k] M (aboutV G k) M := by
  have hl : ∀ hk : 10 ≤ k ∧ k ≤ 13, _ := fun hk => ab_loop (l := l) (w := w) (d := d) (M := M) (Q := fun r M' => M' = M ∧ r = some (vI (aboutV G k))) hd hg hk ⟨rfl, by unfold aboutV; rw [if_neg (by omega), if_neg (by omega), if_neg (by omega), if_neg (by omega), if_neg (by omega), if_neg (by omega), if_neg (by omega), if_pos hk]⟩ (G 1 5).toNat 0 (by omega)
  have hAA := hg.2.2.1
  refine MT.of [some (vR 134), some (vI k), none, none] ⟨by decide, rfl⟩ rfl (Nat.le_of_ble_eq_true rfl) (fun hA hM => ?_)
  refine e_iload1 dX9_about_0 ?_
  refine e_table (tgt := 93) dX9_about_1 (by decide) (fun hl1 hh1 => ?_) (fun h1 => ?_)
  · rcases (show k = 0 ∨ k = 1 ∨ k = 2 ∨ k = 3 ∨ k = 4 ∨ k = 5 ∨ k = 6 by omega) with hs1 | hs1 | hs1 | hs1 | hs1 | hs1 | hs1
    · refine ⟨43, 44, (by rw [hs1]; rfl), by decide, ?_⟩
      refine e_aload0 dX9_about_44 ?_
      refine e_getR fl_X9_7 la_134 rfl dX9_about_45 ?_
      refine e_iconst dX9_about_48 rfl kc_0 ?_
      refine e_ialdK (k := 0) la_135 (by decide) (rfl) dX9_about_49 ?_
      refine WW.ec (y := G 1 0) (hAA.1.1.1) ?_
      refine e_iret dX9_about_50 ?_
      exact ⟨rfl, by unfold aboutV; rw [if_pos hs1]⟩
    · refine ⟨50, 51, (by rw [hs1]; rfl), by decide, ?_⟩
      refine e_aload0 dX9_about_51 ?_
      refine e_getR fl_X9_7 la_134 rfl dX9_about_52 ?_
      refine e_iconst dX9_about_55 rfl kc_1 ?_
      refine e_ialdK (k := 1) la_135 (by decide) (rfl) dX9_about_56 ?_
      refine WW.ec (y := G 1 5) (hAA.1.1.2.1) ?_
      refine e_iret dX9_about_57 ?_
      exact ⟨rfl, by unfold aboutV; rw [if_neg (by omega), if_pos hs1]⟩
    · refine ⟨57, 58, (by rw [hs1]; rfl), by decide, ?_⟩
      refine e_aload0 dX9_about_58 ?_
      refine e_getR fl_X9_7 la_134 rfl dX9_about_59 ?_
      refine e_sipush dX9_about_62 rfl ks_515 ?_
      refine e_ialdK (k := 515) la_135 (by decide) (rfl) dX9_about_65 ?_
      refine WW.ec (y := G 1 12) (hAA.d0.2) ?_
      refine e_iret dX9_about_66 ?_
      exact ⟨rfl, by unfold aboutV; rw [if_neg (by omega), if_neg (by omega), if_pos hs1]⟩
    · refine ⟨66, 67, (by rw [hs1]; rfl), by decide, ?_⟩
      refine e_aload0 dX9_about_67 ?_
      refine e_getR fl_X9_7 la_134 rfl dX9_about_68 ?_
      refine e_iconst dX9_about_71 rfl kc_2 ?_
      refine e_ialdK (k := 2) la_135 (by decide) (rfl) dX9_about_72 ?_
      refine WW.ec (y := G 1 15) (hAA.1.1.2.2.1) ?_
      refine e_iret dX9_about_73 ?_
      exact ⟨rfl, by unfold aboutV; rw [if_neg (by omega), if_neg (by omega), if_neg (by omega), if_pos hs1]⟩
    · refine ⟨73, 74, (by rw [hs1]; rfl), by decide, ?_⟩
      refine e_aload0 dX9_about_74 ?_
      refine e_getR fl_X9_7 la_134 rfl dX9_about_75 ?_
      refine e_iconst dX9_about_78 rfl kc_3 ?_
      refine e_ialdK (k := 3) la_135 (by decide) (rfl) dX9_about_79 ?_
      refine WW.ec (y := G 1 16) (hAA.1.1.2.2.2) ?_
      refine e_iret dX9_about_80 ?_
      exact ⟨rfl, by unfold aboutV; rw [if_neg (by omega), if_neg (by omega), if_neg (by omega), if_neg (by omega), if_pos hs1]⟩
    · refine ⟨80, 81, (by rw [hs1]; rfl), by decide, ?_⟩
      refine e_aload0 dX9_about_81 ?_
      refine e_getR fl_X9_7 la_134 rfl dX9_about_82 ?_
      refine e_iconst dX9_about_85 rfl kc_4 ?_
      refine e_ialdK (k := 4) la_135 (by decide) (rfl) dX9_about_86 ?_
      refine WW.ec (y := G 25 1) (hAA.2.1) ?_
      refine e_iret dX9_about_87 ?_
      exact ⟨rfl, by unfold aboutV; rw [if_neg (by omega), if_neg (by omega), if_neg (by omega), if_neg (by omega), if_neg (by omega), if_pos hs1]⟩
    · refine ⟨87, 88, (by rw [hs1]; rfl), by decide, ?_⟩
      refine e_aload0 dX9_about_88 ?_
      refine e_getI fl_X9_128 la_134 rfl dX9_about_89 ?_
      refine WW.ec (y := G 114 1) (ht) ?_
      refine e_iret dX9_about_92 ?_
      exact ⟨rfl, by unfold aboutV; rw [if_neg (by omega), if_neg (by omega), if_neg (by omega), if_neg (by omega), if_neg (by omega), if_neg (by omega), if_pos hs1]⟩
  · refine e_iload1 dX9_about_93 ?_
    refine e_bipush dX9_about_94 rfl kb_10 ?_
    refine e_bipush dX9_about_96 rfl kb_13 ?_
    refine e_cSZ (ct_X9_in (d := d - 1)) cy_X9_in cs_X9_in ml_X9_120 rfl rfl (rok (by omega) (by decide)) (Nat.le_of_ble_eq_true rfl) dX9_about_98 (fun g98 => ?_) (fun g98 => ?_)
    · refine e_if_ne (tgt := 107) dX9_about_101 (by decide) (fun _ => ?_) (fun h => absurd h (by decide))
      refine e_iconst dX9_about_107 rfl kc_0 ?_
      refine e_istore2 dX9_about_108 rfl ?_
      refine e_iconst dX9_about_109 rfl kc_0 ?_
      refine e_istore3 dX9_about_110 rfl ?_
      exact hl g98
    · refine e_if_ne (tgt := 107) dX9_about_101 (by decide) (fun h => absurd h (by decide)) (fun _ => ?_)
      refine e_bipush dX9_about_104 rfl kb_m2 ?_
      refine e_iret dX9_about_106 ?_
      exact ⟨rfl, by unfold aboutV; rw [if_neg (by omega), if_neg (by omega), if_neg (by omega), if_neg (by omega), if_neg (by omega), if_neg (by omega), if_neg (by omega), if_neg g98]⟩
theorem ct_X9_says {G : Mem} (hd : 5 ≤ d) (hg : GS G M) {h c i k : Int} : GI l w yX9_says cX9_says 5 .int d [vR 134, vI h, vI c, vI i, vI k] M (fun x M1 => x = saysV G h c i k ∧ FQ M M1) := by
  have nn := hg.nn
  have hG := hg.gm
  have bad : ¬ (isH G h ∧ isIn G c i ∧ 0 ≤ k ∧ k < 4) → ∃ x, some (vI (-2)) = some (vI x) ∧ x = saysV G h c i k ∧ FQ M M := fun nk => ⟨_, rfl, by unfold saysV; rw [if_neg nk], FQ.rf M⟩
  refine MT.of [some (vR 134), some (vI h), some (vI c), some (vI i), some (vI k)] ⟨by decide, rfl⟩ rfl (Nat.le_of_ble_eq_true rfl) (fun hA hM => ?_)
  by_cases hh : isH G h ∧ isC G c
  · obtain ⟨h', rfl⟩ : ∃ n : Nat, h = n := ⟨h.toNat, by have := hh.1.1; omega⟩
    obtain ⟨c', rfl⟩ : ∃ n : Nat, c = n := ⟨c.toNat, by have := hh.2.1; omega⟩
    obtain ⟨⟨a1, a2⟩, _, _, h6, h7, h10, h61, _⟩ := hg.cn hh.2.2
    by_cases hi : (0 ≤ i ∧ i < G 7 c') ∧ 0 ≤ k ∧ k < 4
    · obtain ⟨i', rfl⟩ : ∃ n : Nat, i = n := ⟨i.toNat, by omega⟩
      obtain ⟨k', rfl⟩ : ∃ n : Nat, k = n := ⟨k.toNat, by omega⟩
      have ok : isH G h' ∧ isIn G c' i' ∧ 0 ≤ (k' : Int) ∧ (k' : Int) < 4 := ⟨hh.1, ⟨hh.2, by omega, by rw [toN]; omega⟩, by omega, by omega⟩
      have hlaw := ct_X9_lawFor (l := l) (w := w) (d := d - 1) (M := M) (u := k') (h := h') (c := c') (i := i') (by omega) (by omega) hh.1.2 hh.2.2 (by omega) hG.1 h61.1 hg.2.2.1.lr hg.2.2.2
      refine e_aload0 dX9_says_0 ?_
      refine e_iload1 dX9_says_1 ?_
      refine e_cVZ (ct_X9_isHouse (d := d - 1) (by omega) nn.1) cy_X9_isHouse cv_X9_isHouse ml_X9_317 la_134 rfl rfl rfl (rok (by omega) (by decide)) (Nat.le_of_ble_eq_true rfl) dX9_says_2 (fun g2 => ?_) (fun g2 => ?_)
      · refine e_if_eq (tgt := 41) dX9_says_5 (by decide) (fun h => absurd h (by decide)) (fun _ => ?_)
        refine e_aload0 dX9_says_8 ?_
        refine e_iload2 dX9_says_9 ?_
        refine e_cVZ (ct_X9_isCandle (d := d - 1) (by omega) nn.2.1) cy_X9_isCandle cv_X9_isCandle ml_X9_320 la_134 rfl rfl rfl (rok (by omega) (by decide)) (Nat.le_of_ble_eq_true rfl) dX9_says_10 (fun g10 => ?_) (fun g10 => ?_)
        · refine e_if_eq (tgt := 41) dX9_says_13 (by decide) (fun h => absurd h (by decide)) (fun _ => ?_)
          refine e_iload3 dX9_says_16 ?_
          refine e_iconst dX9_says_17 rfl kc_0 ?_
          refine e_aload0 dX9_says_18 ?_
          refine e_iload2 dX9_says_19 ?_
          refine e_cVI (ct_X9_inchesOf (d := d - 1) h6) cy_X9_inchesOf cv_X9_inchesOf ml_X9_310 la_134 rfl rfl rfl (rok (by omega) (by decide)) (Nat.le_of_ble_eq_true rfl) dX9_says_20 ?_
          refine WW.ec (y := G 7 c') (a2) ?_
          refine e_iconst dX9_says_23 rfl kc_1 ?_
          refine e_isub dX9_says_24 (⟨by omega, by omega⟩) ?_
          refine e_cSZ (ct_X9_in (d := d - 1)) cy_X9_in cs_X9_in ml_X9_120 rfl rfl (rok (by omega) (by decide)) (Nat.le_of_ble_eq_true rfl) dX9_says_25 (fun g25 => ?_) (fun g25 => ?_)
          · refine e_if_eq (tgt := 41) dX9_says_28 (by decide) (fun h => absurd h (by decide)) (fun _ => ?_)
            refine e_iload4 dX9_says_31 ?_
            refine e_iconst dX9_says_33 rfl kc_0 ?_
            refine e_iconst dX9_says_34 rfl kc_3 ?_
            refine e_cSZ (ct_X9_in (d := d - 1)) cy_X9_in cs_X9_in ml_X9_120 rfl rfl (rok (by omega) (by decide)) (Nat.le_of_ble_eq_true rfl) dX9_says_35 (fun g35 => ?_) (fun g35 => ?_)
            · refine e_if_ne (tgt := 44) dX9_says_38 (by decide) (fun _ => ?_) (fun h => absurd h (by decide))
              refine e_aload0 dX9_says_44 ?_
              refine e_iload4 dX9_says_45 ?_
              refine e_iload1 dX9_says_47 ?_
              refine e_iload2 dX9_says_48 ?_
              refine e_iload3 dX9_says_49 ?_
              refine e_cVGI (hlaw) cy_X9_lawFor cv_X9_lawFor ml_X9_323 la_134 rfl rfl rfl (rok (by omega) (by decide)) (Nat.le_of_ble_eq_true rfl) dX9_says_50 (fun x M1 hx => ?_)
              refine e_iret dX9_says_53 ?_
              exact ⟨_, rfl, by unfold saysV; rw [if_pos ok]; exact hx.1, hx.2.fq⟩
            · refine e_if_ne (tgt := 44) dX9_says_38 (by decide) (fun h => absurd h (by decide)) (fun _ => ?_)
              first | exact absurd ((hg.isH _).mpr hh.1) g2 | exact absurd ((hg.isC _).mpr hh.2) g10 | (exfalso; omega)
          · refine e_if_eq (tgt := 41) dX9_says_28 (by decide) (fun _ => ?_) (fun h => absurd h (by decide))
            first | exact absurd ((hg.isH _).mpr hh.1) g2 | exact absurd ((hg.isC _).mpr hh.2) g10 | (exfalso; omega)
        · refine e_if_eq (tgt := 41) dX9_says_13 (by decide) (fun _ => ?_) (fun h => absurd h (by decide))
          first | exact absurd ((hg.isH _).mpr hh.1) g2 | exact absurd ((hg.isC _).mpr hh.2) g10 | (exfalso; omega)
      · refine e_if_eq (tgt := 41) dX9_says_5 (by decide) (fun _ => ?_) (fun h => absurd h (by decide))
        first | exact absurd ((hg.isH _).mpr hh.1) g2 | exact absurd ((hg.isC _).mpr hh.2) g10 | (exfalso; omega)
    · have nk : ¬ (isH G h' ∧ isIn G c' i ∧ 0 ≤ k ∧ k < 4) := fun z => hi ⟨⟨z.2.1.2.1, by have := z.2.1.2.2; rw [toN] at this; exact this⟩, z.2.2⟩
      refine e_aload0 dX9_says_0 ?_
      refine e_iload1 dX9_says_1 ?_
      refine e_cVZ (ct_X9_isHouse (d := d - 1) (by omega) nn.1) cy_X9_isHouse cv_X9_isHouse ml_X9_317 la_134 rfl rfl rfl (rok (by omega) (by decide)) (Nat.le_of_ble_eq_true rfl) dX9_says_2 (fun g2 => ?_) (fun g2 => ?_)
      · refine e_if_eq (tgt := 41) dX9_says_5 (by decide) (fun h => absurd h (by decide)) (fun _ => ?_)
        refine e_aload0 dX9_says_8 ?_
        refine e_iload2 dX9_says_9 ?_
        refine e_cVZ (ct_X9_isCandle (d := d - 1) (by omega) nn.2.1) cy_X9_isCandle cv_X9_isCandle ml_X9_320 la_134 rfl rfl rfl (rok (by omega) (by decide)) (Nat.le_of_ble_eq_true rfl) dX9_says_10 (fun g10 => ?_) (fun g10 => ?_)
        · refine e_if_eq (tgt := 41) dX9_says_13 (by decide) (fun h => absurd h (by decide)) (fun _ => ?_)
          refine e_iload3 dX9_says_16 ?_
          refine e_iconst dX9_says_17 rfl kc_0 ?_
          refine e_aload0 dX9_says_18 ?_
          refine e_iload2 dX9_says_19 ?_
          refine e_cVI (ct_X9_inchesOf (d := d - 1) h6) cy_X9_inchesOf cv_X9_inchesOf ml_X9_310 la_134 rfl rfl rfl (rok (by omega) (by decide)) (Nat.le_of_ble_eq_true rfl) dX9_says_20 ?_
          refine WW.ec (y := G 7 c') (a2) ?_
          refine e_iconst dX9_says_23 rfl kc_1 ?_
          refine e_isub dX9_says_24 (⟨by omega, by omega⟩) ?_
          refine e_cSZ (ct_X9_in (d := d - 1)) cy_X9_in cs_X9_in ml_X9_120 rfl rfl (rok (by omega) (by decide)) (Nat.le_of_ble_eq_true rfl) dX9_says_25 (fun g25 => ?_) (fun g25 => ?_)
          · refine e_if_eq (tgt := 41) dX9_says_28 (by decide) (fun h => absurd h (by decide)) (fun _ => ?_)
            refine e_iload4 dX9_says_31 ?_
            refine e_iconst dX9_says_33 rfl kc_0 ?_
            refine e_iconst dX9_says_34 rfl kc_3 ?_
            refine e_cSZ (ct_X9_in (d := d - 1)) cy_X9_in cs_X9_in ml_X9_120 rfl rfl (rok (by omega) (by decide)) (Nat.le_of_ble_eq_true rfl) dX9_says_35 (fun g35 => ?_) (fun g35 => ?_)
            · refine e_if_ne (tgt := 44) dX9_says_38 (by decide) (fun _ => ?_) (fun h => absurd h (by decide))
              exact absurd ⟨⟨g25.1, by omega⟩, g35.1, by omega⟩ hi
            · refine e_if_ne (tgt := 44) dX9_says_38 (by decide) (fun h => absurd h (by decide)) (fun _ => ?_)
              refine e_bipush dX9_says_41 rfl kb_m2 ?_
              refine e_iret dX9_says_43 ?_
              exact bad nk
          · refine e_if_eq (tgt := 41) dX9_says_28 (by decide) (fun _ => ?_) (fun h => absurd h (by decide))
            refine e_bipush dX9_says_41 rfl kb_m2 ?_
            refine e_iret dX9_says_43 ?_
            exact bad nk
        · refine e_if_eq (tgt := 41) dX9_says_13 (by decide) (fun _ => ?_) (fun h => absurd h (by decide))
          refine e_bipush dX9_says_41 rfl kb_m2 ?_
          refine e_iret dX9_says_43 ?_
          exact bad nk
      · refine e_if_eq (tgt := 41) dX9_says_5 (by decide) (fun _ => ?_) (fun h => absurd h (by decide))
        refine e_bipush dX9_says_41 rfl kb_m2 ?_
        refine e_iret dX9_says_43 ?_
        exact bad nk
  · refine e_aload0 dX9_says_0 ?_
    refine e_iload1 dX9_says_1 ?_
    refine e_cVZ (ct_X9_isHouse (d := d - 1) (by omega) nn.1) cy_X9_isHouse cv_X9_isHouse ml_X9_317 la_134 rfl rfl rfl (rok (by omega) (by decide)) (Nat.le_of_ble_eq_true rfl) dX9_says_2 (fun g2 => ?_) (fun g2 => ?_)
    · refine e_if_eq (tgt := 41) dX9_says_5 (by decide) (fun h => absurd h (by decide)) (fun _ => ?_)
      refine e_aload0 dX9_says_8 ?_
      refine e_iload2 dX9_says_9 ?_
      refine e_cVZ (ct_X9_isCandle (d := d - 1) (by omega) nn.2.1) cy_X9_isCandle cv_X9_isCandle ml_X9_320 la_134 rfl rfl rfl (rok (by omega) (by decide)) (Nat.le_of_ble_eq_true rfl) dX9_says_10 (fun g10 => ?_) (fun g10 => ?_)
      · refine e_if_eq (tgt := 41) dX9_says_13 (by decide) (fun h => absurd h (by decide)) (fun _ => ?_)
        exact absurd ⟨(hg.isH _).mp g2, (hg.isC _).mp g10⟩ hh
      · refine e_if_eq (tgt := 41) dX9_says_13 (by decide) (fun _ => ?_) (fun h => absurd h (by decide))
        refine e_bipush dX9_says_41 rfl kb_m2 ?_
        refine e_iret dX9_says_43 ?_
        exact bad (fun z => hh ⟨z.1, z.2.1.1⟩)
    · refine e_if_eq (tgt := 41) dX9_says_5 (by decide) (fun _ => ?_) (fun h => absurd h (by decide))
      refine e_bipush dX9_says_41 rfl kb_m2 ?_
      refine e_iret dX9_says_43 ?_
      exact bad (fun z => hh ⟨z.1, z.2.1.1⟩)
end MASK
