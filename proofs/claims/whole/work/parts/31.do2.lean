/-! LIGHT -/
abbrev okL1 (M : Mem) (c : Int) : Prop := isC M c ∧ M 8 c.toNat = 0 ∧ ownr M c 0 ≠ -1
abbrev okL2 (M : Mem) (c : Int) : Prop := isC M c ∧ M 8 c.toNat = 2 ∧ isH M (M 9 c.toNat) ∧ 1 ≤ M 3 (M 9 c.toNat).toNat
def light1 (M : Mem) (c : Int) : Mem := up (up (keepM M (nxt M) c (-1)) 8 c.toNat 1) 9 c.toNat (ownr M c 0)
def light2 (M : Mem) (c : Int) : Mem := up (up (keepM M (nxt M) c (-1)) 3 (M 9 c.toNat).toNat (M 3 (M 9 c.toNat).toNat - 1)) 8 c.toNat 1
section LIGHT
variable {l : Launch} {w : Wd} {d : Nat} {M : Mem} {Q : Option MV → Mem → Prop}
theorem ct_X8_lightFirst (hd : 4 ≤ d) (hI : IB M) (hS : SI M) {c : Int} (hc : isC M c) : GI l w yX8_lightFirst cX8_lightFirst 3 .int d [vR 0, vI c] M (fun x M1 => (ownr M c 0 ≠ -1 ∧ x = ownr M c 0 ∧ M1 = light1 M c) ∨ (ownr M c 0 = -1 ∧ x = -1 ∧ M1 = M)) := by
  have hb5 := hI.2.1
  obtain ⟨hq, hq1⟩ := nxt_ok hS
  refine MT.of [some (vR 0), some (vI c), none] ⟨by decide, rfl⟩ rfl (Nat.le_of_ble_eq_true rfl) (fun hA hM => ?_)
  refine e_aload0 dX8_lightFirst_0 ?_
  refine e_getR fl_X8_12 la_0 rfl dX8_lightFirst_1 ?_
  refine e_iload1 dX8_lightFirst_4 ?_
  refine e_iconst dX8_lightFirst_5 rfl kc_0 ?_
  refine e_cVI (ct_X0_ownerOf (d := d - 1) (by omega) hI) cy_X0_ownerOf cv_X0_ownerOf ml_X8_98 la_1 rfl rfl rfl (rok (by omega) (by decide)) (Nat.le_of_ble_eq_true rfl) dX8_lightFirst_6 ?_
  refine e_istore2 dX8_lightFirst_9 rfl ?_
  refine e_iload2 dX8_lightFirst_10 ?_
  refine e_iconst dX8_lightFirst_11 rfl kc_m1 ?_
  refine e_icmp_ne (tgt := 17) dX8_lightFirst_12 (by decide) (fun h12 => ?_) (fun h12 => ?_)
  · refine e_aload0 dX8_lightFirst_17 ?_
    refine e_getR fl_X8_22 la_0 rfl dX8_lightFirst_18 ?_
    refine e_aload0 dX8_lightFirst_21 ?_
    refine e_getR fl_X8_12 la_0 rfl dX8_lightFirst_22 ?_
    refine e_iload1 dX8_lightFirst_25 ?_
    refine e_iconst dX8_lightFirst_26 rfl kc_m1 ?_
    refine e_cVV (ct_X4_keep (d := d - 1) (by omega) hI hq hS.1 hS.2 hq1) cy_X4_keep cv_X4_keep ml_X8_108 la_25 rfl rfl rfl (rok (by omega) (by decide)) (Nat.le_of_ble_eq_true rfl) dX8_lightFirst_27 ?_
    refine e_aload0 dX8_lightFirst_30 ?_
    refine e_getR fl_X8_12 la_0 rfl dX8_lightFirst_31 ?_
    refine e_getR fl_X8_119 la_1 rfl dX8_lightFirst_34 ?_
    refine e_iload1 dX8_lightFirst_37 ?_
    refine e_iconst dX8_lightFirst_38 rfl kc_1 ?_
    refine e_iast la_8 (⟨by omega, by omega⟩) dX8_lightFirst_39 ?_
    refine e_aload0 dX8_lightFirst_40 ?_
    refine e_getR fl_X8_12 la_0 rfl dX8_lightFirst_41 ?_
    refine e_getR fl_X8_129 la_1 rfl dX8_lightFirst_44 ?_
    refine e_iload1 dX8_lightFirst_47 ?_
    refine e_iload2 dX8_lightFirst_48 ?_
    refine e_iast la_9 (⟨by omega, by omega⟩) dX8_lightFirst_49 ?_
    refine e_iload2 dX8_lightFirst_50 ?_
    refine e_iret dX8_lightFirst_51 ?_
    exact ⟨_, rfl, Or.inl ⟨by omega, rfl, rfl⟩⟩
  · refine e_iconst dX8_lightFirst_15 rfl kc_m1 ?_
    refine e_iret dX8_lightFirst_16 ?_
    exact ⟨_, rfl, Or.inr ⟨by omega, rfl, rfl⟩⟩
theorem ct_X8_lightAgain (hd : 4 ≤ d) (hI : IB M) (hS : SI M) {c : Int} (hc : isC M c) : GI l w yX8_lightAgain cX8_lightAgain 3 .int d [vR 0, vI c] M (fun x M1 => ((isH M (M 9 c.toNat) ∧ 1 ≤ M 3 (M 9 c.toNat).toNat) ∧ x = M 9 c.toNat ∧ M1 = light2 M c) ∨ (¬ (isH M (M 9 c.toNat) ∧ 1 ≤ M 3 (M 9 c.toNat).toNat) ∧ x = -1 ∧ M1 = M)) := by
  have hb := hI.1
  have hb5 := hI.2.1
  obtain ⟨hq, hq1⟩ := nxt_ok hS
  refine MT.of [some (vR 0), some (vI c), none] ⟨by decide, rfl⟩ rfl (Nat.le_of_ble_eq_true rfl) (fun hA hM => ?_)
  refine e_aload0 dX8_lightAgain_0 ?_
  refine e_getR fl_X8_12 la_0 rfl dX8_lightAgain_1 ?_
  refine e_getR fl_X8_129 la_1 rfl dX8_lightAgain_4 ?_
  refine e_iload1 dX8_lightAgain_7 ?_
  refine e_iald la_9 (⟨by omega, by omega⟩) dX8_lightAgain_8 ?_
  refine e_istore2 dX8_lightAgain_9 rfl ?_
  refine e_aload0 dX8_lightAgain_10 ?_
  refine e_getR fl_X8_12 la_0 rfl dX8_lightAgain_11 ?_
  refine e_iload2 dX8_lightAgain_14 ?_
  refine e_cVZ (ct_X0_isHouse (d := d - 1) (by omega)) cy_X0_isHouse cv_X0_isHouse ml_X8_86 la_1 rfl rfl rfl (rok (by omega) (by decide)) (Nat.le_of_ble_eq_true rfl) dX8_lightAgain_15 (fun g15 => ?_) (fun g15 => ?_)
  · refine e_if_eq (tgt := 34) dX8_lightAgain_18 (by decide) (fun h => absurd h (by decide)) (fun _ => ?_)
    refine e_aload0 dX8_lightAgain_21 ?_
    refine e_getR fl_X8_12 la_0 rfl dX8_lightAgain_22 ?_
    refine e_getR fl_X8_105 la_1 rfl dX8_lightAgain_25 ?_
    refine e_iload2 dX8_lightAgain_28 ?_
    refine e_iald la_3 (⟨by omega, by omega⟩) dX8_lightAgain_29 ?_
    refine e_iconst dX8_lightAgain_30 rfl kc_1 ?_
    refine e_icmp_ge (tgt := 36) dX8_lightAgain_31 (by decide) (fun h31 => ?_) (fun h31 => ?_)
    · refine e_aload0 dX8_lightAgain_36 ?_
      refine e_getR fl_X8_22 la_0 rfl dX8_lightAgain_37 ?_
      refine e_aload0 dX8_lightAgain_40 ?_
      refine e_getR fl_X8_12 la_0 rfl dX8_lightAgain_41 ?_
      refine e_iload1 dX8_lightAgain_44 ?_
      refine e_iconst dX8_lightAgain_45 rfl kc_m1 ?_
      refine e_cVV (ct_X4_keep (d := d - 1) (by omega) hI hq hS.1 hS.2 hq1) cy_X4_keep cv_X4_keep ml_X8_108 la_25 rfl rfl rfl (rok (by omega) (by decide)) (Nat.le_of_ble_eq_true rfl) dX8_lightAgain_46 ?_
      refine e_aload0 dX8_lightAgain_49 ?_
      refine e_getR fl_X8_12 la_0 rfl dX8_lightAgain_50 ?_
      refine e_getR fl_X8_105 la_1 rfl dX8_lightAgain_53 ?_
      refine e_iload2 dX8_lightAgain_56 ?_
      refine e_dup2 dX8_lightAgain_57 rfl rfl ?_
      refine e_iald la_3 (⟨by omega, by omega⟩) dX8_lightAgain_58 ?_
      refine WW.ec (y := M 3 (M 9 c.toNat).toNat) (by rw [keepM_o (by decide) (by omega)]) ?_
      refine e_iconst dX8_lightAgain_59 rfl kc_1 ?_
      have hr := (hM 3 _ la_3 (M 9 c.toNat).toNat (by omega)).1 (by decide)
      refine e_isub dX8_lightAgain_60 (⟨by have := hr.1; omega, by have := hr.2; omega⟩) ?_
      refine e_iast la_3 (⟨by omega, by omega⟩) dX8_lightAgain_61 ?_
      refine e_aload0 dX8_lightAgain_62 ?_
      refine e_getR fl_X8_12 la_0 rfl dX8_lightAgain_63 ?_
      refine e_getR fl_X8_119 la_1 rfl dX8_lightAgain_66 ?_
      refine e_iload1 dX8_lightAgain_69 ?_
      refine e_iconst dX8_lightAgain_70 rfl kc_1 ?_
      refine e_iast la_8 (⟨by omega, by omega⟩) dX8_lightAgain_71 ?_
      refine e_iload2 dX8_lightAgain_72 ?_
      refine e_iret dX8_lightAgain_73 ?_
      exact ⟨_, rfl, Or.inl ⟨⟨g15, by omega⟩, rfl, rfl⟩⟩
    · refine e_iconst dX8_lightAgain_34 rfl kc_m1 ?_
      refine e_iret dX8_lightAgain_35 ?_
      first | exact ⟨_, rfl, Or.inr ⟨fun z => g15 z.1, rfl, rfl⟩⟩ | exact ⟨_, rfl, Or.inr ⟨fun z => by have := z.2; omega, rfl, rfl⟩⟩
  · refine e_if_eq (tgt := 34) dX8_lightAgain_18 (by decide) (fun _ => ?_) (fun h => absurd h (by decide))
    refine e_iconst dX8_lightAgain_34 rfl kc_m1 ?_
    refine e_iret dX8_lightAgain_35 ?_
    first | exact ⟨_, rfl, Or.inr ⟨fun z => g15 z.1, rfl, rfl⟩⟩ | exact ⟨_, rfl, Or.inr ⟨fun z => by have := z.2; omega, rfl, rfl⟩⟩
theorem ct_X8_light (hd : 5 ≤ d) (hI : IB M) (hS : SI M) {c : Int} : GI l w yX8_light cX8_light 2 .int d [vR 0, vI c] M (fun x M1 => (okL1 M c ∧ x = ownr M c 0 ∧ M1 = light1 M c) ∨ (okL2 M c ∧ x = M 9 c.toNat ∧ M1 = light2 M c) ∨ (¬ okL1 M c ∧ ¬ okL2 M c ∧ x = -1 ∧ M1 = M)) := by
  have hb5 := hI.2.1
  refine MT.of [some (vR 0), some (vI c)] ⟨by decide, rfl⟩ rfl (Nat.le_of_ble_eq_true rfl) (fun hA hM => ?_)
  refine e_aload0 dX8_light_0 ?_
  refine e_getR fl_X8_12 la_0 rfl dX8_light_1 ?_
  refine e_iload1 dX8_light_4 ?_
  refine e_cVZ (ct_X0_isCandle (d := d - 1) (by omega)) cy_X0_isCandle cv_X0_isCandle ml_X8_116 la_1 rfl rfl rfl (rok (by omega) (by decide)) (Nat.le_of_ble_eq_true rfl) dX8_light_5 (fun g5 => ?_) (fun g5 => ?_)
  · refine e_if_ne (tgt := 13) dX8_light_8 (by decide) (fun _ => ?_) (fun h => absurd h (by decide))
    refine e_aload0 dX8_light_13 ?_
    refine e_getR fl_X8_12 la_0 rfl dX8_light_14 ?_
    refine e_getR fl_X8_119 la_1 rfl dX8_light_17 ?_
    refine e_iload1 dX8_light_20 ?_
    refine e_iald la_8 (⟨by omega, by omega⟩) dX8_light_21 ?_
    refine e_if_ne (tgt := 31) dX8_light_22 (by decide) (fun h22 => ?_) (fun h22 => ?_)
    · refine e_aload0 dX8_light_31 ?_
      refine e_getR fl_X8_12 la_0 rfl dX8_light_32 ?_
      refine e_getR fl_X8_119 la_1 rfl dX8_light_35 ?_
      refine e_iload1 dX8_light_38 ?_
      refine e_iald la_8 (⟨by omega, by omega⟩) dX8_light_39 ?_
      refine e_iconst dX8_light_40 rfl kc_2 ?_
      refine e_icmp_ne (tgt := 52) dX8_light_41 (by decide) (fun h41 => ?_) (fun h41 => ?_)
      · refine e_iconst dX8_light_52 rfl kc_m1 ?_
        refine e_iret dX8_light_53 ?_
        exact ⟨_, rfl, Or.inr (Or.inr ⟨fun z => by have := z.2.1; omega, fun z => by have := z.2.1; omega, rfl, rfl⟩)⟩
      · refine e_aload0 dX8_light_44 ?_
        refine e_iload1 dX8_light_45 ?_
        refine e_cVGI (ct_X8_lightAgain (d := d - 1) (by omega) hI hS g5) cy_X8_lightAgain cv_X8_lightAgain ml_X8_126 la_0 rfl rfl rfl (rok (by omega) (by decide)) (Nat.le_of_ble_eq_true rfl) dX8_light_46 (fun x M1 hx => ?_)
        refine e_goto (tgt := 53) dX8_light_49 (by decide) ?_
        refine e_iret dX8_light_53 ?_
        rcases hx with ⟨a, b, e⟩ | ⟨a, b, e⟩
        · exact ⟨_, rfl, Or.inr (Or.inl ⟨⟨g5, by omega, a.1, a.2⟩, b, e⟩)⟩
        · exact ⟨_, rfl, Or.inr (Or.inr ⟨fun z => by have := z.2.1; omega, fun z => a z.2.2, b, e⟩)⟩
    · refine e_aload0 dX8_light_25 ?_
      refine e_iload1 dX8_light_26 ?_
      refine e_cVGI (ct_X8_lightFirst (d := d - 1) (by omega) hI hS g5) cy_X8_lightFirst cv_X8_lightFirst ml_X8_122 la_0 rfl rfl rfl (rok (by omega) (by decide)) (Nat.le_of_ble_eq_true rfl) dX8_light_27 (fun x M1 hx => ?_)
      refine e_iret dX8_light_30 ?_
      rcases hx with ⟨a, b, e⟩ | ⟨a, b, e⟩
      · exact ⟨_, rfl, Or.inl ⟨⟨g5, by omega, a⟩, b, e⟩⟩
      · exact ⟨_, rfl, Or.inr (Or.inr ⟨fun z => z.2.2 a, fun z => by have := z.2.1; omega, b, e⟩)⟩
  · refine e_if_ne (tgt := 13) dX8_light_8 (by decide) (fun h => absurd h (by decide)) (fun _ => ?_)
    refine e_iconst dX8_light_11 rfl kc_m1 ?_
    refine e_iret dX8_light_12 ?_
    exact ⟨_, rfl, Or.inr (Or.inr ⟨fun z => g5 z.1, fun z => g5 z.1, rfl, rfl⟩)⟩
end LIGHT
