/-! CANDLEENDS (object 0), what only answers: each answer is a word on a memory N, so that the model's can be said in the same words -/
def houseOfV (N : Mem) (h k : Int) : Int := if isH N h then (if k = 0 then N 2 h.toNat else if k = 1 then N 3 h.toNat else if k = 2 then N 4 h.toNat else if k = 3 then N 5 h.toNat else -2) else -2
def candleOfV (N : Mem) (c k : Int) : Int := if isC N c then (if k = 0 then N 6 c.toNat else if k = 1 then N 7 c.toNat else if k = 2 then N 8 c.toNat else if k = 3 then N 9 c.toNat else if k = 4 then N 10 c.toNat else if 10 ≤ k ∧ isIn N c (k - 10) then ownr N c (k - 10) else -2) else -2
def saysV (N : Mem) (h c i k : Int) : Int := if isH N h ∧ isIn N c i ∧ 0 ≤ k ∧ k < 4 then tellV N k h c i else -2
def dripV (N : Mem) (i k : Int) : Int := if i = -1 then N 1 13 else if 0 ≤ i ∧ i < N 1 13 ∧ 0 ≤ k ∧ k < 5 then N 12 (i * 5 + k).toNat else -2
def aboutV (N : Mem) (k : Int) : Int := if k = 0 then N 1 0 else if k = 1 then N 1 5 else if k = 2 then N 1 12 else if k = 3 then N 1 15 else if k = 4 then N 1 16 else if k = 5 then N 25 1 else if k = 6 then N 114 1 else if 10 ≤ k ∧ k ≤ 13 then cntS N (k - 10) (N 1 5).toNat else -2
def faultV (N : Mem) (k : Int) : Int := if N 114 10 = 0 then -1 else if k = 0 then N 114 11 else if k = 1 then N 114 12 else -1
def worthV (N : Mem) (s : Int) : Int := if 0 ≤ s ∧ s < 2 ^ (N 1 0).toNat then wall N s (N 1 5).toNat else -1
section ASK
variable {l : Launch} {w : Wd} {d : Nat} {M : Mem} {Q : Option MV → Mem → Prop}
theorem ct_X8_houseOf (hd : 2 ≤ d) (hI : IB M) {h k : Int} : PI l w yX8_houseOf cX8_houseOf 3 d [vR 0, vI h, vI k] M (houseOfV M h k) M := by
  have hb := hI.1
  refine MT.of [some (vR 0), some (vI h), some (vI k)] ⟨by decide, rfl⟩ rfl (Nat.le_of_ble_eq_true rfl) (fun hA hM => ?_)
  refine e_aload0 dX8_houseOf_0 ?_
  refine e_getR fl_X8_12 la_0 rfl dX8_houseOf_1 ?_
  refine e_iload1 dX8_houseOf_4 ?_
  refine e_cVZ (ct_X0_isHouse (d := d - 1) (by omega)) cy_X0_isHouse cv_X0_isHouse ml_X8_86 la_1 rfl rfl rfl (rok (by omega) (by decide)) (Nat.le_of_ble_eq_true rfl) dX8_houseOf_5 (fun g5 => ?_) (fun g5 => ?_)
  · refine e_if_ne (tgt := 14) dX8_houseOf_8 (by decide) (fun _ => ?_) (fun h => absurd h (by decide))
    refine e_iload2 dX8_houseOf_14 ?_
    refine e_table (tgt := 84) dX8_houseOf_15 (by decide) (fun hl15 hh15 => ?_) (fun h15 => ?_)
    · rcases (show k = 0 ∨ k = 1 ∨ k = 2 ∨ k = 3 by omega) with hs15 | hs15 | hs15 | hs15
      · refine ⟨29, 44, (by rw [hs15]; rfl), by decide, ?_⟩
        refine e_aload0 dX8_houseOf_44 ?_
        refine e_getR fl_X8_12 la_0 rfl dX8_houseOf_45 ?_
        refine e_getR fl_X8_223 la_1 rfl dX8_houseOf_48 ?_
        refine e_iload1 dX8_houseOf_51 ?_
        refine e_iald la_2 (⟨by omega, by omega⟩) dX8_houseOf_52 ?_
        refine e_iret dX8_houseOf_53 ?_
        exact ⟨rfl, by unfold houseOfV; rw [if_pos g5, hs15]; rfl⟩
      · refine ⟨39, 54, (by rw [hs15]; rfl), by decide, ?_⟩
        refine e_aload0 dX8_houseOf_54 ?_
        refine e_getR fl_X8_12 la_0 rfl dX8_houseOf_55 ?_
        refine e_getR fl_X8_105 la_1 rfl dX8_houseOf_58 ?_
        refine e_iload1 dX8_houseOf_61 ?_
        refine e_iald la_3 (⟨by omega, by omega⟩) dX8_houseOf_62 ?_
        refine e_iret dX8_houseOf_63 ?_
        exact ⟨rfl, by unfold houseOfV; rw [if_pos g5, hs15]; rfl⟩
      · refine ⟨49, 64, (by rw [hs15]; rfl), by decide, ?_⟩
        refine e_aload0 dX8_houseOf_64 ?_
        refine e_getR fl_X8_12 la_0 rfl dX8_houseOf_65 ?_
        refine e_getR fl_X8_146 la_1 rfl dX8_houseOf_68 ?_
        refine e_iload1 dX8_houseOf_71 ?_
        refine e_iald la_4 (⟨by omega, by omega⟩) dX8_houseOf_72 ?_
        refine e_iret dX8_houseOf_73 ?_
        exact ⟨rfl, by unfold houseOfV; rw [if_pos g5, hs15]; rfl⟩
      · refine ⟨59, 74, (by rw [hs15]; rfl), by decide, ?_⟩
        refine e_aload0 dX8_houseOf_74 ?_
        refine e_getR fl_X8_12 la_0 rfl dX8_houseOf_75 ?_
        refine e_getR fl_X8_138 la_1 rfl dX8_houseOf_78 ?_
        refine e_iload1 dX8_houseOf_81 ?_
        refine e_iald la_5 (⟨by omega, by omega⟩) dX8_houseOf_82 ?_
        refine e_iret dX8_houseOf_83 ?_
        exact ⟨rfl, by unfold houseOfV; rw [if_pos g5, hs15]; rfl⟩
    · refine e_bipush dX8_houseOf_84 rfl kb_m2 ?_
      refine e_iret dX8_houseOf_86 ?_
      exact ⟨rfl, by unfold houseOfV; rw [if_pos g5, if_neg (by omega), if_neg (by omega), if_neg (by omega), if_neg (by omega)]⟩
  · refine e_if_ne (tgt := 14) dX8_houseOf_8 (by decide) (fun h => absurd h (by decide)) (fun _ => ?_)
    refine e_bipush dX8_houseOf_11 rfl kb_m2 ?_
    refine e_iret dX8_houseOf_13 ?_
    exact ⟨rfl, by unfold houseOfV; rw [if_neg g5]⟩
theorem ct_X8_candleOf (hd : 4 ≤ d) (hI : IB M) {c k : Int} : PI l w yX8_candleOf cX8_candleOf 3 d [vR 0, vI c, vI k] M (candleOfV M c k) M := by
  have hb := hI.2.1
  refine MT.of [some (vR 0), some (vI c), some (vI k)] ⟨by decide, rfl⟩ rfl (Nat.le_of_ble_eq_true rfl) (fun hA hM => ?_)
  have hkr : inR (vI k) := hA _ (by simp)
  have hk1 := hkr.1
  have hk2 := hkr.2
  refine e_aload0 dX8_candleOf_0 ?_
  refine e_getR fl_X8_12 la_0 rfl dX8_candleOf_1 ?_
  refine e_iload1 dX8_candleOf_4 ?_
  refine e_cVZ (ct_X0_isCandle (d := d - 1) (by omega)) cy_X0_isCandle cv_X0_isCandle ml_X8_116 la_1 rfl rfl rfl (rok (by omega) (by decide)) (Nat.le_of_ble_eq_true rfl) dX8_candleOf_5 (fun g5 => ?_) (fun g5 => ?_)
  · refine e_if_ne (tgt := 14) dX8_candleOf_8 (by decide) (fun _ => ?_) (fun h => absurd h (by decide))
    refine e_iload2 dX8_candleOf_14 ?_
    refine e_table (tgt := 98) dX8_candleOf_15 (by decide) (fun hl15 hh15 => ?_) (fun h15 => ?_)
    · rcases (show k = 0 ∨ k = 1 ∨ k = 2 ∨ k = 3 ∨ k = 4 by omega) with hs15 | hs15 | hs15 | hs15 | hs15
      · refine ⟨33, 48, (by rw [hs15]; rfl), by decide, ?_⟩
        refine e_aload0 dX8_candleOf_48 ?_
        refine e_getR fl_X8_12 la_0 rfl dX8_candleOf_49 ?_
        refine e_getR fl_X8_226 la_1 rfl dX8_candleOf_52 ?_
        refine e_iload1 dX8_candleOf_55 ?_
        refine e_iald la_6 (⟨by omega, by omega⟩) dX8_candleOf_56 ?_
        refine e_iret dX8_candleOf_57 ?_
        exact ⟨rfl, by unfold candleOfV; rw [if_pos g5, hs15]; rfl⟩
      · refine ⟨43, 58, (by rw [hs15]; rfl), by decide, ?_⟩
        refine e_aload0 dX8_candleOf_58 ?_
        refine e_getR fl_X8_12 la_0 rfl dX8_candleOf_59 ?_
        refine e_getR fl_X8_153 la_1 rfl dX8_candleOf_62 ?_
        refine e_iload1 dX8_candleOf_65 ?_
        refine e_iald la_7 (⟨by omega, by omega⟩) dX8_candleOf_66 ?_
        refine e_iret dX8_candleOf_67 ?_
        exact ⟨rfl, by unfold candleOfV; rw [if_pos g5, hs15]; rfl⟩
      · refine ⟨53, 68, (by rw [hs15]; rfl), by decide, ?_⟩
        refine e_aload0 dX8_candleOf_68 ?_
        refine e_getR fl_X8_12 la_0 rfl dX8_candleOf_69 ?_
        refine e_getR fl_X8_119 la_1 rfl dX8_candleOf_72 ?_
        refine e_iload1 dX8_candleOf_75 ?_
        refine e_iald la_8 (⟨by omega, by omega⟩) dX8_candleOf_76 ?_
        refine e_iret dX8_candleOf_77 ?_
        exact ⟨rfl, by unfold candleOfV; rw [if_pos g5, hs15]; rfl⟩
      · refine ⟨63, 78, (by rw [hs15]; rfl), by decide, ?_⟩
        refine e_aload0 dX8_candleOf_78 ?_
        refine e_getR fl_X8_12 la_0 rfl dX8_candleOf_79 ?_
        refine e_getR fl_X8_129 la_1 rfl dX8_candleOf_82 ?_
        refine e_iload1 dX8_candleOf_85 ?_
        refine e_iald la_9 (⟨by omega, by omega⟩) dX8_candleOf_86 ?_
        refine e_iret dX8_candleOf_87 ?_
        exact ⟨rfl, by unfold candleOfV; rw [if_pos g5, hs15]; rfl⟩
      · refine ⟨73, 88, (by rw [hs15]; rfl), by decide, ?_⟩
        refine e_aload0 dX8_candleOf_88 ?_
        refine e_getR fl_X8_12 la_0 rfl dX8_candleOf_89 ?_
        refine e_getR fl_X8_94 la_1 rfl dX8_candleOf_92 ?_
        refine e_iload1 dX8_candleOf_95 ?_
        refine e_iald la_10 (⟨by omega, by omega⟩) dX8_candleOf_96 ?_
        refine e_iret dX8_candleOf_97 ?_
        exact ⟨rfl, by unfold candleOfV; rw [if_pos g5, hs15]; rfl⟩
    · refine e_iload2 dX8_candleOf_98 ?_
      refine e_bipush dX8_candleOf_99 rfl kb_10 ?_
      refine e_icmp_lt (tgt := 134) dX8_candleOf_101 (by decide) (fun h101 => ?_) (fun h101 => ?_)
      · refine e_bipush dX8_candleOf_134 rfl kb_m2 ?_
        refine e_iret dX8_candleOf_136 ?_
        refine ⟨rfl, ?_⟩
        unfold candleOfV
        rw [if_pos g5, if_neg (by omega), if_neg (by omega), if_neg (by omega), if_neg (by omega), if_neg (by omega)]
        by_cases hq : 10 ≤ k ∧ isIn M c (k - 10)
        · rw [if_pos hq] <;> first | rfl | (exfalso; exact g113 hq.2) | (exfalso; omega)
        · rw [if_neg hq] <;> first | rfl | (exfalso; exact hq ⟨by omega, g113⟩)
      · refine e_aload0 dX8_candleOf_104 ?_
        refine e_getR fl_X8_12 la_0 rfl dX8_candleOf_105 ?_
        refine e_iload1 dX8_candleOf_108 ?_
        refine e_iload2 dX8_candleOf_109 ?_
        refine e_bipush dX8_candleOf_110 rfl kb_10 ?_
        refine e_isub dX8_candleOf_112 (⟨by omega, by omega⟩) ?_
        refine e_cVZ (ct_X0_isInch (d := d - 1) (by omega) hI) cy_X0_isInch cv_X0_isInch ml_X8_90 la_1 rfl rfl rfl (rok (by omega) (by decide)) (Nat.le_of_ble_eq_true rfl) dX8_candleOf_113 (fun g113 => ?_) (fun g113 => ?_)
        · refine e_if_eq (tgt := 134) dX8_candleOf_116 (by decide) (fun h => absurd h (by decide)) (fun _ => ?_)
          refine e_aload0 dX8_candleOf_119 ?_
          refine e_getR fl_X8_12 la_0 rfl dX8_candleOf_120 ?_
          refine e_iload1 dX8_candleOf_123 ?_
          refine e_iload2 dX8_candleOf_124 ?_
          refine e_bipush dX8_candleOf_125 rfl kb_10 ?_
          refine e_isub dX8_candleOf_127 (⟨by omega, by omega⟩) ?_
          refine e_cVI (ct_X0_ownerOf (d := d - 1) (by omega) hI) cy_X0_ownerOf cv_X0_ownerOf ml_X8_98 la_1 rfl rfl rfl (rok (by omega) (by decide)) (Nat.le_of_ble_eq_true rfl) dX8_candleOf_128 ?_
          refine e_goto (tgt := 136) dX8_candleOf_131 (by decide) ?_
          refine e_iret dX8_candleOf_136 ?_
          refine ⟨rfl, ?_⟩
          unfold candleOfV
          rw [if_pos g5, if_neg (by omega), if_neg (by omega), if_neg (by omega), if_neg (by omega), if_neg (by omega)]
          by_cases hq : 10 ≤ k ∧ isIn M c (k - 10)
          · rw [if_pos hq] <;> first | rfl | (exfalso; exact g113 hq.2) | (exfalso; omega)
          · rw [if_neg hq] <;> first | rfl | (exfalso; exact hq ⟨by omega, g113⟩)
        · refine e_if_eq (tgt := 134) dX8_candleOf_116 (by decide) (fun _ => ?_) (fun h => absurd h (by decide))
          refine e_bipush dX8_candleOf_134 rfl kb_m2 ?_
          refine e_iret dX8_candleOf_136 ?_
          refine ⟨rfl, ?_⟩
          unfold candleOfV
          rw [if_pos g5, if_neg (by omega), if_neg (by omega), if_neg (by omega), if_neg (by omega), if_neg (by omega)]
          by_cases hq : 10 ≤ k ∧ isIn M c (k - 10)
          · rw [if_pos hq] <;> first | rfl | (exfalso; exact g113 hq.2) | (exfalso; omega)
          · rw [if_neg hq] <;> first | rfl | (exfalso; exact hq ⟨by omega, g113⟩)
  · refine e_if_ne (tgt := 14) dX8_candleOf_8 (by decide) (fun h => absurd h (by decide)) (fun _ => ?_)
    refine e_bipush dX8_candleOf_11 rfl kb_m2 ?_
    refine e_iret dX8_candleOf_13 ?_
    exact ⟨rfl, by unfold candleOfV; rw [if_neg g5]⟩
theorem ct_X8_says (hd : 5 ≤ d) (hL : LW M) {h c i k : Int} : GI l w yX8_says cX8_says 5 .int d [vR 0, vI h, vI c, vI i, vI k] M (fun x M1 => x = saysV M h c i k ∧ FrS M M1) := by
  have hI := hL.1
  by_cases hq : isH M h ∧ isIn M c i ∧ 0 ≤ k ∧ k < 4
  · refine MT.of [some (vR 0), some (vI h), some (vI c), some (vI i), some (vI k)] ⟨by decide, rfl⟩ rfl (Nat.le_of_ble_eq_true rfl) (fun hA hM => ?_)
    refine e_aload0 dX8_says_0 ?_
    refine e_getR fl_X8_12 la_0 rfl dX8_says_1 ?_
    refine e_iload1 dX8_says_4 ?_
    refine e_cVZ (ct_X0_isHouse (d := d - 1) (by omega)) cy_X0_isHouse cv_X0_isHouse ml_X8_86 la_1 rfl rfl rfl (rok (by omega) (by decide)) (Nat.le_of_ble_eq_true rfl) dX8_says_5 (fun g5 => ?_) (fun g5 => ?_)
    · refine e_if_eq (tgt := 34) dX8_says_8 (by decide) (fun h => absurd h (by decide)) (fun _ => ?_)
      refine e_aload0 dX8_says_11 ?_
      refine e_getR fl_X8_12 la_0 rfl dX8_says_12 ?_
      refine e_iload2 dX8_says_15 ?_
      refine e_iload3 dX8_says_16 ?_
      refine e_cVZ (ct_X0_isInch (d := d - 1) (by omega) hI) cy_X0_isInch cv_X0_isInch ml_X8_90 la_1 rfl rfl rfl (rok (by omega) (by decide)) (Nat.le_of_ble_eq_true rfl) dX8_says_17 (fun g17 => ?_) (fun g17 => ?_)
      · refine e_if_eq (tgt := 34) dX8_says_20 (by decide) (fun h => absurd h (by decide)) (fun _ => ?_)
        refine e_iload4 dX8_says_23 ?_
        refine e_if_lt (tgt := 34) dX8_says_25 (by decide) (fun h => absurd h (by omega)) (fun h25 => ?_)
        refine e_iload4 dX8_says_28 ?_
        refine e_iconst dX8_says_30 rfl kc_4 ?_
        refine e_icmp_lt (tgt := 37) dX8_says_31 (by decide) (fun h31 => ?_) (fun h => absurd h (by omega))
        refine e_aload0 dX8_says_37 ?_
        refine e_getR fl_X8_47 la_0 rfl dX8_says_38 ?_
        refine e_iload4 dX8_says_41 ?_
        refine e_iload1 dX8_says_43 ?_
        refine e_iload2 dX8_says_44 ?_
        refine e_iload3 dX8_says_45 ?_
        refine e_cVGI (ct_X1_tell (d := d - 1) (by omega) hL hq.2.2 hq.1 hq.2.1) cy_X1_tell cv_X1_tell ml_X8_101 la_119 rfl rfl rfl (rok (by omega) (by decide)) (Nat.le_of_ble_eq_true rfl) dX8_says_46 (fun x M1 hx => ?_)
        refine e_iret dX8_says_49 ?_
        exact ⟨_, rfl, by unfold saysV; rw [if_pos hq]; exact hx.1, hx.2.frs⟩
      · refine e_if_eq (tgt := 34) dX8_says_20 (by decide) (fun _ => ?_) (fun h => absurd h (by decide))
        refine e_bipush dX8_says_34 rfl kb_m2 ?_
        refine e_iret dX8_says_36 ?_
        first | exact absurd hq.1 g5 | exact absurd hq.2.1 g17
    · refine e_if_eq (tgt := 34) dX8_says_8 (by decide) (fun _ => ?_) (fun h => absurd h (by decide))
      refine e_bipush dX8_says_34 rfl kb_m2 ?_
      refine e_iret dX8_says_36 ?_
      first | exact absurd hq.1 g5 | exact absurd hq.2.1 g17
  · refine MT.of [some (vR 0), some (vI h), some (vI c), some (vI i), some (vI k)] ⟨by decide, rfl⟩ rfl (Nat.le_of_ble_eq_true rfl) (fun hA hM => ?_)
    refine e_aload0 dX8_says_0 ?_
    refine e_getR fl_X8_12 la_0 rfl dX8_says_1 ?_
    refine e_iload1 dX8_says_4 ?_
    refine e_cVZ (ct_X0_isHouse (d := d - 1) (by omega)) cy_X0_isHouse cv_X0_isHouse ml_X8_86 la_1 rfl rfl rfl (rok (by omega) (by decide)) (Nat.le_of_ble_eq_true rfl) dX8_says_5 (fun g5 => ?_) (fun g5 => ?_)
    · refine e_if_eq (tgt := 34) dX8_says_8 (by decide) (fun h => absurd h (by decide)) (fun _ => ?_)
      refine e_aload0 dX8_says_11 ?_
      refine e_getR fl_X8_12 la_0 rfl dX8_says_12 ?_
      refine e_iload2 dX8_says_15 ?_
      refine e_iload3 dX8_says_16 ?_
      refine e_cVZ (ct_X0_isInch (d := d - 1) (by omega) hI) cy_X0_isInch cv_X0_isInch ml_X8_90 la_1 rfl rfl rfl (rok (by omega) (by decide)) (Nat.le_of_ble_eq_true rfl) dX8_says_17 (fun g17 => ?_) (fun g17 => ?_)
      · refine e_if_eq (tgt := 34) dX8_says_20 (by decide) (fun h => absurd h (by decide)) (fun _ => ?_)
        refine e_iload4 dX8_says_23 ?_
        refine e_if_lt (tgt := 34) dX8_says_25 (by decide) (fun h25 => ?_) (fun h25 => ?_)
        · refine e_bipush dX8_says_34 rfl kb_m2 ?_
          refine e_iret dX8_says_36 ?_
          exact ⟨_, rfl, by unfold saysV; rw [if_neg hq], FrS.rf M⟩
        · refine e_iload4 dX8_says_28 ?_
          refine e_iconst dX8_says_30 rfl kc_4 ?_
          refine e_icmp_lt (tgt := 37) dX8_says_31 (by decide) (fun h31 => ?_) (fun h31 => ?_)
          · exact absurd ⟨g5, g17, by omega, by omega⟩ hq
          · refine e_bipush dX8_says_34 rfl kb_m2 ?_
            refine e_iret dX8_says_36 ?_
            exact ⟨_, rfl, by unfold saysV; rw [if_neg hq], FrS.rf M⟩
      · refine e_if_eq (tgt := 34) dX8_says_20 (by decide) (fun _ => ?_) (fun h => absurd h (by decide))
        refine e_bipush dX8_says_34 rfl kb_m2 ?_
        refine e_iret dX8_says_36 ?_
        exact ⟨_, rfl, by unfold saysV; rw [if_neg hq], FrS.rf M⟩
    · refine e_if_eq (tgt := 34) dX8_says_8 (by decide) (fun _ => ?_) (fun h => absurd h (by decide))
      refine e_bipush dX8_says_34 rfl kb_m2 ?_
      refine e_iret dX8_says_36 ?_
      exact ⟨_, rfl, by unfold saysV; rw [if_neg hq], FrS.rf M⟩
theorem ct_X8_drip (hd : 2 ≤ d) (hdr : 0 ≤ M 1 13 ∧ M 1 13 ≤ 72) {i k : Int} : PI l w yX8_drip cX8_drip 3 d [vR 0, vI i, vI k] M (dripV M i k) M := by
  refine MT.of [some (vR 0), some (vI i), some (vI k)] ⟨by decide, rfl⟩ rfl (Nat.le_of_ble_eq_true rfl) (fun hA hM => ?_)
  refine e_iload1 dX8_drip_0 ?_
  refine e_iconst dX8_drip_1 rfl kc_m1 ?_
  refine e_icmp_ne (tgt := 13) dX8_drip_2 (by decide) (fun h2 => ?_) (fun h2 => ?_)
  · refine e_iload1 dX8_drip_13 ?_
    refine e_if_lt (tgt := 37) dX8_drip_14 (by decide) (fun h14 => ?_) (fun h14 => ?_)
    · refine e_bipush dX8_drip_37 rfl kb_m2 ?_
      refine e_iret dX8_drip_39 ?_
      exact ⟨rfl, by unfold dripV; rw [if_neg (by omega), if_neg (by omega)]⟩
    · refine e_iload1 dX8_drip_17 ?_
      refine e_aload0 dX8_drip_18 ?_
      refine e_getR fl_X8_12 la_0 rfl dX8_drip_19 ?_
      refine e_getI fl_X8_229 la_1 rfl dX8_drip_22 ?_
      refine e_icmp_ge (tgt := 37) dX8_drip_25 (by decide) (fun h25 => ?_) (fun h25 => ?_)
      · refine e_bipush dX8_drip_37 rfl kb_m2 ?_
        refine e_iret dX8_drip_39 ?_
        exact ⟨rfl, by unfold dripV; rw [if_neg (by omega), if_neg (by omega)]⟩
      · refine e_iload2 dX8_drip_28 ?_
        refine e_if_lt (tgt := 37) dX8_drip_29 (by decide) (fun h29 => ?_) (fun h29 => ?_)
        · refine e_bipush dX8_drip_37 rfl kb_m2 ?_
          refine e_iret dX8_drip_39 ?_
          exact ⟨rfl, by unfold dripV; rw [if_neg (by omega), if_neg (by omega)]⟩
        · refine e_iload2 dX8_drip_32 ?_
          refine e_iconst dX8_drip_33 rfl kc_5 ?_
          refine e_icmp_lt (tgt := 40) dX8_drip_34 (by decide) (fun h34 => ?_) (fun h34 => ?_)
          · refine e_aload0 dX8_drip_40 ?_
            refine e_getR fl_X8_12 la_0 rfl dX8_drip_41 ?_
            refine e_iload1 dX8_drip_44 ?_
            refine e_iload2 dX8_drip_45 ?_
            refine e_cVI (ct_X0_dripPart (d := d - 1) (by omega) ⟨by omega, by omega⟩ ⟨by omega, by omega⟩) cy_X0_dripPart cv_X0_dripPart ml_X8_232 la_1 rfl rfl rfl (rok (by omega) (by decide)) (Nat.le_of_ble_eq_true rfl) dX8_drip_46 ?_
            refine e_iret dX8_drip_49 ?_
            exact ⟨rfl, by unfold dripV; rw [if_neg (by omega), if_pos (by omega)]⟩
          · refine e_bipush dX8_drip_37 rfl kb_m2 ?_
            refine e_iret dX8_drip_39 ?_
            exact ⟨rfl, by unfold dripV; rw [if_neg (by omega), if_neg (by omega)]⟩
  · refine e_aload0 dX8_drip_5 ?_
    refine e_getR fl_X8_12 la_0 rfl dX8_drip_6 ?_
    refine e_getI fl_X8_229 la_1 rfl dX8_drip_9 ?_
    refine e_iret dX8_drip_12 ?_
    exact ⟨rfl, by unfold dripV; rw [if_pos (by omega)]⟩
theorem ct_X8_about (hd : 2 ≤ d) (hI : IB M) {k : Int} : PI l w yX8_about cX8_about 2 d [vR 0, vI k] M (aboutV M k) M := by
  refine MT.of [some (vR 0), some (vI k)] ⟨by decide, rfl⟩ rfl (Nat.le_of_ble_eq_true rfl) (fun hA hM => ?_)
  refine e_iload1 dX8_about_0 ?_
  refine e_table (tgt := 100) dX8_about_1 (by decide) (fun hl1 hh1 => ?_) (fun h1 => ?_)
  · rcases (show k = 0 ∨ k = 1 ∨ k = 2 ∨ k = 3 ∨ k = 4 ∨ k = 5 ∨ k = 6 by omega) with hs1 | hs1 | hs1 | hs1 | hs1 | hs1 | hs1
    · refine ⟨43, 44, (by rw [hs1]; rfl), by decide, ?_⟩
      refine e_aload0 dX8_about_44 ?_
      refine e_getR fl_X8_12 la_0 rfl dX8_about_45 ?_
      refine e_getI fl_X8_159 la_1 rfl dX8_about_48 ?_
      refine e_iret dX8_about_51 ?_
      exact ⟨rfl, by unfold aboutV; rw [hs1]; rfl⟩
    · refine ⟨51, 52, (by rw [hs1]; rfl), by decide, ?_⟩
      refine e_aload0 dX8_about_52 ?_
      refine e_getR fl_X8_12 la_0 rfl dX8_about_53 ?_
      refine e_getI fl_X8_305 la_1 rfl dX8_about_56 ?_
      refine e_iret dX8_about_59 ?_
      exact ⟨rfl, by unfold aboutV; rw [hs1]; rfl⟩
    · refine ⟨59, 60, (by rw [hs1]; rfl), by decide, ?_⟩
      refine e_aload0 dX8_about_60 ?_
      refine e_getR fl_X8_12 la_0 rfl dX8_about_61 ?_
      refine e_getI fl_X8_82 la_1 rfl dX8_about_64 ?_
      refine e_iret dX8_about_67 ?_
      exact ⟨rfl, by unfold aboutV; rw [hs1]; rfl⟩
    · refine ⟨67, 68, (by rw [hs1]; rfl), by decide, ?_⟩
      refine e_aload0 dX8_about_68 ?_
      refine e_getR fl_X8_12 la_0 rfl dX8_about_69 ?_
      refine e_getI fl_X8_172 la_1 rfl dX8_about_72 ?_
      refine e_iret dX8_about_75 ?_
      exact ⟨rfl, by unfold aboutV; rw [hs1]; rfl⟩
    · refine ⟨75, 76, (by rw [hs1]; rfl), by decide, ?_⟩
      refine e_aload0 dX8_about_76 ?_
      refine e_getR fl_X8_12 la_0 rfl dX8_about_77 ?_
      refine e_getI fl_X8_192 la_1 rfl dX8_about_80 ?_
      refine e_iret dX8_about_83 ?_
      exact ⟨rfl, by unfold aboutV; rw [hs1]; rfl⟩
    · refine ⟨83, 84, (by rw [hs1]; rfl), by decide, ?_⟩
      refine e_aload0 dX8_about_84 ?_
      refine e_getR fl_X8_22 la_0 rfl dX8_about_85 ?_
      refine e_getI fl_X8_220 la_25 rfl dX8_about_88 ?_
      refine e_iret dX8_about_91 ?_
      exact ⟨rfl, by unfold aboutV; rw [hs1]; rfl⟩
    · refine ⟨91, 92, (by rw [hs1]; rfl), by decide, ?_⟩
      refine e_aload0 dX8_about_92 ?_
      refine e_getR fl_X8_38 la_0 rfl dX8_about_93 ?_
      refine e_getI fl_X8_170 la_114 rfl dX8_about_96 ?_
      refine e_iret dX8_about_99 ?_
      exact ⟨rfl, by unfold aboutV; rw [hs1]; rfl⟩
  · refine e_iload1 dX8_about_100 ?_
    refine e_bipush dX8_about_101 rfl kb_10 ?_
    refine e_icmp_lt (tgt := 126) dX8_about_103 (by decide) (fun h103 => ?_) (fun h103 => ?_)
    · refine e_bipush dX8_about_126 rfl kb_m2 ?_
      refine e_iret dX8_about_128 ?_
      refine ⟨rfl, ?_⟩
      unfold aboutV
      rw [if_neg (by omega), if_neg (by omega), if_neg (by omega), if_neg (by omega), if_neg (by omega), if_neg (by omega), if_neg (by omega)]
      by_cases hq : 10 ≤ k ∧ k ≤ 13
      · rw [if_pos hq] <;> first | rfl | (exfalso; omega)
      · rw [if_neg hq] <;> first | rfl | (exfalso; omega)
    · refine e_iload1 dX8_about_106 ?_
      refine e_bipush dX8_about_107 rfl kb_13 ?_
      refine e_icmp_gt (tgt := 126) dX8_about_109 (by decide) (fun h109 => ?_) (fun h109 => ?_)
      · refine e_bipush dX8_about_126 rfl kb_m2 ?_
        refine e_iret dX8_about_128 ?_
        refine ⟨rfl, ?_⟩
        unfold aboutV
        rw [if_neg (by omega), if_neg (by omega), if_neg (by omega), if_neg (by omega), if_neg (by omega), if_neg (by omega), if_neg (by omega)]
        by_cases hq : 10 ≤ k ∧ k ≤ 13
        · rw [if_pos hq] <;> first | rfl | (exfalso; omega)
        · rw [if_neg hq] <;> first | rfl | (exfalso; omega)
      · refine e_aload0 dX8_about_112 ?_
        refine e_getR fl_X8_12 la_0 rfl dX8_about_113 ?_
        refine e_iload1 dX8_about_116 ?_
        refine e_bipush dX8_about_117 rfl kb_10 ?_
        refine e_isub dX8_about_119 (⟨by omega, by omega⟩) ?_
        refine e_cVI (ct_X0_candlesIn (d := d - 1) (by omega) hI) cy_X0_candlesIn cv_X0_candlesIn ml_X8_308 la_1 rfl rfl rfl (rok (by omega) (by decide)) (Nat.le_of_ble_eq_true rfl) dX8_about_120 ?_
        refine e_goto (tgt := 128) dX8_about_123 (by decide) ?_
        refine e_iret dX8_about_128 ?_
        refine ⟨rfl, ?_⟩
        unfold aboutV
        rw [if_neg (by omega), if_neg (by omega), if_neg (by omega), if_neg (by omega), if_neg (by omega), if_neg (by omega), if_neg (by omega)]
        by_cases hq : 10 ≤ k ∧ k ≤ 13
        · rw [if_pos hq] <;> first | rfl | (exfalso; omega)
        · rw [if_neg hq] <;> first | rfl | (exfalso; omega)
theorem ct_X8_fault (hd : 1 ≤ d) {k : Int} : PI l w yX8_fault cX8_fault 2 d [vR 0, vI k] M (faultV M k) M := by
  refine MT.of [some (vR 0), some (vI k)] ⟨by decide, rfl⟩ rfl (Nat.le_of_ble_eq_true rfl) (fun hA hM => ?_)
  refine e_aload0 dX8_fault_0 ?_
  refine e_getR fl_X8_38 la_0 rfl dX8_fault_1 ?_
  refine e_getI fl_X8_179 la_114 rfl dX8_fault_4 ?_
  refine e_if_ne (tgt := 12) dX8_fault_7 (by decide) (fun h7 => ?_) (fun h7 => ?_)
  · refine e_iload1 dX8_fault_12 ?_
    refine e_if_ne (tgt := 24) dX8_fault_13 (by decide) (fun h13 => ?_) (fun h13 => ?_)
    · refine e_iload1 dX8_fault_24 ?_
      refine e_iconst dX8_fault_25 rfl kc_1 ?_
      refine e_icmp_ne (tgt := 39) dX8_fault_26 (by decide) (fun h26 => ?_) (fun h26 => ?_)
      · refine e_iconst dX8_fault_39 rfl kc_m1 ?_
        refine e_iret dX8_fault_40 ?_
        refine ⟨rfl, ?_⟩
        unfold faultV
        rw [if_neg h7, if_neg h13]
        by_cases hq : k = 1
        · rw [if_pos hq] <;> first | rfl | (exfalso; omega)
        · rw [if_neg hq] <;> first | rfl | (exfalso; omega)
      · refine e_aload0 dX8_fault_29 ?_
        refine e_getR fl_X8_38 la_0 rfl dX8_fault_30 ?_
        refine e_getI fl_X8_186 la_114 rfl dX8_fault_33 ?_
        refine e_goto (tgt := 40) dX8_fault_36 (by decide) ?_
        refine e_iret dX8_fault_40 ?_
        refine ⟨rfl, ?_⟩
        unfold faultV
        rw [if_neg h7, if_neg h13]
        by_cases hq : k = 1
        · rw [if_pos hq] <;> first | rfl | (exfalso; omega)
        · rw [if_neg hq] <;> first | rfl | (exfalso; omega)
    · refine e_aload0 dX8_fault_16 ?_
      refine e_getR fl_X8_38 la_0 rfl dX8_fault_17 ?_
      refine e_getI fl_X8_183 la_114 rfl dX8_fault_20 ?_
      refine e_iret dX8_fault_23 ?_
      exact ⟨rfl, by unfold faultV; rw [if_neg h7, if_pos h13]⟩
  · refine e_iconst dX8_fault_10 rfl kc_m1 ?_
    refine e_iret dX8_fault_11 ?_
    exact ⟨rfl, by unfold faultV; rw [if_pos h7]⟩
theorem ct_X8_worth (hd : 6 ≤ d) (hI : IB M) {s : Int} : PI l w yX8_worth cX8_worth 2 d [vR 0, vI s] M (worthV M s) M := by
  refine MT.of [some (vR 0), some (vI s)] ⟨by decide, rfl⟩ rfl (Nat.le_of_ble_eq_true rfl) (fun hA hM => ?_)
  refine e_aload0 dX8_worth_0 ?_
  refine e_getR fl_X8_12 la_0 rfl dX8_worth_1 ?_
  refine e_iload1 dX8_worth_4 ?_
  refine e_cVZ (ct_X0_isSet (d := d - 1) (by omega) hI) cy_X0_isSet cv_X0_isSet ml_X8_262 la_1 rfl rfl rfl (rok (by omega) (by decide)) (Nat.le_of_ble_eq_true rfl) dX8_worth_5 (fun g5 => ?_) (fun g5 => ?_)
  · refine e_if_eq (tgt := 22) dX8_worth_8 (by decide) (fun h => absurd h (by decide)) (fun _ => ?_)
    refine e_aload0 dX8_worth_11 ?_
    refine e_getR fl_X8_12 la_0 rfl dX8_worth_12 ?_
    refine e_iload1 dX8_worth_15 ?_
    refine e_cVI (ct_X0_worthOf (d := d - 1) (by omega) hI) cy_X0_worthOf cv_X0_worthOf ml_X8_286 la_1 rfl rfl rfl (rok (by omega) (by decide)) (Nat.le_of_ble_eq_true rfl) dX8_worth_16 ?_
    refine e_goto (tgt := 23) dX8_worth_19 (by decide) ?_
    refine e_iret dX8_worth_23 ?_
    refine ⟨rfl, ?_⟩
    unfold worthV
    by_cases hq : 0 ≤ s ∧ s < 2 ^ (M 1 0).toNat
    · rw [if_pos hq] <;> first | rfl | (exfalso; exact g5 hq)
    · rw [if_neg hq] <;> first | rfl | (exfalso; exact hq g5)
  · refine e_if_eq (tgt := 22) dX8_worth_8 (by decide) (fun _ => ?_) (fun h => absurd h (by decide))
    refine e_iconst dX8_worth_22 rfl kc_m1 ?_
    refine e_iret dX8_worth_23 ?_
    refine ⟨rfl, ?_⟩
    unfold worthV
    by_cases hq : 0 ≤ s ∧ s < 2 ^ (M 1 0).toNat
    · rw [if_pos hq] <;> first | rfl | (exfalso; exact g5 hq)
    · rw [if_neg hq] <;> first | rfl | (exfalso; exact hq g5)
def whoseR (N : Mem) (c t x : Int) : Prop := (0 ≤ t ∧ t ≤ 9999 ∧ hasW N c ∧ x = wAt (wH N c.toNat (N 10 c.toNat).toNat) (bN N c.toNat (N 10 c.toNat).toNat) ((N 7 c.toNat).toNat - (N 10 c.toNat).toNat) 0 t) ∨ (¬ (0 ≤ t ∧ t ≤ 9999 ∧ hasW N c) ∧ x = -1)
theorem ct_X8_whose (hd : 7 ≤ d) (hL : LW M) (hO : OWN M) {c t : Int} : GI l w yX8_whose cX8_whose 3 .int d [vR 0, vI c, vI t] M (fun x M1 => whoseR M c t x ∧ FrS M M1) := by
  by_cases ht : 0 ≤ t ∧ t ≤ 9999
  · refine MT.of [some (vR 0), some (vI c), some (vI t)] ⟨by decide, rfl⟩ rfl (Nat.le_of_ble_eq_true rfl) (fun hA hM => ?_)
    refine e_iload2 dX8_whose_0 ?_
    refine e_if_lt (tgt := 22) dX8_whose_1 (by decide) (fun h => absurd h (by omega)) (fun h1 => ?_)
    refine e_iload2 dX8_whose_4 ?_
    refine e_sipush dX8_whose_5 rfl ks_9999 ?_
    refine e_icmp_gt (tgt := 22) dX8_whose_8 (by decide) (fun h => absurd h (by omega)) (fun h8 => ?_)
    refine e_aload0 dX8_whose_11 ?_
    refine e_getR fl_X8_56 la_0 rfl dX8_whose_12 ?_
    refine e_iload1 dX8_whose_15 ?_
    refine e_cVGI (ct_X6_plan (d := d - 1) (by omega) hL hO) cy_X6_plan cv_X6_plan ml_X8_235 la_122 rfl rfl rfl (rok (by omega) (by decide)) (Nat.le_of_ble_eq_true rfl) dX8_whose_16 (fun x M1 hq => ?_)
    rcases hq with ⟨rfl, hw, nx, ln, e1, e2, hW⟩ | ⟨rfl, hw, hf⟩
    · obtain ⟨c, rfl⟩ : ∃ n : Nat, c = n := ⟨c.toNat, by have := hw.1; omega⟩
      have hw2 := hw.2.2
      rw [Int.toNat_natCast] at e1 e2 hW hw2
      refine e_if_ne (tgt := 24) dX8_whose_19 (by decide) (fun _ => ?_) (fun h => absurd h (by decide))
      refine e_aload0 dX8_whose_24 ?_
      refine e_getR fl_X8_56 la_0 rfl dX8_whose_25 ?_
      refine e_iload2 dX8_whose_28 ?_
      refine e_cVGI (ct_X6_houseAt (d := d - 1) (by omega) hL hO hw.1 hw2 e2 hW ht) cy_X6_houseAt cv_X6_houseAt ml_X8_238 la_122 rfl rfl rfl (rok (by omega) (by decide)) (Nat.le_of_ble_eq_true rfl) dX8_whose_29 (fun x M2 hq => ?_)
      refine e_iret dX8_whose_32 ?_
      exact ⟨_, rfl, Or.inl ⟨ht.1, ht.2, hw, by rw [Int.toNat_natCast, e1, e2, Int.toNat_natCast, Int.toNat_natCast]; exact hq.1⟩, hq.2⟩
    · refine e_if_ne (tgt := 24) dX8_whose_19 (by decide) (fun h => absurd h (by decide)) (fun _ => ?_)
      refine e_iconst dX8_whose_22 rfl kc_m1 ?_
      refine e_iret dX8_whose_23 ?_
      exact ⟨_, rfl, Or.inr ⟨fun z => hw z.2.2, rfl⟩, hf⟩
  · refine MT.of [some (vR 0), some (vI c), some (vI t)] ⟨by decide, rfl⟩ rfl (Nat.le_of_ble_eq_true rfl) (fun hA hM => ?_)
    refine e_iload2 dX8_whose_0 ?_
    refine e_if_lt (tgt := 22) dX8_whose_1 (by decide) (fun h1 => ?_) (fun h1 => ?_)
    · refine e_iconst dX8_whose_22 rfl kc_m1 ?_
      refine e_iret dX8_whose_23 ?_
      exact ⟨_, rfl, Or.inr ⟨fun z => ht ⟨z.1, z.2.1⟩, rfl⟩, FrS.rf M⟩
    · refine e_iload2 dX8_whose_4 ?_
      refine e_sipush dX8_whose_5 rfl ks_9999 ?_
      refine e_icmp_gt (tgt := 22) dX8_whose_8 (by decide) (fun h8 => ?_) (fun h8 => ?_)
      · refine e_iconst dX8_whose_22 rfl kc_m1 ?_
        refine e_iret dX8_whose_23 ?_
        exact ⟨_, rfl, Or.inr ⟨fun z => ht ⟨z.1, z.2.1⟩, rfl⟩, FrS.rf M⟩
      · exact absurd ⟨by omega, by omega⟩ ht
end ASK
