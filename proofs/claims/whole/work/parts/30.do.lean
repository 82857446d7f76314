/-! CANDLEENDS, what changes -/
theorem up_c {M M' : Mem} {o k q : Nat} {v v' : Int} (h : M q = M' q) (hv : v = v') : up M o k v q = up M' o k v' q := by
  funext k'
  simp only [up, h, hv]
theorem fr2u {A B : Mem} (h : Fr2 A B) {o k : Nat} {v v' : Int} (hv : v' = v) : Fr2 (up A o k v) (up B o k v') := fun q a b => up_c (h q a b) hv
theorem hsF_c {M M' : Mem} {R n q : Nat} (h : M q = M' q) (h3 : M 3 = M' 3) (h4 : M 4 = M' 4) (h5 : M 5 = M' 5) : hsF M R n q = hsF M' R n q := by
  funext k
  simp only [hsF, h, h3, h4, h5]
theorem kp1_c {M M' : Mem} {q : Nat} {c i : Int} (h1 : M 1 = M' 1) (h25 : M 25 = M' 25) {o : Nat} (h : M o = M' o) : kp1 M q c i o = kp1 M' q c i o := by
  unfold kp1
  rw [h1, h25]
  exact up_c (up_c (up_c (up_c (up_c (up_c h rfl) rfl) rfl) rfl) rfl) rfl
theorem keepM_fr {M M' : Mem} {q : Nat} (hq : q < 30) {c i : Int} (h : Fr2 M M') : Fr2 (keepM M q c i) (keepM M' q c i) := by
  have h1 := h 1 (by decide) (by decide)
  have h25 := h 25 (by decide) (by decide)
  have hk2 : ∀ o, o ≠ 120 → o ≠ 121 → kp2 M' q c i o = kp2 M q c i o := by
    intro o a b
    unfold kp2 isC
    rw [h1, h 8 (by decide) (by decide), h 9 (by decide) (by decide), h 10 (by decide) (by decide)]
    split
    · exact up_c (up_c (up_c (kp1_c h1 h25 (h o a b)) rfl) rfl) rfl
    · exact kp1_c h1 h25 (h o a b)
  have hk3 : ∀ o, o ≠ 120 → o ≠ 121 → kp3 M' q c i o = kp3 M q c i o := by
    intro o a b
    unfold kp3
    rw [h1]
    exact up_c (hk2 o a b) rfl
  intro o a b
  unfold keepM
  rw [h1]
  exact hsF_c (hk3 o a b) (hk3 3 (by decide) (by decide)) (hk3 4 (by decide) (by decide)) (hk3 5 (by decide) (by decide))
/-- tell looks at these alone -/
def SameT (M M1 : Mem) : Prop := (M1 1 = M 1 ∧ M1 2 = M 2 ∧ M1 3 = M 3 ∧ M1 4 = M 4 ∧ M1 6 = M 6 ∧ M1 7 = M 7) ∧ ∀ o, 90 ≤ o → o ≤ 113 → M1 o = M o
theorem lawC_st {M M1 : Mem} (h1 : M1 1 15 = M 1 15) (h2 : M1 1 16 = M 1 16) (h : ∀ o, 90 ≤ o → o ≤ 113 → M1 o = M o) (ht : M 1 15 ≤ 4) (k : Nat) : lawC M1 k = lawC M k := by
  unfold lawC isT
  rw [h1, h2]
  by_cases q : 0 ≤ M 1 16 ∧ M 1 16 < M 1 15
  · rw [h (93 + 6 * (M 1 16).toNat) (by omega) (by omega), h (92 + 6 * (M 1 16).toNat) (by omega) (by omega), h (91 + 6 * (M 1 16).toNat) (by omega) (by omega)]
  · rw [if_neg (fun z => q z.1), if_neg (fun z => q z.1)]
theorem tellV_st {M M1 : Mem} (h : SameT M M1) (ht : M 1 15 ≤ 4) (k a c i : Int) : tellV M1 k a c i = tellV M k a c i := by
  unfold tellV nmOf
  rw [lawC_st (by rw [h.1.1]) (by rw [h.1.1]) h.2 ht, h.1.2.1, h.1.2.2.1, h.1.2.2.2.1, h.1.2.2.2.2.1, h.1.2.2.2.2.2]
theorem LW.st {M M1 : Mem} (h : SameT M M1) (hl : LW M) : LW M1 := by
  unfold LW IB isT TxOk at hl ⊢
  rw [h.1.1, h.1.2.1, h.1.2.2.1, h.1.2.2.2.1, h.1.2.2.2.2.1, h.1.2.2.2.2.2]
  refine ⟨hl.1, hl.2.1, hl.2.2.1, hl.2.2.2.1, fun ht => ?_⟩
  have h4 : (M 1 16).toNat < 4 := by have := hl.2.2.2.1; omega
  rw [h.2 (93 + 6 * (M 1 16).toNat) (by omega) (by omega), h.2 (92 + 6 * (M 1 16).toNat) (by omega) (by omega), h.2 (91 + 6 * (M 1 16).toNat) (by omega) (by omega)]
  exact hl.2.2.2.2 ht
theorem keepM_st {M : Mem} {q : Nat} (hq : q < 30) {c i : Int} : SameT M (keepM M q c i) :=
  ⟨⟨keepM_o (by decide) (by omega), keepM_o (by decide) (by omega), keepM_o (by decide) (by omega), keepM_o (by decide) (by omega), keepM_o (by decide) (by omega), keepM_o (by decide) (by omega)⟩, fun o a b => keepM_o (by omega) (by omega)⟩
/-- the steps' ring -/
def SI (M : Mem) : Prop := (0 ≤ M 25 2 ∧ M 25 2 < 30) ∧ (0 ≤ M 25 1 ∧ M 25 1 ≤ 30)
def nxt (M : Mem) : Nat := ((M 25 2 + 1) % 30).toNat
theorem nxt_ok {M : Mem} (h : SI M) : nxt M < 30 ∧ (M 25 2 + 1) % 30 = nxt M := by
  unfold nxt
  have := h.1
  omega
abbrev okBuy (M : Mem) (h c i : Int) : Prop := isH M h ∧ isIn M c i ∧ M 10 c.toNat ≤ i ∧ ownr M c i = -1 ∧ tellV M 0 h c i ≤ M 3 h.toNat
def buyM (M : Mem) (h c i : Int) : Mem := up (up (keepM M (nxt M) c i) 3 h.toNat (M 3 h.toNat - tellV M 0 h c i)) 11 (c * 12 + i).toNat h
section DO
variable {l : Launch} {w : Wd} {d : Nat} {M : Mem} {Q : Option MV → Mem → Prop}
theorem ct_X8_house (hd : 2 ≤ d) (hI : IB M) {a b : Int} : PI l w yX8_house cX8_house 3 d [vR 0, vI a, vI b] M (if (0 ≤ a ∧ a ≤ 9 ∧ 0 ≤ b ∧ b ≤ 999) ∧ M 1 0 < 8 then M 1 0 else -1) (if (0 ≤ a ∧ a ≤ 9 ∧ 0 ≤ b ∧ b ≤ 999) ∧ M 1 0 < 8 then addH M a b else M) := by
  refine MT.of [some (vR 0), some (vI a), some (vI b)] ⟨by decide, rfl⟩ rfl (Nat.le_of_ble_eq_true rfl) (fun hA hM => ?_)
  refine e_iload1 dX8_house_0 ?_
  refine e_if_lt (tgt := 21) dX8_house_1 (by decide) (fun h1 => ?_) (fun h1 => ?_)
  · refine e_iconst dX8_house_21 rfl kc_m1 ?_
    refine e_iret dX8_house_22 ?_
    exact ⟨by rw [if_neg (by omega)], by rw [if_neg (by omega)]⟩
  · refine e_iload1 dX8_house_4 ?_
    refine e_bipush dX8_house_5 rfl kb_9 ?_
    refine e_icmp_gt (tgt := 21) dX8_house_7 (by decide) (fun h7 => ?_) (fun h7 => ?_)
    · refine e_iconst dX8_house_21 rfl kc_m1 ?_
      refine e_iret dX8_house_22 ?_
      exact ⟨by rw [if_neg (by omega)], by rw [if_neg (by omega)]⟩
    · refine e_iload2 dX8_house_10 ?_
      refine e_if_lt (tgt := 21) dX8_house_11 (by decide) (fun h11 => ?_) (fun h11 => ?_)
      · refine e_iconst dX8_house_21 rfl kc_m1 ?_
        refine e_iret dX8_house_22 ?_
        exact ⟨by rw [if_neg (by omega)], by rw [if_neg (by omega)]⟩
      · refine e_iload2 dX8_house_14 ?_
        refine e_sipush dX8_house_15 rfl ks_999 ?_
        refine e_icmp_le (tgt := 23) dX8_house_18 (by decide) (fun h18 => ?_) (fun h18 => ?_)
        · refine e_aload0 dX8_house_23 ?_
          refine e_getR fl_X8_12 la_0 rfl dX8_house_24 ?_
          refine e_iload1 dX8_house_27 ?_
          refine e_iload2 dX8_house_28 ?_
          refine e_cVI (ct_X0_addHouse (d := d - 1) (by omega) hI) cy_X0_addHouse cv_X0_addHouse ml_X8_75 la_1 rfl rfl rfl (rok (by omega) (by decide)) (Nat.le_of_ble_eq_true rfl) dX8_house_29 ?_
          refine e_iret dX8_house_32 ?_
          by_cases hq : M 1 0 < 8
          · exact ⟨by rw [if_pos hq, if_pos (by omega)], by rw [if_pos hq, if_pos (by omega)]⟩
          · exact ⟨by rw [if_neg hq, if_neg (by omega)], by rw [if_neg hq, if_neg (by omega)]⟩
        · refine e_iconst dX8_house_21 rfl kc_m1 ?_
          refine e_iret dX8_house_22 ?_
          exact ⟨by rw [if_neg (by omega)], by rw [if_neg (by omega)]⟩
theorem ct_X8_candle (hd : 2 ≤ d) (hI : IB M) {a b : Int} : PI l w yX8_candle cX8_candle 3 d [vR 0, vI a, vI b] M (if (1 ≤ a ∧ a ≤ 9 ∧ 1 ≤ b ∧ b ≤ 12) ∧ M 1 5 < 6 then M 1 5 else -1) (if (1 ≤ a ∧ a ≤ 9 ∧ 1 ≤ b ∧ b ≤ 12) ∧ M 1 5 < 6 then addC M a b else M) := by
  refine MT.of [some (vR 0), some (vI a), some (vI b)] ⟨by decide, rfl⟩ rfl (Nat.le_of_ble_eq_true rfl) (fun hA hM => ?_)
  refine e_iload1 dX8_candle_0 ?_
  refine e_iconst dX8_candle_1 rfl kc_1 ?_
  refine e_icmp_lt (tgt := 22) dX8_candle_2 (by decide) (fun h2 => ?_) (fun h2 => ?_)
  · refine e_iconst dX8_candle_22 rfl kc_m1 ?_
    refine e_iret dX8_candle_23 ?_
    exact ⟨by rw [if_neg (by omega)], by rw [if_neg (by omega)]⟩
  · refine e_iload1 dX8_candle_5 ?_
    refine e_bipush dX8_candle_6 rfl kb_9 ?_
    refine e_icmp_gt (tgt := 22) dX8_candle_8 (by decide) (fun h8 => ?_) (fun h8 => ?_)
    · refine e_iconst dX8_candle_22 rfl kc_m1 ?_
      refine e_iret dX8_candle_23 ?_
      exact ⟨by rw [if_neg (by omega)], by rw [if_neg (by omega)]⟩
    · refine e_iload2 dX8_candle_11 ?_
      refine e_iconst dX8_candle_12 rfl kc_1 ?_
      refine e_icmp_lt (tgt := 22) dX8_candle_13 (by decide) (fun h13 => ?_) (fun h13 => ?_)
      · refine e_iconst dX8_candle_22 rfl kc_m1 ?_
        refine e_iret dX8_candle_23 ?_
        exact ⟨by rw [if_neg (by omega)], by rw [if_neg (by omega)]⟩
      · refine e_iload2 dX8_candle_16 ?_
        refine e_bipush dX8_candle_17 rfl kb_12 ?_
        refine e_icmp_le (tgt := 24) dX8_candle_19 (by decide) (fun h19 => ?_) (fun h19 => ?_)
        · refine e_aload0 dX8_candle_24 ?_
          refine e_getR fl_X8_12 la_0 rfl dX8_candle_25 ?_
          refine e_iload1 dX8_candle_28 ?_
          refine e_iload2 dX8_candle_29 ?_
          refine e_cVI (ct_X0_addCandle (d := d - 1) (by omega) hI) cy_X0_addCandle cv_X0_addCandle ml_X8_79 la_1 rfl rfl rfl (rok (by omega) (by decide)) (Nat.le_of_ble_eq_true rfl) dX8_candle_30 ?_
          refine e_iret dX8_candle_33 ?_
          by_cases hq : M 1 5 < 6
          · exact ⟨by rw [if_pos hq, if_pos (by omega)], by rw [if_pos hq, if_pos (by omega)]⟩
          · exact ⟨by rw [if_neg hq, if_neg (by omega)], by rw [if_neg hq, if_neg (by omega)]⟩
        · refine e_iconst dX8_candle_22 rfl kc_m1 ?_
          refine e_iret dX8_candle_23 ?_
          exact ⟨by rw [if_neg (by omega)], by rw [if_neg (by omega)]⟩
theorem ct_X8_seed (hd : 1 ≤ d) {a : Int} : GI l w yX8_seed cX8_seed 2 .boolean d [vR 0, vI a] M (fun x M1 => (0 ≤ a ∧ a ≤ 9999 ∧ x = 1 ∧ M1 = up M 1 12 (a * 4 + 5)) ∨ (¬ (0 ≤ a ∧ a ≤ 9999) ∧ x = 0 ∧ M1 = M)) := by
  refine MT.of [some (vR 0), some (vI a)] ⟨by decide, rfl⟩ rfl (Nat.le_of_ble_eq_true rfl) (fun hA hM => ?_)
  refine e_iload1 dX8_seed_0 ?_
  refine e_if_lt (tgt := 11) dX8_seed_1 (by decide) (fun h1 => ?_) (fun h1 => ?_)
  · refine e_iconst dX8_seed_11 rfl kc_0 ?_
    refine e_zret dX8_seed_12 (by decide) ?_
    exact ⟨0, rfl, Or.inr ⟨by omega, rfl, rfl⟩⟩
  · refine e_iload1 dX8_seed_4 ?_
    refine e_sipush dX8_seed_5 rfl ks_9999 ?_
    refine e_icmp_le (tgt := 13) dX8_seed_8 (by decide) (fun h8 => ?_) (fun h8 => ?_)
    · refine e_aload0 dX8_seed_13 ?_
      refine e_getR fl_X8_12 la_0 rfl dX8_seed_14 ?_
      refine e_iload1 dX8_seed_17 ?_
      refine e_iconst dX8_seed_18 rfl kc_4 ?_
      refine e_imul dX8_seed_19 (⟨by omega, by omega⟩) ?_
      refine e_iconst dX8_seed_20 rfl kc_5 ?_
      refine e_iadd dX8_seed_21 (⟨by omega, by omega⟩) ?_
      refine e_putI fp_X8_82 la_1 rfl dX8_seed_22 ?_
      refine e_iconst dX8_seed_25 rfl kc_1 ?_
      refine e_zret dX8_seed_26 (by decide) ?_
      exact ⟨1, rfl, Or.inl ⟨by omega, by omega, rfl, rfl⟩⟩
    · refine e_iconst dX8_seed_11 rfl kc_0 ?_
      refine e_zret dX8_seed_12 (by decide) ?_
      exact ⟨0, rfl, Or.inr ⟨by omega, rfl, rfl⟩⟩
theorem ct_X8_by (hd : 2 ≤ d) {a : Int} : GI l w yX8_by cX8_by 2 .boolean d [vR 0, vI a] M (fun x M1 => ((a = -1 ∨ isT M a) ∧ x = 1 ∧ M1 = up M 1 16 a) ∨ (¬ (a = -1 ∨ isT M a) ∧ x = 0 ∧ M1 = M)) := by
  refine MT.of [some (vR 0), some (vI a)] ⟨by decide, rfl⟩ rfl (Nat.le_of_ble_eq_true rfl) (fun hA hM => ?_)
  refine e_iload1 dX8_by_0 ?_
  refine e_iconst dX8_by_1 rfl kc_m1 ?_
  refine e_icmp_eq (tgt := 18) dX8_by_2 (by decide) (fun h2 => ?_) (fun h2 => ?_)
  · refine e_aload0 dX8_by_18 ?_
    refine e_getR fl_X8_12 la_0 rfl dX8_by_19 ?_
    refine e_iload1 dX8_by_22 ?_
    refine e_putI fp_X8_192 la_1 rfl dX8_by_23 ?_
    refine e_iconst dX8_by_26 rfl kc_1 ?_
    refine e_zret dX8_by_27 (by decide) ?_
    first | exact ⟨1, rfl, Or.inl ⟨Or.inl h2, rfl, rfl⟩⟩ | exact ⟨1, rfl, Or.inl ⟨Or.inr g10, rfl, rfl⟩⟩
  · refine e_aload0 dX8_by_5 ?_
    refine e_getR fl_X8_12 la_0 rfl dX8_by_6 ?_
    refine e_iload1 dX8_by_9 ?_
    refine e_cVZ (ct_X0_isText (d := d - 1) (by omega)) cy_X0_isText cv_X0_isText ml_X8_189 la_1 rfl rfl rfl (rok (by omega) (by decide)) (Nat.le_of_ble_eq_true rfl) dX8_by_10 (fun g10 => ?_) (fun g10 => ?_)
    · refine e_if_ne (tgt := 18) dX8_by_13 (by decide) (fun _ => ?_) (fun h => absurd h (by decide))
      refine e_aload0 dX8_by_18 ?_
      refine e_getR fl_X8_12 la_0 rfl dX8_by_19 ?_
      refine e_iload1 dX8_by_22 ?_
      refine e_putI fp_X8_192 la_1 rfl dX8_by_23 ?_
      refine e_iconst dX8_by_26 rfl kc_1 ?_
      refine e_zret dX8_by_27 (by decide) ?_
      first | exact ⟨1, rfl, Or.inl ⟨Or.inl h2, rfl, rfl⟩⟩ | exact ⟨1, rfl, Or.inl ⟨Or.inr g10, rfl, rfl⟩⟩
    · refine e_if_ne (tgt := 18) dX8_by_13 (by decide) (fun h => absurd h (by decide)) (fun _ => ?_)
      refine e_iconst dX8_by_16 rfl kc_0 ?_
      refine e_zret dX8_by_17 (by decide) ?_
      exact ⟨0, rfl, Or.inr ⟨fun z => z.elim h2 g10, rfl, rfl⟩⟩
theorem ct_X8_end (hd : 1 ≤ d) {a : Int} : PI l w yX8_end cX8_end 2 d [vR 0, vI a] M (if 0 ≤ a ∧ a ≤ M 114 1 then a else -1) (if 0 ≤ a ∧ a ≤ M 114 1 then up M 114 1 a else M) := by
  refine MT.of [some (vR 0), some (vI a)] ⟨by decide, rfl⟩ rfl (Nat.le_of_ble_eq_true rfl) (fun hA hM => ?_)
  refine e_iload1 dX8_end_0 ?_
  refine e_if_lt (tgt := 15) dX8_end_1 (by decide) (fun h1 => ?_) (fun h1 => ?_)
  · refine e_iconst dX8_end_15 rfl kc_m1 ?_
    refine e_iret dX8_end_16 ?_
    exact ⟨by rw [if_neg (by omega)], by rw [if_neg (by omega)]⟩
  · refine e_iload1 dX8_end_4 ?_
    refine e_aload0 dX8_end_5 ?_
    refine e_getR fl_X8_38 la_0 rfl dX8_end_6 ?_
    refine e_getI fl_X8_170 la_114 rfl dX8_end_9 ?_
    refine e_icmp_le (tgt := 17) dX8_end_12 (by decide) (fun h12 => ?_) (fun h12 => ?_)
    · refine e_aload0 dX8_end_17 ?_
      refine e_getR fl_X8_38 la_0 rfl dX8_end_18 ?_
      refine e_iload1 dX8_end_21 ?_
      refine e_putI fp_X8_170 la_114 rfl dX8_end_22 ?_
      refine e_iload1 dX8_end_25 ?_
      refine e_iret dX8_end_26 ?_
      exact ⟨by rw [if_pos (by omega)], by rw [if_pos (by omega)]⟩
    · refine e_iconst dX8_end_15 rfl kc_m1 ?_
      refine e_iret dX8_end_16 ?_
      exact ⟨by rw [if_neg (by omega)], by rw [if_neg (by omega)]⟩
theorem ct_X8_image (hd : 3 ≤ d) : PI l w yX8_image cX8_image 1 d [vR 0] M (cpS (cpI M 13 1) 57 25 1 13) (cpS (cpI M 13 1) 57 25) := by
  refine MT.of [some (vR 0)] ⟨by decide, rfl⟩ rfl (Nat.le_of_ble_eq_true rfl) (fun hA hM => ?_)
  refine e_aload0 dX8_image_0 ?_
  refine e_getR fl_X8_16 la_0 rfl dX8_image_1 ?_
  refine e_aload0 dX8_image_4 ?_
  refine e_getR fl_X8_12 la_0 rfl dX8_image_5 ?_
  refine e_cVV (ct_X0_image (d := d - 1) (by omega)) cy_X0_copyFrom cv_X0_copyFrom ml_X8_298 la_13 rfl rfl rfl (rok (by omega) (by decide)) (Nat.le_of_ble_eq_true rfl) dX8_image_8 ?_
  refine e_aload0 dX8_image_11 ?_
  refine e_getR fl_X8_26 la_0 rfl dX8_image_12 ?_
  refine e_aload0 dX8_image_15 ?_
  refine e_getR fl_X8_22 la_0 rfl dX8_image_16 ?_
  refine e_cVV (ct_X4_copy57 (d := d - 1) (by omega)) cy_X4_copyFrom cv_X4_copyFrom ml_X8_302 la_57 rfl rfl rfl (rok (by omega) (by decide)) (Nat.le_of_ble_eq_true rfl) dX8_image_19 ?_
  refine e_aload0 dX8_image_22 ?_
  refine e_getR fl_X8_12 la_0 rfl dX8_image_23 ?_
  refine e_getI fl_X8_229 la_1 rfl dX8_image_26 ?_
  refine e_iret dX8_image_29 ?_
  exact ⟨rfl, rfl⟩
theorem ct_X8_back (hd : 3 ≤ d) : PI l w yX8_back cX8_back 1 d [vR 0] M (cpS (cpI M 1 13) 25 57 1 13) (cpS (cpI M 1 13) 25 57) := by
  refine MT.of [some (vR 0)] ⟨by decide, rfl⟩ rfl (Nat.le_of_ble_eq_true rfl) (fun hA hM => ?_)
  refine e_aload0 dX8_back_0 ?_
  refine e_getR fl_X8_12 la_0 rfl dX8_back_1 ?_
  refine e_aload0 dX8_back_4 ?_
  refine e_getR fl_X8_16 la_0 rfl dX8_back_5 ?_
  refine e_cVV (ct_X0_back (d := d - 1) (by omega)) cy_X0_copyFrom cv_X0_copyFrom ml_X8_298 la_1 rfl rfl rfl (rok (by omega) (by decide)) (Nat.le_of_ble_eq_true rfl) dX8_back_8 ?_
  refine e_aload0 dX8_back_11 ?_
  refine e_getR fl_X8_22 la_0 rfl dX8_back_12 ?_
  refine e_aload0 dX8_back_15 ?_
  refine e_getR fl_X8_26 la_0 rfl dX8_back_16 ?_
  refine e_cVV (ct_X4_copy25 (d := d - 1) (by omega)) cy_X4_copyFrom cv_X4_copyFrom ml_X8_302 la_25 rfl rfl rfl (rok (by omega) (by decide)) (Nat.le_of_ble_eq_true rfl) dX8_back_19 ?_
  refine e_aload0 dX8_back_22 ?_
  refine e_getR fl_X8_12 la_0 rfl dX8_back_23 ?_
  refine e_getI fl_X8_229 la_1 rfl dX8_back_26 ?_
  refine e_iret dX8_back_29 ?_
  exact ⟨rfl, rfl⟩
theorem ct_X8_undo0 (hd : 2 ≤ d) (hc : M 25 1 < 1) : PI l w yX8_undo cX8_undo 1 d [vR 0] M (-1) M := by
  refine MT.of [some (vR 0)] ⟨by decide, rfl⟩ rfl (Nat.le_of_ble_eq_true rfl) (fun hA hM => ?_)
  refine e_aload0 dX8_undo_0 ?_
  refine e_getR fl_X8_22 la_0 rfl dX8_undo_1 ?_
  refine e_aload0 dX8_undo_4 ?_
  refine e_getR fl_X8_12 la_0 rfl dX8_undo_5 ?_
  refine e_cVZ (ct_X4_takeBack0 (d := d - 1) (by omega) hc) cy_X4_takeBack cv_X4_takeBack ml_X8_216 la_25 rfl rfl rfl (rok (by omega) (by decide)) (Nat.le_of_ble_eq_true rfl) dX8_undo_8 (fun g8 => ?_) (fun g8 => ?_)
  · refine e_if_eq (tgt := 24) dX8_undo_11 (by decide) (fun h => absurd h (by decide)) (fun _ => ?_)
    refine e_aload0 dX8_undo_14 ?_
    refine e_getR fl_X8_22 la_0 rfl dX8_undo_15 ?_
    refine e_getI fl_X8_220 la_25 rfl dX8_undo_18 ?_
    refine e_goto (tgt := 25) dX8_undo_21 (by decide) ?_
    refine e_iret dX8_undo_25 ?_
    first | exact g8.elim | exact ⟨rfl, rfl⟩
  · refine e_if_eq (tgt := 24) dX8_undo_11 (by decide) (fun _ => ?_) (fun h => absurd h (by decide))
    refine e_iconst dX8_undo_24 rfl kc_m1 ?_
    refine e_iret dX8_undo_25 ?_
    first | exact g8.elim | exact ⟨rfl, rfl⟩
theorem ct_X8_undo1 (hd : 5 ≤ d) (hI : IB M) {q : Nat} (hq : q < 30) (hl : M 25 2 = q) (hc : 1 ≤ M 25 1 ∧ M 25 1 ≤ 30) : PI l w yX8_undo cX8_undo 1 d [vR 0] M (tbM M q 25 1) (tbM M q) := by
  refine MT.of [some (vR 0)] ⟨by decide, rfl⟩ rfl (Nat.le_of_ble_eq_true rfl) (fun hA hM => ?_)
  refine e_aload0 dX8_undo_0 ?_
  refine e_getR fl_X8_22 la_0 rfl dX8_undo_1 ?_
  refine e_aload0 dX8_undo_4 ?_
  refine e_getR fl_X8_12 la_0 rfl dX8_undo_5 ?_
  refine e_cVGI (ct_X4_takeBack1 (d := d - 1) (by omega) hI hq hl hc) cy_X4_takeBack cv_X4_takeBack ml_X8_216 la_25 rfl rfl rfl (rok (by omega) (by decide)) (Nat.le_of_ble_eq_true rfl) dX8_undo_8 (fun x M1 hx => ?_)
  obtain ⟨rfl, rfl⟩ := hx
  refine e_if_eq (tgt := 24) dX8_undo_11 (by decide) (fun h => absurd h (by decide)) (fun _ => ?_)
  refine e_aload0 dX8_undo_14 ?_
  refine e_getR fl_X8_22 la_0 rfl dX8_undo_15 ?_
  refine e_getI fl_X8_220 la_25 rfl dX8_undo_18 ?_
  refine e_goto (tgt := 25) dX8_undo_21 (by decide) ?_
  refine e_iret dX8_undo_25 ?_
  exact ⟨rfl, rfl⟩
theorem ct_X8_repay (hd : 3 ≤ d) (hI : IB M) (hS : SI M) {h k : Int} : PI l w yX8_repay cX8_repay 3 d [vR 0, vI h, vI k] M (if isH M h ∧ 1 ≤ k ∧ k ≤ M 4 h.toNat ∧ k ≤ M 3 h.toNat then M 4 h.toNat - k else -1) (if isH M h ∧ 1 ≤ k ∧ k ≤ M 4 h.toNat ∧ k ≤ M 3 h.toNat then up (up (keepM M (nxt M) (-1) (-1)) 4 h.toNat (M 4 h.toNat - k)) 3 h.toNat (M 3 h.toNat - k) else M) := by
  have hb := hI.1
  obtain ⟨hq, hq1⟩ := nxt_ok hS
  by_cases hok : isH M h ∧ 1 ≤ k ∧ k ≤ M 4 h.toNat ∧ k ≤ M 3 h.toNat
  · rw [if_pos hok, if_pos hok]
    refine MT.of [some (vR 0), some (vI h), some (vI k)] ⟨by decide, rfl⟩ rfl (Nat.le_of_ble_eq_true rfl) (fun hA hM => ?_)
    have r4 := (hM 4 _ la_4 h.toNat (by omega)).1 (by decide)
    have r3 := (hM 3 _ la_3 h.toNat (by omega)).1 (by decide)
    have r41 := r4.1
    have r42 := r4.2
    have r31 := r3.1
    have r32 := r3.2
    refine e_aload0 dX8_repay_0 ?_
    refine e_getR fl_X8_12 la_0 rfl dX8_repay_1 ?_
    refine e_iload1 dX8_repay_4 ?_
    refine e_cVZ (ct_X0_isHouse (d := d - 1) (by omega)) cy_X0_isHouse cv_X0_isHouse ml_X8_86 la_1 rfl rfl rfl (rok (by omega) (by decide)) (Nat.le_of_ble_eq_true rfl) dX8_repay_5 (fun g5 => ?_) (fun g5 => ?_)
    · refine e_if_eq (tgt := 42) dX8_repay_8 (by decide) (fun h => absurd h (by decide)) (fun _ => ?_)
      refine e_iload2 dX8_repay_11 ?_
      refine e_iconst dX8_repay_12 rfl kc_1 ?_
      refine e_icmp_lt (tgt := 42) dX8_repay_13 (by decide) (fun h => absurd h (by omega)) (fun h13 => ?_)
      refine e_iload2 dX8_repay_16 ?_
      refine e_aload0 dX8_repay_17 ?_
      refine e_getR fl_X8_12 la_0 rfl dX8_repay_18 ?_
      refine e_getR fl_X8_146 la_1 rfl dX8_repay_21 ?_
      refine e_iload1 dX8_repay_24 ?_
      refine e_iald la_4 (⟨by omega, by omega⟩) dX8_repay_25 ?_
      refine e_icmp_gt (tgt := 42) dX8_repay_26 (by decide) (fun h => absurd h (by omega)) (fun h26 => ?_)
      refine e_iload2 dX8_repay_29 ?_
      refine e_aload0 dX8_repay_30 ?_
      refine e_getR fl_X8_12 la_0 rfl dX8_repay_31 ?_
      refine e_getR fl_X8_105 la_1 rfl dX8_repay_34 ?_
      refine e_iload1 dX8_repay_37 ?_
      refine e_iald la_3 (⟨by omega, by omega⟩) dX8_repay_38 ?_
      refine e_icmp_le (tgt := 44) dX8_repay_39 (by decide) (fun h39 => ?_) (fun h => absurd h (by omega))
      refine e_aload0 dX8_repay_44 ?_
      refine e_getR fl_X8_22 la_0 rfl dX8_repay_45 ?_
      refine e_aload0 dX8_repay_48 ?_
      refine e_getR fl_X8_12 la_0 rfl dX8_repay_49 ?_
      refine e_iconst dX8_repay_52 rfl kc_m1 ?_
      refine e_iconst dX8_repay_53 rfl kc_m1 ?_
      refine e_cVV (ct_X4_keep (d := d - 1) (by omega) hI hq hS.1 hS.2 hq1) cy_X4_keep cv_X4_keep ml_X8_108 la_25 rfl rfl rfl (rok (by omega) (by decide)) (Nat.le_of_ble_eq_true rfl) dX8_repay_54 ?_
      refine e_aload0 dX8_repay_57 ?_
      refine e_getR fl_X8_12 la_0 rfl dX8_repay_58 ?_
      refine e_getR fl_X8_146 la_1 rfl dX8_repay_61 ?_
      refine e_iload1 dX8_repay_64 ?_
      refine e_dup2 dX8_repay_65 rfl rfl ?_
      refine e_iald la_4 (⟨by omega, by omega⟩) dX8_repay_66 ?_
      refine WW.ec (y := M 4 h.toNat) (by rw [keepM_o (by decide) (by omega)]) ?_
      refine e_iload2 dX8_repay_67 ?_
      refine e_isub dX8_repay_68 (⟨by omega, by omega⟩) ?_
      refine e_iast la_4 (⟨by omega, by omega⟩) dX8_repay_69 ?_
      refine e_aload0 dX8_repay_70 ?_
      refine e_getR fl_X8_12 la_0 rfl dX8_repay_71 ?_
      refine e_getR fl_X8_105 la_1 rfl dX8_repay_74 ?_
      refine e_iload1 dX8_repay_77 ?_
      refine e_dup2 dX8_repay_78 rfl rfl ?_
      refine e_iald la_3 (⟨by omega, by omega⟩) dX8_repay_79 ?_
      refine WW.ec (y := M 3 h.toNat) (by rw [up_row (by decide), keepM_o (by decide) (by omega)]) ?_
      refine e_iload2 dX8_repay_80 ?_
      refine e_isub dX8_repay_81 (⟨by omega, by omega⟩) ?_
      refine e_iast la_3 (⟨by omega, by omega⟩) dX8_repay_82 ?_
      refine e_aload0 dX8_repay_83 ?_
      refine e_getR fl_X8_12 la_0 rfl dX8_repay_84 ?_
      refine e_getR fl_X8_146 la_1 rfl dX8_repay_87 ?_
      refine e_iload1 dX8_repay_90 ?_
      refine e_iald la_4 (⟨by omega, by omega⟩) dX8_repay_91 ?_
      refine WW.ec (y := M 4 h.toNat - k) (by rw [up_row (by decide), up_s]) ?_
      refine e_iret dX8_repay_92 ?_
      exact ⟨rfl, rfl⟩
    · refine e_if_eq (tgt := 42) dX8_repay_8 (by decide) (fun _ => ?_) (fun h => absurd h (by decide))
      refine e_iconst dX8_repay_42 rfl kc_m1 ?_
      refine e_iret dX8_repay_43 ?_
      exact absurd hok.1 g5
  · rw [if_neg hok, if_neg hok]
    refine MT.of [some (vR 0), some (vI h), some (vI k)] ⟨by decide, rfl⟩ rfl (Nat.le_of_ble_eq_true rfl) (fun hA hM => ?_)
    refine e_aload0 dX8_repay_0 ?_
    refine e_getR fl_X8_12 la_0 rfl dX8_repay_1 ?_
    refine e_iload1 dX8_repay_4 ?_
    refine e_cVZ (ct_X0_isHouse (d := d - 1) (by omega)) cy_X0_isHouse cv_X0_isHouse ml_X8_86 la_1 rfl rfl rfl (rok (by omega) (by decide)) (Nat.le_of_ble_eq_true rfl) dX8_repay_5 (fun g5 => ?_) (fun g5 => ?_)
    · refine e_if_eq (tgt := 42) dX8_repay_8 (by decide) (fun h => absurd h (by decide)) (fun _ => ?_)
      refine e_iload2 dX8_repay_11 ?_
      refine e_iconst dX8_repay_12 rfl kc_1 ?_
      refine e_icmp_lt (tgt := 42) dX8_repay_13 (by decide) (fun h13 => ?_) (fun h13 => ?_)
      · refine e_iconst dX8_repay_42 rfl kc_m1 ?_
        refine e_iret dX8_repay_43 ?_
        exact ⟨rfl, rfl⟩
      · refine e_iload2 dX8_repay_16 ?_
        refine e_aload0 dX8_repay_17 ?_
        refine e_getR fl_X8_12 la_0 rfl dX8_repay_18 ?_
        refine e_getR fl_X8_146 la_1 rfl dX8_repay_21 ?_
        refine e_iload1 dX8_repay_24 ?_
        refine e_iald la_4 (⟨by omega, by omega⟩) dX8_repay_25 ?_
        refine e_icmp_gt (tgt := 42) dX8_repay_26 (by decide) (fun h26 => ?_) (fun h26 => ?_)
        · refine e_iconst dX8_repay_42 rfl kc_m1 ?_
          refine e_iret dX8_repay_43 ?_
          exact ⟨rfl, rfl⟩
        · refine e_iload2 dX8_repay_29 ?_
          refine e_aload0 dX8_repay_30 ?_
          refine e_getR fl_X8_12 la_0 rfl dX8_repay_31 ?_
          refine e_getR fl_X8_105 la_1 rfl dX8_repay_34 ?_
          refine e_iload1 dX8_repay_37 ?_
          refine e_iald la_3 (⟨by omega, by omega⟩) dX8_repay_38 ?_
          refine e_icmp_le (tgt := 44) dX8_repay_39 (by decide) (fun h39 => ?_) (fun h39 => ?_)
          · exact absurd ⟨g5, by omega, by omega, by omega⟩ hok
          · refine e_iconst dX8_repay_42 rfl kc_m1 ?_
            refine e_iret dX8_repay_43 ?_
            exact ⟨rfl, rfl⟩
    · refine e_if_eq (tgt := 42) dX8_repay_8 (by decide) (fun _ => ?_) (fun h => absurd h (by decide))
      refine e_iconst dX8_repay_42 rfl kc_m1 ?_
      refine e_iret dX8_repay_43 ?_
      exact ⟨rfl, rfl⟩
theorem ct_X8_buy (hd : 6 ≤ d) (hL : LW M) (hS : SI M) {h c i : Int} : GI l w yX8_buy cX8_buy 5 .int d [vR 0, vI h, vI c, vI i] M (fun x M1 => (okBuy M h c i ∧ x = M 3 h.toNat - tellV M 0 h c i ∧ Fr2 (buyM M h c i) M1) ∨ (¬ okBuy M h c i ∧ x = -1 ∧ Fr2 M M1)) := by
  have hI := hL.1
  have hb := hI.1
  have hb5 := hI.2.1
  obtain ⟨hq, hq1⟩ := nxt_ok hS
  by_cases hok1 : isH M h ∧ isIn M c i ∧ M 10 c.toNat ≤ i ∧ ownr M c i = -1
  · obtain ⟨k1, k2, k3, k4⟩ := hok1
    have hw3 := (hL.2.1 h.toNat (by omega)).2.1
    have htb := (tellV_b M 0 h c i).1
    have hlen := hI.len k2.1
    refine MT.of [some (vR 0), some (vI h), some (vI c), some (vI i), none] ⟨by decide, rfl⟩ rfl (Nat.le_of_ble_eq_true rfl) (fun hA hM => ?_)
    refine e_aload0 dX8_buy_0 ?_
    refine e_getR fl_X8_12 la_0 rfl dX8_buy_1 ?_
    refine e_iload1 dX8_buy_4 ?_
    refine e_cVZ (ct_X0_isHouse (d := d - 1) (by omega)) cy_X0_isHouse cv_X0_isHouse ml_X8_86 la_1 rfl rfl rfl (rok (by omega) (by decide)) (Nat.le_of_ble_eq_true rfl) dX8_buy_5 (fun g5 => ?_) (fun g5 => ?_)
    · refine e_if_eq (tgt := 23) dX8_buy_8 (by decide) (fun h => absurd h (by decide)) (fun _ => ?_)
      refine e_aload0 dX8_buy_11 ?_
      refine e_getR fl_X8_12 la_0 rfl dX8_buy_12 ?_
      refine e_iload2 dX8_buy_15 ?_
      refine e_iload3 dX8_buy_16 ?_
      refine e_cVZ (ct_X0_isInch (d := d - 1) (by omega) hI) cy_X0_isInch cv_X0_isInch ml_X8_90 la_1 rfl rfl rfl (rok (by omega) (by decide)) (Nat.le_of_ble_eq_true rfl) dX8_buy_17 (fun g17 => ?_) (fun g17 => ?_)
      · refine e_if_ne (tgt := 25) dX8_buy_20 (by decide) (fun _ => ?_) (fun h => absurd h (by decide))
        refine e_iload3 dX8_buy_25 ?_
        refine e_aload0 dX8_buy_26 ?_
        refine e_getR fl_X8_12 la_0 rfl dX8_buy_27 ?_
        refine e_getR fl_X8_94 la_1 rfl dX8_buy_30 ?_
        refine e_iload2 dX8_buy_33 ?_
        refine e_iald la_10 (⟨by omega, by omega⟩) dX8_buy_34 ?_
        refine e_icmp_lt (tgt := 51) dX8_buy_35 (by decide) (fun h => absurd h (by omega)) (fun h35 => ?_)
        refine e_aload0 dX8_buy_38 ?_
        refine e_getR fl_X8_12 la_0 rfl dX8_buy_39 ?_
        refine e_iload2 dX8_buy_42 ?_
        refine e_iload3 dX8_buy_43 ?_
        refine e_cVI (ct_X0_ownerOf (d := d - 1) (by omega) hI) cy_X0_ownerOf cv_X0_ownerOf ml_X8_98 la_1 rfl rfl rfl (rok (by omega) (by decide)) (Nat.le_of_ble_eq_true rfl) dX8_buy_44 ?_
        refine e_iconst dX8_buy_47 rfl kc_m1 ?_
        refine e_icmp_eq (tgt := 53) dX8_buy_48 (by decide) (fun h48 => ?_) (fun h => absurd h (fun z => z k4))
        refine e_aload0 dX8_buy_53 ?_
        refine e_getR fl_X8_47 la_0 rfl dX8_buy_54 ?_
        refine e_iconst dX8_buy_57 rfl kc_0 ?_
        refine e_iload1 dX8_buy_58 ?_
        refine e_iload2 dX8_buy_59 ?_
        refine e_iload3 dX8_buy_60 ?_
        refine e_cVGI (ct_X1_tell (d := d - 1) (by omega) hL (by omega) k1 k2) cy_X1_tell cv_X1_tell ml_X8_101 la_119 rfl rfl rfl (rok (by omega) (by decide)) (Nat.le_of_ble_eq_true rfl) dX8_buy_61 (fun x M1 hx => ?_)
        obtain ⟨hx1, hf⟩ := hx
        subst hx1
        have e25 : M1 25 = M 25 := hf 25 (by decide) (by decide)
        have hI1 : IB M1 := hI.frs hf.frs
        have e3 : M1 3 = M 3 := hf 3 (by decide) (by decide)
        by_cases hp : tellV M 0 h c i ≤ M 3 h.toNat
        · have hbm := keepM_fr (c := c) (i := i) hq hf
          have hI2 : IB (up (keepM M1 (nxt M) c i) 3 h.toNat (M 3 h.toNat - tellV M 0 h c i)) := IB.up (by unfold IB; rw [keepM_o (by decide) (by omega), keepM_o (by decide) (by omega)]; exact hI1) (by decide) (by decide)
          have hin2 : isIn (up (keepM M1 (nxt M) c i) 3 h.toNat (M 3 h.toNat - tellV M 0 h c i)) c i := by unfold isIn isC; rw [up_row (by decide), up_row (by decide), keepM_o (by decide) (by omega), keepM_o (by decide) (by omega), hf 1 (by decide) (by decide), hf 7 (by decide) (by decide)]; exact k2
          refine e_istore4 dX8_buy_64 rfl ?_
          refine e_aload0 dX8_buy_66 ?_
          refine e_getR fl_X8_12 la_0 rfl dX8_buy_67 ?_
          refine e_getR fl_X8_105 la_1 rfl dX8_buy_70 ?_
          refine e_iload1 dX8_buy_73 ?_
          refine e_iald la_3 (⟨by omega, by omega⟩) dX8_buy_74 ?_
          refine WW.ec (y := M 3 h.toNat) (by rw [e3]) ?_
          refine e_iload4 dX8_buy_75 ?_
          refine e_icmp_ge (tgt := 82) dX8_buy_77 (by decide) (fun h77 => ?_) (fun h => absurd h (by omega))
          refine e_aload0 dX8_buy_82 ?_
          refine e_getR fl_X8_22 la_0 rfl dX8_buy_83 ?_
          refine e_aload0 dX8_buy_86 ?_
          refine e_getR fl_X8_12 la_0 rfl dX8_buy_87 ?_
          refine e_iload2 dX8_buy_90 ?_
          refine e_iload3 dX8_buy_91 ?_
          refine e_cVV (ct_X4_keep (d := d - 1) (by omega) hI1 hq (by rw [e25]; exact hS.1) (by rw [e25]; exact hS.2) (by rw [e25]; exact hq1)) cy_X4_keep cv_X4_keep ml_X8_108 la_25 rfl rfl rfl (rok (by omega) (by decide)) (Nat.le_of_ble_eq_true rfl) dX8_buy_92 ?_
          refine e_aload0 dX8_buy_95 ?_
          refine e_getR fl_X8_12 la_0 rfl dX8_buy_96 ?_
          refine e_getR fl_X8_105 la_1 rfl dX8_buy_99 ?_
          refine e_iload1 dX8_buy_102 ?_
          refine e_dup2 dX8_buy_103 rfl rfl ?_
          refine e_iald la_3 (⟨by omega, by omega⟩) dX8_buy_104 ?_
          refine WW.ec (y := M 3 h.toNat) (by rw [keepM_o (by decide) (by omega), e3]) ?_
          refine e_iload4 dX8_buy_105 ?_
          refine e_isub dX8_buy_107 (⟨by omega, by omega⟩) ?_
          refine e_iast la_3 (⟨by omega, by omega⟩) dX8_buy_108 ?_
          refine e_aload0 dX8_buy_109 ?_
          refine e_getR fl_X8_12 la_0 rfl dX8_buy_110 ?_
          refine e_iload2 dX8_buy_113 ?_
          refine e_iload3 dX8_buy_114 ?_
          refine e_iload1 dX8_buy_115 ?_
          refine e_cVV (ct_X0_setOwner (d := d - 1) (by omega) hI2) cy_X0_setOwner cv_X0_setOwner ml_X8_112 la_1 rfl rfl rfl (rok (by omega) (by decide)) (Nat.le_of_ble_eq_true rfl) dX8_buy_116 ?_
          rw [if_pos hin2]
          refine e_aload0 dX8_buy_119 ?_
          refine e_getR fl_X8_12 la_0 rfl dX8_buy_120 ?_
          refine e_getR fl_X8_105 la_1 rfl dX8_buy_123 ?_
          refine e_iload1 dX8_buy_126 ?_
          refine e_iald la_3 (⟨by omega, by omega⟩) dX8_buy_127 ?_
          refine WW.ec (y := M 3 h.toNat - tellV M 0 h c i) (by rw [up_row (by decide), up_s]) ?_
          refine e_iret dX8_buy_128 ?_
          exact ⟨_, rfl, Or.inl ⟨⟨k1, k2, k3, k4, hp⟩, rfl, fr2u (fr2u hbm rfl) rfl⟩⟩
        · refine e_istore4 dX8_buy_64 rfl ?_
          refine e_aload0 dX8_buy_66 ?_
          refine e_getR fl_X8_12 la_0 rfl dX8_buy_67 ?_
          refine e_getR fl_X8_105 la_1 rfl dX8_buy_70 ?_
          refine e_iload1 dX8_buy_73 ?_
          refine e_iald la_3 (⟨by omega, by omega⟩) dX8_buy_74 ?_
          refine WW.ec (y := M 3 h.toNat) (by rw [e3]) ?_
          refine e_iload4 dX8_buy_75 ?_
          refine e_icmp_ge (tgt := 82) dX8_buy_77 (by decide) (fun h => absurd h (by omega)) (fun h77 => ?_)
          refine e_iconst dX8_buy_80 rfl kc_m1 ?_
          refine e_iret dX8_buy_81 ?_
          exact ⟨_, rfl, Or.inr ⟨fun z => hp z.2.2.2.2, rfl, hf⟩⟩
      · refine e_if_ne (tgt := 25) dX8_buy_20 (by decide) (fun h => absurd h (by decide)) (fun _ => ?_)
        refine e_iconst dX8_buy_23 rfl kc_m1 ?_
        refine e_iret dX8_buy_24 ?_
        first | exact absurd k1 g5 | exact absurd k2 g17
    · refine e_if_eq (tgt := 23) dX8_buy_8 (by decide) (fun _ => ?_) (fun h => absurd h (by decide))
      refine e_iconst dX8_buy_23 rfl kc_m1 ?_
      refine e_iret dX8_buy_24 ?_
      first | exact absurd k1 g5 | exact absurd k2 g17
  · refine MT.of [some (vR 0), some (vI h), some (vI c), some (vI i), none] ⟨by decide, rfl⟩ rfl (Nat.le_of_ble_eq_true rfl) (fun hA hM => ?_)
    refine e_aload0 dX8_buy_0 ?_
    refine e_getR fl_X8_12 la_0 rfl dX8_buy_1 ?_
    refine e_iload1 dX8_buy_4 ?_
    refine e_cVZ (ct_X0_isHouse (d := d - 1) (by omega)) cy_X0_isHouse cv_X0_isHouse ml_X8_86 la_1 rfl rfl rfl (rok (by omega) (by decide)) (Nat.le_of_ble_eq_true rfl) dX8_buy_5 (fun g5 => ?_) (fun g5 => ?_)
    · refine e_if_eq (tgt := 23) dX8_buy_8 (by decide) (fun h => absurd h (by decide)) (fun _ => ?_)
      refine e_aload0 dX8_buy_11 ?_
      refine e_getR fl_X8_12 la_0 rfl dX8_buy_12 ?_
      refine e_iload2 dX8_buy_15 ?_
      refine e_iload3 dX8_buy_16 ?_
      refine e_cVZ (ct_X0_isInch (d := d - 1) (by omega) hI) cy_X0_isInch cv_X0_isInch ml_X8_90 la_1 rfl rfl rfl (rok (by omega) (by decide)) (Nat.le_of_ble_eq_true rfl) dX8_buy_17 (fun g17 => ?_) (fun g17 => ?_)
      · refine e_if_ne (tgt := 25) dX8_buy_20 (by decide) (fun _ => ?_) (fun h => absurd h (by decide))
        refine e_iload3 dX8_buy_25 ?_
        refine e_aload0 dX8_buy_26 ?_
        refine e_getR fl_X8_12 la_0 rfl dX8_buy_27 ?_
        refine e_getR fl_X8_94 la_1 rfl dX8_buy_30 ?_
        refine e_iload2 dX8_buy_33 ?_
        refine e_iald la_10 (⟨by omega, by omega⟩) dX8_buy_34 ?_
        refine e_icmp_lt (tgt := 51) dX8_buy_35 (by decide) (fun h35 => ?_) (fun h35 => ?_)
        · refine e_iconst dX8_buy_51 rfl kc_m1 ?_
          refine e_iret dX8_buy_52 ?_
          exact ⟨_, rfl, Or.inr ⟨fun z => hok1 ⟨z.1, z.2.1, z.2.2.1, z.2.2.2.1⟩, rfl, Fr2.rf M⟩⟩
        · refine e_aload0 dX8_buy_38 ?_
          refine e_getR fl_X8_12 la_0 rfl dX8_buy_39 ?_
          refine e_iload2 dX8_buy_42 ?_
          refine e_iload3 dX8_buy_43 ?_
          refine e_cVI (ct_X0_ownerOf (d := d - 1) (by omega) hI) cy_X0_ownerOf cv_X0_ownerOf ml_X8_98 la_1 rfl rfl rfl (rok (by omega) (by decide)) (Nat.le_of_ble_eq_true rfl) dX8_buy_44 ?_
          refine e_iconst dX8_buy_47 rfl kc_m1 ?_
          refine e_icmp_eq (tgt := 53) dX8_buy_48 (by decide) (fun h48 => ?_) (fun h48 => ?_)
          · exact absurd ⟨g5, g17, by omega, by omega⟩ hok1
          · refine e_iconst dX8_buy_51 rfl kc_m1 ?_
            refine e_iret dX8_buy_52 ?_
            exact ⟨_, rfl, Or.inr ⟨fun z => hok1 ⟨z.1, z.2.1, z.2.2.1, z.2.2.2.1⟩, rfl, Fr2.rf M⟩⟩
      · refine e_if_ne (tgt := 25) dX8_buy_20 (by decide) (fun h => absurd h (by decide)) (fun _ => ?_)
        refine e_iconst dX8_buy_23 rfl kc_m1 ?_
        refine e_iret dX8_buy_24 ?_
        exact ⟨_, rfl, Or.inr ⟨fun z => hok1 ⟨z.1, z.2.1, z.2.2.1, z.2.2.2.1⟩, rfl, Fr2.rf M⟩⟩
    · refine e_if_eq (tgt := 23) dX8_buy_8 (by decide) (fun _ => ?_) (fun h => absurd h (by decide))
      refine e_iconst dX8_buy_23 rfl kc_m1 ?_
      refine e_iret dX8_buy_24 ?_
      exact ⟨_, rfl, Or.inr ⟨fun z => hok1 ⟨z.1, z.2.1, z.2.2.1, z.2.2.2.1⟩, rfl, Fr2.rf M⟩⟩
end DO
