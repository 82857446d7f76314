/-! THE READER, small -/
def put1 (M : Mem) (x s : Int) : Mem := up (up M 115 (M 114 1).toNat (bAnd (bUsr x s) 255)) 114 1 (M 114 1 + 1)
def put4 (M : Mem) (x : Int) : Mem := put1 (put1 (put1 (put1 M x 24) x 16) x 8) x 0
theorem put1_1 (M : Mem) (x s : Int) : put1 M x s 114 1 = M 114 1 + 1 := up_s _ _ _ _
theorem put4_1 (M : Mem) (x : Int) : put4 M x 114 1 = M 114 1 + 4 := by
  unfold put4
  rw [put1_1, put1_1, put1_1, put1_1]
  omega
def feedM (M : Mem) (a b c d e : Int) : Mem := put4 (put4 (put4 (put4 (put4 M a) b) c) d) e
/-- a byte of the tape -/
def byt (M : Mem) (i : Int) : Int := if 0 ≤ i ∧ i < M 114 1 ∧ i < 300 then M 115 i.toNat else -1
def tokM (M : Mem) (k p v : Int) : Mem := up (up (up (up M 116 (M 114 5).toNat k) 117 (M 114 5).toNat p) 118 (M 114 5).toNat v) 114 5 (M 114 5 + 1)
abbrev tIn (M : Mem) (t : Int) : Prop := 0 ≤ t ∧ t < M 114 5 ∧ t < 301
def advM (M : Mem) : Mem := up (up (up M 114 6 (M 114 6 + 1)) 114 7 (if tIn M (M 114 6 + 1) then M 116 (M 114 6 + 1).toNat else 0)) 114 8 (if tIn M (M 114 6 + 1) then M 118 (M 114 6 + 1).toNat else 0)
def refM (M : Mem) (f : Int) : Mem := up (up M 114 11 f) 114 12 (if 0 ≤ M 114 6 ∧ M 114 6 < 301 then M 117 (M 114 6).toNat else M 114 1)
section READ
variable {l : Launch} {w : Wd} {d : Nat} {M : Mem} {Q : Option MV → Mem → Prop}
theorem ct_X2_hasRoom (hd : 1 ≤ d) (hl : 0 ≤ M 114 1 ∧ M 114 1 ≤ 300) : PZ l w yX2_hasRoom cX2_hasRoom 1 d [vR 114] M (M 114 1 + 20 ≤ 300) := by
  refine MT.of [some (vR 114)] ⟨by decide, rfl⟩ rfl (Nat.le_of_ble_eq_true rfl) (fun hA hM => ?_)
  refine e_aload0 dX2_hasRoom_0 ?_
  refine e_getI fl_X2_15 la_114 rfl dX2_hasRoom_1 ?_
  refine e_bipush dX2_hasRoom_4 rfl kb_20 ?_
  refine e_iadd dX2_hasRoom_6 (⟨by omega, by omega⟩) ?_
  refine e_sipush dX2_hasRoom_7 rfl ks_300 ?_
  refine e_icmp_gt (tgt := 17) dX2_hasRoom_10 (by decide) (fun h10 => ?_) (fun h10 => ?_)
  · refine e_iconst dX2_hasRoom_17 rfl kc_0 ?_
    refine e_zret dX2_hasRoom_18 (by decide) ?_
    exact ⟨rfl, Or.inr ⟨rfl, by omega⟩⟩
  · refine e_iconst dX2_hasRoom_13 rfl kc_1 ?_
    refine e_goto (tgt := 18) dX2_hasRoom_14 (by decide) ?_
    refine e_zret dX2_hasRoom_18 (by decide) ?_
    exact ⟨rfl, Or.inl ⟨rfl, by omega⟩⟩
theorem add_step {x s : Int} (hs : 0 ≤ s ∧ s ≤ 24) (hl : 0 ≤ M 114 1 ∧ M 114 1 < 300) (k : WM l w RX2 cX2_addFour 3 none d Q 3 [some (vR 114), some (vI x), some (vI (s + -8))] [] (put1 M x s)) : WM l w RX2 cX2_addFour 3 none d Q 3 [some (vR 114), some (vI x), some (vI s)] [] M := by
  have h52 : WM l w RX2 cX2_addFour 3 none d Q 52 [some (vR 114), some (vI x), some (vI s)] [] (put1 M x s) := by
    refine e_iinc2 dX2_addFour_52 rfl (⟨by omega, by omega⟩) rfl ?_
    refine e_goto (tgt := 3) dX2_addFour_55 (by decide) ?_
    exact k
  refine e_iload2 dX2_addFour_3 ?_
  refine e_if_lt (tgt := 58) dX2_addFour_4 (by decide) (fun h4 => ?_) (fun h4 => ?_)
  · omega
  · refine e_aload0 dX2_addFour_7 ?_
    refine e_getI fl_X2_15 la_114 rfl dX2_addFour_8 ?_
    refine e_if_lt (tgt := 52) dX2_addFour_11 (by decide) (fun h11 => ?_) (fun h11 => ?_)
    · first | omega | exact h52
    · refine e_aload0 dX2_addFour_14 ?_
      refine e_getI fl_X2_15 la_114 rfl dX2_addFour_15 ?_
      refine e_aload0 dX2_addFour_18 ?_
      refine e_getR fl_X2_9 la_114 rfl dX2_addFour_19 ?_
      refine e_alen la_115 (by decide) (by decide) dX2_addFour_22 ?_
      refine e_icmp_ge (tgt := 52) dX2_addFour_23 (by decide) (fun h23 => ?_) (fun h23 => ?_)
      · first | omega | exact h52
      · refine e_aload0 dX2_addFour_26 ?_
        refine e_getR fl_X2_9 la_114 rfl dX2_addFour_27 ?_
        refine e_aload0 dX2_addFour_30 ?_
        refine e_getI fl_X2_15 la_114 rfl dX2_addFour_31 ?_
        refine e_iload1 dX2_addFour_34 ?_
        refine e_iload2 dX2_addFour_35 ?_
        refine e_iushr dX2_addFour_36 ?_
        refine e_sipush dX2_addFour_37 rfl ks_255 ?_
        refine e_iand dX2_addFour_40 ?_
        refine e_iast la_115 (⟨by omega, by omega⟩) dX2_addFour_41 ?_
        refine e_aload0 dX2_addFour_42 ?_
        refine e_dup dX2_addFour_43 rfl ?_
        refine e_getI fl_X2_15 la_114 rfl dX2_addFour_44 ?_
        refine WW.ec (y := M 114 1) (by rw [up_row (by decide)]) ?_
        refine e_iconst dX2_addFour_47 rfl kc_1 ?_
        refine e_iadd dX2_addFour_48 (⟨by omega, by omega⟩) ?_
        refine e_putI fp_X2_15 la_114 rfl dX2_addFour_49 ?_
        first | omega | exact h52
theorem ct_X2_addFour (hd : 1 ≤ d) {x : Int} (hl : 0 ≤ M 114 1 ∧ M 114 1 + 4 ≤ 300) : PV l w yX2_addFour cX2_addFour 3 d [vR 114, vI x] M (put4 M x) := by
  have hend : WM l w RX2 cX2_addFour 3 none d (fun r M' => M' = put4 M x ∧ r = none) 3 [some (vR 114), some (vI x), some (vI (-8))] [] (put4 M x) := by
    refine e_iload2 dX2_addFour_3 ?_
    refine e_if_lt (tgt := 58) dX2_addFour_4 (by decide) (fun h4 => ?_) (fun h4 => ?_)
    · refine e_vret dX2_addFour_58 ?_
      exact ⟨rfl, rfl⟩
    · omega
  refine MT.of [some (vR 114), some (vI x), none] ⟨by decide, rfl⟩ rfl (Nat.le_of_ble_eq_true rfl) (fun hA hM => ?_)
  refine e_bipush dX2_addFour_0 rfl kb_24 ?_
  refine e_istore2 dX2_addFour_2 rfl ?_
  exact add_step (by omega) (by omega) (add_step (by omega) (by rw [put1_1]; omega) (add_step (by omega) (by rw [put1_1, put1_1]; omega) (add_step (by omega) (by rw [put1_1, put1_1, put1_1]; omega) hend)))
theorem ct_X8_feed (hd : 2 ≤ d) (hl : 0 ≤ M 114 1 ∧ M 114 1 ≤ 300) {a b c e f : Int} : PI l w yX8_feed cX8_feed 6 d [vR 0, vI a, vI b, vI c, vI e, vI f] M (if M 114 1 + 20 ≤ 300 then M 114 1 + 20 else -1) (if M 114 1 + 20 ≤ 300 then feedM M a b c e f else M) := by
  refine MT.of [some (vR 0), some (vI a), some (vI b), some (vI c), some (vI e), some (vI f)] ⟨by decide, rfl⟩ rfl (Nat.le_of_ble_eq_true rfl) (fun hA hM => ?_)
  refine e_aload0 dX8_feed_0 ?_
  refine e_getR fl_X8_38 la_0 rfl dX8_feed_1 ?_
  refine e_cVZ (ct_X2_hasRoom (d := d - 1) (by omega) hl) cy_X2_hasRoom cv_X2_hasRoom ml_X8_162 la_114 rfl rfl rfl (rok (by omega) (by decide)) (Nat.le_of_ble_eq_true rfl) dX8_feed_4 (fun g4 => ?_) (fun g4 => ?_)
  · refine e_if_ne (tgt := 12) dX8_feed_7 (by decide) (fun _ => ?_) (fun h => absurd h (by decide))
    refine e_aload0 dX8_feed_12 ?_
    refine e_getR fl_X8_38 la_0 rfl dX8_feed_13 ?_
    refine e_iload1 dX8_feed_16 ?_
    refine e_cVV (ct_X2_addFour (d := d - 1) (by omega) (by omega)) cy_X2_addFour cv_X2_addFour ml_X8_166 la_114 rfl rfl rfl (rok (by omega) (by decide)) (Nat.le_of_ble_eq_true rfl) dX8_feed_17 ?_
    refine e_aload0 dX8_feed_20 ?_
    refine e_getR fl_X8_38 la_0 rfl dX8_feed_21 ?_
    refine e_iload2 dX8_feed_24 ?_
    refine e_cVV (ct_X2_addFour (d := d - 1) (by omega) (by rw [put4_1]; omega)) cy_X2_addFour cv_X2_addFour ml_X8_166 la_114 rfl rfl rfl (rok (by omega) (by decide)) (Nat.le_of_ble_eq_true rfl) dX8_feed_25 ?_
    refine e_aload0 dX8_feed_28 ?_
    refine e_getR fl_X8_38 la_0 rfl dX8_feed_29 ?_
    refine e_iload3 dX8_feed_32 ?_
    refine e_cVV (ct_X2_addFour (d := d - 1) (by omega) (by rw [put4_1, put4_1]; omega)) cy_X2_addFour cv_X2_addFour ml_X8_166 la_114 rfl rfl rfl (rok (by omega) (by decide)) (Nat.le_of_ble_eq_true rfl) dX8_feed_33 ?_
    refine e_aload0 dX8_feed_36 ?_
    refine e_getR fl_X8_38 la_0 rfl dX8_feed_37 ?_
    refine e_iload4 dX8_feed_40 ?_
    refine e_cVV (ct_X2_addFour (d := d - 1) (by omega) (by rw [put4_1, put4_1, put4_1]; omega)) cy_X2_addFour cv_X2_addFour ml_X8_166 la_114 rfl rfl rfl (rok (by omega) (by decide)) (Nat.le_of_ble_eq_true rfl) dX8_feed_42 ?_
    refine e_aload0 dX8_feed_45 ?_
    refine e_getR fl_X8_38 la_0 rfl dX8_feed_46 ?_
    refine e_iload5 dX8_feed_49 ?_
    refine e_cVV (ct_X2_addFour (d := d - 1) (by omega) (by rw [put4_1, put4_1, put4_1, put4_1]; omega)) cy_X2_addFour cv_X2_addFour ml_X8_166 la_114 rfl rfl rfl (rok (by omega) (by decide)) (Nat.le_of_ble_eq_true rfl) dX8_feed_51 ?_
    refine e_aload0 dX8_feed_54 ?_
    refine e_getR fl_X8_38 la_0 rfl dX8_feed_55 ?_
    refine e_getI fl_X8_170 la_114 rfl dX8_feed_58 ?_
    refine WW.ec (y := M 114 1 + 20) (by rw [put4_1, put4_1, put4_1, put4_1, put4_1]; omega) ?_
    refine e_iret dX8_feed_61 ?_
    exact ⟨by rw [if_pos g4]; rfl, by rw [if_pos g4]⟩
  · refine e_if_ne (tgt := 12) dX8_feed_7 (by decide) (fun h => absurd h (by decide)) (fun _ => ?_)
    refine e_iconst dX8_feed_10 rfl kc_m1 ?_
    refine e_iret dX8_feed_11 ?_
    exact ⟨by rw [if_neg (by omega)], by rw [if_neg (by omega)]⟩
theorem ct_X2_byteAt (hd : 1 ≤ d) {i : Int} : PI l w yX2_byteAt cX2_byteAt 2 d [vR 114, vI i] M (byt M i) M := by
  refine MT.of [some (vR 114), some (vI i)] ⟨by decide, rfl⟩ rfl (Nat.le_of_ble_eq_true rfl) (fun hA hM => ?_)
  refine e_iload1 dX2_byteAt_0 ?_
  refine e_if_lt (tgt := 30) dX2_byteAt_1 (by decide) (fun h1 => ?_) (fun h1 => ?_)
  · refine e_iconst dX2_byteAt_30 rfl kc_m1 ?_
    refine e_iret dX2_byteAt_31 ?_
    unfold byt; first | exact ⟨rfl, by rw [if_pos (by omega)]⟩ | exact ⟨rfl, by rw [if_neg (by omega)]⟩
  · refine e_iload1 dX2_byteAt_4 ?_
    refine e_aload0 dX2_byteAt_5 ?_
    refine e_getI fl_X2_15 la_114 rfl dX2_byteAt_6 ?_
    refine e_icmp_ge (tgt := 30) dX2_byteAt_9 (by decide) (fun h9 => ?_) (fun h9 => ?_)
    · refine e_iconst dX2_byteAt_30 rfl kc_m1 ?_
      refine e_iret dX2_byteAt_31 ?_
      unfold byt; first | exact ⟨rfl, by rw [if_pos (by omega)]⟩ | exact ⟨rfl, by rw [if_neg (by omega)]⟩
    · refine e_iload1 dX2_byteAt_12 ?_
      refine e_aload0 dX2_byteAt_13 ?_
      refine e_getR fl_X2_9 la_114 rfl dX2_byteAt_14 ?_
      refine e_alen la_115 (by decide) (by decide) dX2_byteAt_17 ?_
      refine e_icmp_ge (tgt := 30) dX2_byteAt_18 (by decide) (fun h18 => ?_) (fun h18 => ?_)
      · refine e_iconst dX2_byteAt_30 rfl kc_m1 ?_
        refine e_iret dX2_byteAt_31 ?_
        unfold byt; first | exact ⟨rfl, by rw [if_pos (by omega)]⟩ | exact ⟨rfl, by rw [if_neg (by omega)]⟩
      · refine e_aload0 dX2_byteAt_21 ?_
        refine e_getR fl_X2_9 la_114 rfl dX2_byteAt_22 ?_
        refine e_iload1 dX2_byteAt_25 ?_
        refine e_iald la_115 (⟨by omega, by omega⟩) dX2_byteAt_26 ?_
        refine e_goto (tgt := 31) dX2_byteAt_27 (by decide) ?_
        refine e_iret dX2_byteAt_31 ?_
        unfold byt; first | exact ⟨rfl, by rw [if_pos (by omega)]⟩ | exact ⟨rfl, by rw [if_neg (by omega)]⟩
theorem ct_X2_isDigit (hd : 1 ≤ d) {x : Int} : PZ l w yX2_isDigit cX2_isDigit 1 d [vI x] M (48 ≤ x ∧ x ≤ 57) := by
  refine MT.of [some (vI x)] ⟨by decide, rfl⟩ rfl (Nat.le_of_ble_eq_true rfl) (fun hA hM => ?_)
  refine e_iload0 dX2_isDigit_0 ?_
  refine e_bipush dX2_isDigit_1 rfl kb_48 ?_
  refine e_icmp_lt (tgt := 16) dX2_isDigit_3 (by decide) (fun h3 => ?_) (fun h3 => ?_)
  · refine e_iconst dX2_isDigit_16 rfl kc_0 ?_
    refine e_zret dX2_isDigit_17 (by decide) ?_
    exact ⟨rfl, Or.inr ⟨rfl, by omega⟩⟩
  · refine e_iload0 dX2_isDigit_6 ?_
    refine e_bipush dX2_isDigit_7 rfl kb_57 ?_
    refine e_icmp_gt (tgt := 16) dX2_isDigit_9 (by decide) (fun h9 => ?_) (fun h9 => ?_)
    · refine e_iconst dX2_isDigit_16 rfl kc_0 ?_
      refine e_zret dX2_isDigit_17 (by decide) ?_
      exact ⟨rfl, Or.inr ⟨rfl, by omega⟩⟩
    · refine e_iconst dX2_isDigit_12 rfl kc_1 ?_
      refine e_goto (tgt := 17) dX2_isDigit_13 (by decide) ?_
      refine e_zret dX2_isDigit_17 (by decide) ?_
      exact ⟨rfl, Or.inl ⟨rfl, by omega⟩⟩
theorem ct_X2_isLetter (hd : 1 ≤ d) {x : Int} : PZ l w yX2_isLetter cX2_isLetter 1 d [vI x] M ((97 ≤ x ∧ x ≤ 122) ∨ (65 ≤ x ∧ x ≤ 90)) := by
  refine MT.of [some (vI x)] ⟨by decide, rfl⟩ rfl (Nat.le_of_ble_eq_true rfl) (fun hA hM => ?_)
  refine e_iload0 dX2_isLetter_0 ?_
  refine e_bipush dX2_isLetter_1 rfl kb_97 ?_
  refine e_icmp_lt (tgt := 12) dX2_isLetter_3 (by decide) (fun h3 => ?_) (fun h3 => ?_)
  · refine e_iload0 dX2_isLetter_12 ?_
    refine e_bipush dX2_isLetter_13 rfl kb_65 ?_
    refine e_icmp_lt (tgt := 28) dX2_isLetter_15 (by decide) (fun h15 => ?_) (fun h15 => ?_)
    · refine e_iconst dX2_isLetter_28 rfl kc_0 ?_
      refine e_zret dX2_isLetter_29 (by decide) ?_
      exact ⟨rfl, Or.inr ⟨rfl, by omega⟩⟩
    · refine e_iload0 dX2_isLetter_18 ?_
      refine e_bipush dX2_isLetter_19 rfl kb_90 ?_
      refine e_icmp_gt (tgt := 28) dX2_isLetter_21 (by decide) (fun h21 => ?_) (fun h21 => ?_)
      · refine e_iconst dX2_isLetter_28 rfl kc_0 ?_
        refine e_zret dX2_isLetter_29 (by decide) ?_
        exact ⟨rfl, Or.inr ⟨rfl, by omega⟩⟩
      · refine e_iconst dX2_isLetter_24 rfl kc_1 ?_
        refine e_goto (tgt := 29) dX2_isLetter_25 (by decide) ?_
        refine e_zret dX2_isLetter_29 (by decide) ?_
        exact ⟨rfl, Or.inl ⟨rfl, by omega⟩⟩
  · refine e_iload0 dX2_isLetter_6 ?_
    refine e_bipush dX2_isLetter_7 rfl kb_122 ?_
    refine e_icmp_le (tgt := 24) dX2_isLetter_9 (by decide) (fun h9 => ?_) (fun h9 => ?_)
    · refine e_iconst dX2_isLetter_24 rfl kc_1 ?_
      refine e_goto (tgt := 29) dX2_isLetter_25 (by decide) ?_
      refine e_zret dX2_isLetter_29 (by decide) ?_
      exact ⟨rfl, Or.inl ⟨rfl, by omega⟩⟩
    · refine e_iload0 dX2_isLetter_12 ?_
      refine e_bipush dX2_isLetter_13 rfl kb_65 ?_
      refine e_icmp_lt (tgt := 28) dX2_isLetter_15 (by decide) (fun h15 => ?_) (fun h15 => ?_)
      · refine e_iconst dX2_isLetter_28 rfl kc_0 ?_
        refine e_zret dX2_isLetter_29 (by decide) ?_
        exact ⟨rfl, Or.inr ⟨rfl, by omega⟩⟩
      · refine e_iload0 dX2_isLetter_18 ?_
        refine e_bipush dX2_isLetter_19 rfl kb_90 ?_
        refine e_icmp_gt (tgt := 28) dX2_isLetter_21 (by decide) (fun h21 => ?_) (fun h21 => ?_)
        · refine e_iconst dX2_isLetter_28 rfl kc_0 ?_
          refine e_zret dX2_isLetter_29 (by decide) ?_
          exact ⟨rfl, Or.inr ⟨rfl, by omega⟩⟩
        · refine e_iconst dX2_isLetter_24 rfl kc_1 ?_
          refine e_goto (tgt := 29) dX2_isLetter_25 (by decide) ?_
          refine e_zret dX2_isLetter_29 (by decide) ?_
          exact ⟨rfl, Or.inl ⟨rfl, by omega⟩⟩
theorem ct_X2_isSign (hd : 1 ≤ d) {x : Int} : PZ l w yX2_isSign cX2_isSign 1 d [vI x] M (x = 43 ∨ x = 45 ∨ x = 42 ∨ x = 47 ∨ x = 40 ∨ x = 41 ∨ x = 59) := by
  refine MT.of [some (vI x)] ⟨by decide, rfl⟩ rfl (Nat.le_of_ble_eq_true rfl) (fun hA hM => ?_)
  refine e_iload0 dX2_isSign_0 ?_
  refine e_bipush dX2_isSign_1 rfl kb_43 ?_
  refine e_icmp_eq (tgt := 42) dX2_isSign_3 (by decide) (fun h3 => ?_) (fun h3 => ?_)
  · refine e_iconst dX2_isSign_42 rfl kc_1 ?_
    refine e_goto (tgt := 47) dX2_isSign_43 (by decide) ?_
    refine e_zret dX2_isSign_47 (by decide) ?_
    exact ⟨rfl, Or.inl ⟨rfl, by omega⟩⟩
  · refine e_iload0 dX2_isSign_6 ?_
    refine e_bipush dX2_isSign_7 rfl kb_45 ?_
    refine e_icmp_eq (tgt := 42) dX2_isSign_9 (by decide) (fun h9 => ?_) (fun h9 => ?_)
    · refine e_iconst dX2_isSign_42 rfl kc_1 ?_
      refine e_goto (tgt := 47) dX2_isSign_43 (by decide) ?_
      refine e_zret dX2_isSign_47 (by decide) ?_
      exact ⟨rfl, Or.inl ⟨rfl, by omega⟩⟩
    · refine e_iload0 dX2_isSign_12 ?_
      refine e_bipush dX2_isSign_13 rfl kb_42 ?_
      refine e_icmp_eq (tgt := 42) dX2_isSign_15 (by decide) (fun h15 => ?_) (fun h15 => ?_)
      · refine e_iconst dX2_isSign_42 rfl kc_1 ?_
        refine e_goto (tgt := 47) dX2_isSign_43 (by decide) ?_
        refine e_zret dX2_isSign_47 (by decide) ?_
        exact ⟨rfl, Or.inl ⟨rfl, by omega⟩⟩
      · refine e_iload0 dX2_isSign_18 ?_
        refine e_bipush dX2_isSign_19 rfl kb_47 ?_
        refine e_icmp_eq (tgt := 42) dX2_isSign_21 (by decide) (fun h21 => ?_) (fun h21 => ?_)
        · refine e_iconst dX2_isSign_42 rfl kc_1 ?_
          refine e_goto (tgt := 47) dX2_isSign_43 (by decide) ?_
          refine e_zret dX2_isSign_47 (by decide) ?_
          exact ⟨rfl, Or.inl ⟨rfl, by omega⟩⟩
        · refine e_iload0 dX2_isSign_24 ?_
          refine e_bipush dX2_isSign_25 rfl kb_40 ?_
          refine e_icmp_eq (tgt := 42) dX2_isSign_27 (by decide) (fun h27 => ?_) (fun h27 => ?_)
          · refine e_iconst dX2_isSign_42 rfl kc_1 ?_
            refine e_goto (tgt := 47) dX2_isSign_43 (by decide) ?_
            refine e_zret dX2_isSign_47 (by decide) ?_
            exact ⟨rfl, Or.inl ⟨rfl, by omega⟩⟩
          · refine e_iload0 dX2_isSign_30 ?_
            refine e_bipush dX2_isSign_31 rfl kb_41 ?_
            refine e_icmp_eq (tgt := 42) dX2_isSign_33 (by decide) (fun h33 => ?_) (fun h33 => ?_)
            · refine e_iconst dX2_isSign_42 rfl kc_1 ?_
              refine e_goto (tgt := 47) dX2_isSign_43 (by decide) ?_
              refine e_zret dX2_isSign_47 (by decide) ?_
              exact ⟨rfl, Or.inl ⟨rfl, by omega⟩⟩
            · refine e_iload0 dX2_isSign_36 ?_
              refine e_bipush dX2_isSign_37 rfl kb_59 ?_
              refine e_icmp_ne (tgt := 46) dX2_isSign_39 (by decide) (fun h39 => ?_) (fun h39 => ?_)
              · refine e_iconst dX2_isSign_46 rfl kc_0 ?_
                refine e_zret dX2_isSign_47 (by decide) ?_
                exact ⟨rfl, Or.inr ⟨rfl, by omega⟩⟩
              · refine e_iconst dX2_isSign_42 rfl kc_1 ?_
                refine e_goto (tgt := 47) dX2_isSign_43 (by decide) ?_
                refine e_zret dX2_isSign_47 (by decide) ?_
                exact ⟨rfl, Or.inl ⟨rfl, by omega⟩⟩
theorem ct_X2_addToken (hd : 1 ≤ d) {k p v : Int} (ht : 0 ≤ M 114 5 ∧ M 114 5 < 301) : PV l w yX2_addToken cX2_addToken 4 d [vR 114, vI k, vI p, vI v] M (tokM M k p v) := by
  refine MT.of [some (vR 114), some (vI k), some (vI p), some (vI v)] ⟨by decide, rfl⟩ rfl (Nat.le_of_ble_eq_true rfl) (fun hA hM => ?_)
  refine e_aload0 dX2_addToken_0 ?_
  refine e_getI fl_X2_28 la_114 rfl dX2_addToken_1 ?_
  refine e_if_lt (tgt := 59) dX2_addToken_4 (by decide) (fun h4 => ?_) (fun h4 => ?_)
  · refine e_vret dX2_addToken_59 ?_
    first | omega | exact ⟨rfl, rfl⟩
  · refine e_aload0 dX2_addToken_7 ?_
    refine e_getI fl_X2_28 la_114 rfl dX2_addToken_8 ?_
    refine e_aload0 dX2_addToken_11 ?_
    refine e_getR fl_X2_19 la_114 rfl dX2_addToken_12 ?_
    refine e_alen la_116 (by decide) (by decide) dX2_addToken_15 ?_
    refine e_icmp_ge (tgt := 59) dX2_addToken_16 (by decide) (fun h16 => ?_) (fun h16 => ?_)
    · refine e_vret dX2_addToken_59 ?_
      first | omega | exact ⟨rfl, rfl⟩
    · refine e_aload0 dX2_addToken_19 ?_
      refine e_getR fl_X2_19 la_114 rfl dX2_addToken_20 ?_
      refine e_aload0 dX2_addToken_23 ?_
      refine e_getI fl_X2_28 la_114 rfl dX2_addToken_24 ?_
      refine e_iload1 dX2_addToken_27 ?_
      refine e_iast la_116 (⟨by omega, by omega⟩) dX2_addToken_28 ?_
      refine e_aload0 dX2_addToken_29 ?_
      refine e_getR fl_X2_22 la_114 rfl dX2_addToken_30 ?_
      refine e_aload0 dX2_addToken_33 ?_
      refine e_getI fl_X2_28 la_114 rfl dX2_addToken_34 ?_
      refine WW.ec (y := M 114 5) (by rw [up_row (by decide)]) ?_
      refine e_iload2 dX2_addToken_37 ?_
      refine e_iast la_117 (⟨by omega, by omega⟩) dX2_addToken_38 ?_
      refine e_aload0 dX2_addToken_39 ?_
      refine e_getR fl_X2_25 la_114 rfl dX2_addToken_40 ?_
      refine e_aload0 dX2_addToken_43 ?_
      refine e_getI fl_X2_28 la_114 rfl dX2_addToken_44 ?_
      refine WW.ec (y := M 114 5) (by rw [up_row (by decide), up_row (by decide)]) ?_
      refine e_iload3 dX2_addToken_47 ?_
      refine e_iast la_118 (⟨by omega, by omega⟩) dX2_addToken_48 ?_
      refine e_aload0 dX2_addToken_49 ?_
      refine e_dup dX2_addToken_50 rfl ?_
      refine e_getI fl_X2_28 la_114 rfl dX2_addToken_51 ?_
      refine WW.ec (y := M 114 5) (by rw [up_row (by decide), up_row (by decide), up_row (by decide)]) ?_
      refine e_iconst dX2_addToken_54 rfl kc_1 ?_
      refine e_iadd dX2_addToken_55 (⟨by omega, by omega⟩) ?_
      refine e_putI fp_X2_28 la_114 rfl dX2_addToken_56 ?_
      refine e_vret dX2_addToken_59 ?_
      first | omega | exact ⟨rfl, rfl⟩
theorem ct_X2_refuse (hd : 1 ≤ d) {f : Int} : GI l w yX2_refuse cX2_refuse 2 .boolean d [vR 114, vI f] M (fun x M1 => x = 0 ∧ M1 = refM M f) := by
  refine MT.of [some (vR 114), some (vI f)] ⟨by decide, rfl⟩ rfl (Nat.le_of_ble_eq_true rfl) (fun hA hM => ?_)
  refine e_aload0 dX2_refuse_0 ?_
  refine e_iload1 dX2_refuse_1 ?_
  refine e_putI fp_X2_47 la_114 rfl dX2_refuse_2 ?_
  refine e_aload0 dX2_refuse_5 ?_
  refine e_aload0 dX2_refuse_6 ?_
  refine e_getI fl_X2_31 la_114 rfl dX2_refuse_7 ?_
  refine WW.ec (y := M 114 6) (up_k (by decide)) ?_
  refine e_if_lt (tgt := 37) dX2_refuse_10 (by decide) (fun h10 => ?_) (fun h10 => ?_)
  · refine e_aload0 dX2_refuse_37 ?_
    refine e_getI fl_X2_15 la_114 rfl dX2_refuse_38 ?_
    refine WW.ec (y := M 114 1) (up_k (by decide)) ?_
    refine e_putI fp_X2_50 la_114 rfl dX2_refuse_41 ?_
    refine e_iconst dX2_refuse_44 rfl kc_0 ?_
    refine e_zret dX2_refuse_45 (by decide) ?_
    unfold refM; first | exact ⟨0, rfl, rfl, by rw [if_pos (by omega)]⟩ | exact ⟨0, rfl, rfl, by rw [if_neg (by omega)]⟩
  · refine e_aload0 dX2_refuse_13 ?_
    refine e_getI fl_X2_31 la_114 rfl dX2_refuse_14 ?_
    refine WW.ec (y := M 114 6) (up_k (by decide)) ?_
    refine e_aload0 dX2_refuse_17 ?_
    refine e_getR fl_X2_22 la_114 rfl dX2_refuse_18 ?_
    refine e_alen la_117 (by decide) (by decide) dX2_refuse_21 ?_
    refine e_icmp_ge (tgt := 37) dX2_refuse_22 (by decide) (fun h22 => ?_) (fun h22 => ?_)
    · refine e_aload0 dX2_refuse_37 ?_
      refine e_getI fl_X2_15 la_114 rfl dX2_refuse_38 ?_
      refine WW.ec (y := M 114 1) (up_k (by decide)) ?_
      refine e_putI fp_X2_50 la_114 rfl dX2_refuse_41 ?_
      refine e_iconst dX2_refuse_44 rfl kc_0 ?_
      refine e_zret dX2_refuse_45 (by decide) ?_
      unfold refM; first | exact ⟨0, rfl, rfl, by rw [if_pos (by omega)]⟩ | exact ⟨0, rfl, rfl, by rw [if_neg (by omega)]⟩
    · refine e_aload0 dX2_refuse_25 ?_
      refine e_getR fl_X2_22 la_114 rfl dX2_refuse_26 ?_
      refine e_aload0 dX2_refuse_29 ?_
      refine e_getI fl_X2_31 la_114 rfl dX2_refuse_30 ?_
      refine WW.ec (y := M 114 6) (up_k (by decide)) ?_
      refine e_iald la_117 (⟨by omega, by omega⟩) dX2_refuse_33 ?_
      refine WW.ec (y := M 117 (M 114 6).toNat) (up_o (by decide)) ?_
      refine e_goto (tgt := 41) dX2_refuse_34 (by decide) ?_
      refine e_putI fp_X2_50 la_114 rfl dX2_refuse_41 ?_
      refine e_iconst dX2_refuse_44 rfl kc_0 ?_
      refine e_zret dX2_refuse_45 (by decide) ?_
      unfold refM; first | exact ⟨0, rfl, rfl, by rw [if_pos (by omega)]⟩ | exact ⟨0, rfl, rfl, by rw [if_neg (by omega)]⟩
theorem ct_X2_advance (hd : 1 ≤ d) (ht : -1 ≤ M 114 6 ∧ M 114 6 ≤ 1000) : PV l w yX2_advance cX2_advance 2 d [vR 114] M (advM M) := by
  have h64 : ∀ b k : Int, k = (if tIn M (M 114 6 + 1) then M 116 (M 114 6 + 1).toNat else 0) → b = (if tIn M (M 114 6 + 1) then 1 else 0) → WM l w RX2 cX2_advance 2 none d (fun r M' => M' = advM M ∧ r = none) 64 [some (vR 114), some (vI b)] [vI k, vR 114] (up M 114 6 (M 114 6 + 1)) := by
    intro b k hk hb
    subst hk
    by_cases q : tIn M (M 114 6 + 1)
    · rw [if_pos q] at hb
      subst hb
      refine e_putI fp_X2_34 la_114 rfl dX2_advance_64 ?_
      refine e_aload0 dX2_advance_67 ?_
      refine e_iload1 dX2_advance_68 ?_
      refine e_if_eq (tgt := 84) dX2_advance_69 (by decide) (fun h => absurd h (by decide)) (fun _ => ?_)
      refine e_aload0 dX2_advance_72 ?_
      refine e_getR fl_X2_25 la_114 rfl dX2_advance_73 ?_
      refine e_aload0 dX2_advance_76 ?_
      refine e_getI fl_X2_31 la_114 rfl dX2_advance_77 ?_
      refine WW.ec (y := M 114 6 + 1) (by rw [up_k (by decide), up_s]) ?_
      refine e_iald la_118 (⟨by omega, by omega⟩) dX2_advance_80 ?_
      refine WW.ec (y := M 118 (M 114 6 + 1).toNat) (by rw [up_o (by decide), up_o (by decide)]) ?_
      refine e_goto (tgt := 85) dX2_advance_81 (by decide) ?_
      refine e_putI fp_X2_37 la_114 rfl dX2_advance_85 ?_
      refine e_vret dX2_advance_88 ?_
      exact ⟨by unfold advM; rw [if_pos q, if_pos q], rfl⟩
    · rw [if_neg q] at hb
      subst hb
      refine e_putI fp_X2_34 la_114 rfl dX2_advance_64 ?_
      refine e_aload0 dX2_advance_67 ?_
      refine e_iload1 dX2_advance_68 ?_
      refine e_if_eq (tgt := 84) dX2_advance_69 (by decide) (fun _ => ?_) (fun h => absurd h (by decide))
      refine e_iconst dX2_advance_84 rfl kc_0 ?_
      refine e_putI fp_X2_37 la_114 rfl dX2_advance_85 ?_
      refine e_vret dX2_advance_88 ?_
      exact ⟨by unfold advM; rw [if_neg q, if_neg q], rfl⟩
  refine MT.of [some (vR 114), none] ⟨by decide, rfl⟩ rfl (Nat.le_of_ble_eq_true rfl) (fun hA hM => ?_)
  refine e_aload0 dX2_advance_0 ?_
  refine e_dup dX2_advance_1 rfl ?_
  refine e_getI fl_X2_31 la_114 rfl dX2_advance_2 ?_
  refine e_iconst dX2_advance_5 rfl kc_1 ?_
  refine e_iadd dX2_advance_6 (⟨by omega, by omega⟩) ?_
  refine e_putI fp_X2_31 la_114 rfl dX2_advance_7 ?_
  refine e_aload0 dX2_advance_10 ?_
  refine e_getI fl_X2_31 la_114 rfl dX2_advance_11 ?_
  refine WW.ec (y := M 114 6 + 1) (up_s _ _ _ _) ?_
  refine e_if_lt (tgt := 44) dX2_advance_14 (by decide) (fun h14 => ?_) (fun h14 => ?_)
  · refine e_iconst dX2_advance_44 rfl kc_0 ?_
    refine e_istore1 dX2_advance_45 rfl ?_
    refine e_aload0 dX2_advance_46 ?_
    refine e_iload1 dX2_advance_47 ?_
    refine e_if_eq (tgt := 63) dX2_advance_48 (by decide) (fun _ => ?_) (fun h => absurd h (by decide))
    refine e_iconst dX2_advance_63 rfl kc_0 ?_
    first | (exfalso; omega) | exact h64 _ _ (by rw [if_pos (by omega)]) (by rw [if_pos (by omega)]) | exact h64 _ _ (by rw [if_neg (by omega)]) (by rw [if_neg (by omega)])
  · refine e_aload0 dX2_advance_17 ?_
    refine e_getI fl_X2_31 la_114 rfl dX2_advance_18 ?_
    refine WW.ec (y := M 114 6 + 1) (up_s _ _ _ _) ?_
    refine e_aload0 dX2_advance_21 ?_
    refine e_getI fl_X2_28 la_114 rfl dX2_advance_22 ?_
    refine WW.ec (y := M 114 5) (up_k (by decide)) ?_
    refine e_icmp_ge (tgt := 44) dX2_advance_25 (by decide) (fun h25 => ?_) (fun h25 => ?_)
    · refine e_iconst dX2_advance_44 rfl kc_0 ?_
      refine e_istore1 dX2_advance_45 rfl ?_
      refine e_aload0 dX2_advance_46 ?_
      refine e_iload1 dX2_advance_47 ?_
      refine e_if_eq (tgt := 63) dX2_advance_48 (by decide) (fun _ => ?_) (fun h => absurd h (by decide))
      refine e_iconst dX2_advance_63 rfl kc_0 ?_
      first | (exfalso; omega) | exact h64 _ _ (by rw [if_pos (by omega)]) (by rw [if_pos (by omega)]) | exact h64 _ _ (by rw [if_neg (by omega)]) (by rw [if_neg (by omega)])
    · refine e_aload0 dX2_advance_28 ?_
      refine e_getI fl_X2_31 la_114 rfl dX2_advance_29 ?_
      refine WW.ec (y := M 114 6 + 1) (up_s _ _ _ _) ?_
      refine e_aload0 dX2_advance_32 ?_
      refine e_getR fl_X2_19 la_114 rfl dX2_advance_33 ?_
      refine e_alen la_116 (by decide) (by decide) dX2_advance_36 ?_
      refine e_icmp_ge (tgt := 44) dX2_advance_37 (by decide) (fun h37 => ?_) (fun h37 => ?_)
      · refine e_iconst dX2_advance_44 rfl kc_0 ?_
        refine e_istore1 dX2_advance_45 rfl ?_
        refine e_aload0 dX2_advance_46 ?_
        refine e_iload1 dX2_advance_47 ?_
        refine e_if_eq (tgt := 63) dX2_advance_48 (by decide) (fun _ => ?_) (fun h => absurd h (by decide))
        refine e_iconst dX2_advance_63 rfl kc_0 ?_
        first | (exfalso; omega) | exact h64 _ _ (by rw [if_pos (by omega)]) (by rw [if_pos (by omega)]) | exact h64 _ _ (by rw [if_neg (by omega)]) (by rw [if_neg (by omega)])
      · refine e_iconst dX2_advance_40 rfl kc_1 ?_
        refine e_goto (tgt := 45) dX2_advance_41 (by decide) ?_
        refine e_istore1 dX2_advance_45 rfl ?_
        refine e_aload0 dX2_advance_46 ?_
        refine e_iload1 dX2_advance_47 ?_
        refine e_if_eq (tgt := 63) dX2_advance_48 (by decide) (fun h => absurd h (by decide)) (fun _ => ?_)
        refine e_aload0 dX2_advance_51 ?_
        refine e_getR fl_X2_19 la_114 rfl dX2_advance_52 ?_
        refine e_aload0 dX2_advance_55 ?_
        refine e_getI fl_X2_31 la_114 rfl dX2_advance_56 ?_
        refine WW.ec (y := M 114 6 + 1) (up_s _ _ _ _) ?_
        refine e_iald la_116 (⟨by omega, by omega⟩) dX2_advance_59 ?_
        refine WW.ec (y := M 116 (M 114 6 + 1).toNat) (up_o (by decide)) ?_
        refine e_goto (tgt := 64) dX2_advance_60 (by decide) ?_
        first | (exfalso; omega) | exact h64 _ _ (by rw [if_pos (by omega)]) (by rw [if_pos (by omega)]) | exact h64 _ _ (by rw [if_neg (by omega)]) (by rw [if_neg (by omega)])
theorem ct_X2_readSign (hd : 2 ≤ d) (ht : -1 ≤ M 114 6 ∧ M 114 6 ≤ 1000) {k : Int} : GI l w yX2_readSign cX2_readSign 2 .boolean d [vR 114, vI k] M (fun x M1 => (M 114 7 = k ∧ x = 1 ∧ M1 = advM M) ∨ (M 114 7 ≠ k ∧ x = 0 ∧ M1 = refM M 1)) := by
  refine MT.of [some (vR 114), some (vI k)] ⟨by decide, rfl⟩ rfl (Nat.le_of_ble_eq_true rfl) (fun hA hM => ?_)
  refine e_aload0 dX2_readSign_0 ?_
  refine e_getI fl_X2_34 la_114 rfl dX2_readSign_1 ?_
  refine e_iload1 dX2_readSign_4 ?_
  refine e_icmp_eq (tgt := 14) dX2_readSign_5 (by decide) (fun h5 => ?_) (fun h5 => ?_)
  · refine e_aload0 dX2_readSign_14 ?_
    refine e_cVV (ct_X2_advance (d := d - 1) (by omega) ht) cy_X2_advance cv_X2_advance ml_X2_61 la_114 rfl rfl rfl (rok (by omega) (by decide)) (Nat.le_of_ble_eq_true rfl) dX2_readSign_15 ?_
    refine e_iconst dX2_readSign_18 rfl kc_1 ?_
    refine e_zret dX2_readSign_19 (by decide) ?_
    exact ⟨_, rfl, Or.inl ⟨by omega, rfl, rfl⟩⟩
  · refine e_aload0 dX2_readSign_8 ?_
    refine e_iconst dX2_readSign_9 rfl kc_1 ?_
    refine e_cVGI (ct_X2_refuse (d := d - 1) (by omega)) cy_X2_refuse cv_X2_refuse ml_X2_152 la_114 rfl rfl rfl (rok (by omega) (by decide)) (Nat.le_of_ble_eq_true rfl) dX2_readSign_10 (fun x M1 hx => ?_)
    obtain ⟨rfl, rfl⟩ := hx
    refine e_zret dX2_readSign_13 (by decide) ?_
    exact ⟨_, rfl, Or.inr ⟨by omega, rfl, rfl⟩⟩
theorem ct_X2_readWord (hd : 2 ≤ d) (ht : -1 ≤ M 114 6 ∧ M 114 6 ≤ 1000) {k : Int} : GI l w yX2_readWord cX2_readWord 2 .boolean d [vR 114, vI k] M (fun x M1 => ((M 114 7 = 2 ∧ M 114 8 = k) ∧ x = 1 ∧ M1 = advM M) ∨ (¬ (M 114 7 = 2 ∧ M 114 8 = k) ∧ x = 0 ∧ M1 = refM M 1)) := by
  have h16 : ¬ (M 114 7 = 2 ∧ M 114 8 = k) → WM l w RX2 cX2_readWord 2 (some .boolean) d (fun r M1 => ∃ x, r = some (vI x) ∧ (((M 114 7 = 2 ∧ M 114 8 = k) ∧ x = 1 ∧ M1 = advM M) ∨ (¬ (M 114 7 = 2 ∧ M 114 8 = k) ∧ x = 0 ∧ M1 = refM M 1))) 16 [some (vR 114), some (vI k)] [] M := by
    intro hq
    refine e_aload0 dX2_readWord_16 ?_
    refine e_iconst dX2_readWord_17 rfl kc_1 ?_
    refine e_cVGI (ct_X2_refuse (d := d - 1) (by omega)) cy_X2_refuse cv_X2_refuse ml_X2_152 la_114 rfl rfl rfl (rok (by omega) (by decide)) (Nat.le_of_ble_eq_true rfl) dX2_readWord_18 (fun x M1 hx => ?_)
    obtain ⟨rfl, rfl⟩ := hx
    refine e_zret dX2_readWord_21 (by decide) ?_
    exact ⟨_, rfl, Or.inr ⟨hq, rfl, rfl⟩⟩
  refine MT.of [some (vR 114), some (vI k)] ⟨by decide, rfl⟩ rfl (Nat.le_of_ble_eq_true rfl) (fun hA hM => ?_)
  refine e_aload0 dX2_readWord_0 ?_
  refine e_getI fl_X2_34 la_114 rfl dX2_readWord_1 ?_
  refine e_iconst dX2_readWord_4 rfl kc_2 ?_
  refine e_icmp_ne (tgt := 16) dX2_readWord_5 (by decide) (fun h5 => ?_) (fun h5 => ?_)
  · exact h16 (by omega)
  · refine e_aload0 dX2_readWord_8 ?_
    refine e_getI fl_X2_37 la_114 rfl dX2_readWord_9 ?_
    refine e_iload1 dX2_readWord_12 ?_
    refine e_icmp_eq (tgt := 22) dX2_readWord_13 (by decide) (fun h13 => ?_) (fun h13 => ?_)
    · refine e_aload0 dX2_readWord_22 ?_
      refine e_cVV (ct_X2_advance (d := d - 1) (by omega) ht) cy_X2_advance cv_X2_advance ml_X2_61 la_114 rfl rfl rfl (rok (by omega) (by decide)) (Nat.le_of_ble_eq_true rfl) dX2_readWord_23 ?_
      refine e_iconst dX2_readWord_26 rfl kc_1 ?_
      refine e_zret dX2_readWord_27 (by decide) ?_
      exact ⟨_, rfl, Or.inl ⟨by omega, rfl, rfl⟩⟩
    · exact h16 (by omega)
theorem ct_X2_readNumber (hd : 2 ≤ d) (ht : -1 ≤ M 114 6 ∧ M 114 6 ≤ 1000) {j : Nat} (hj : j < 4) (hs : 0 ≤ M (90 + 6 * j) 6 ∧ M (90 + 6 * j) 6 < 24) {k a b : Int} (hk : 0 ≤ k ∧ k < 3) : GI l w yX2_readNumber cX2_readNumber 5 .boolean d [vR 114, vR (90 + 6 * j), vI k, vI a, vI b] M (fun x M1 => (M 114 7 = 1 ∧ (a ≤ M 114 8 ∧ M 114 8 ≤ b) ∧ x = 1 ∧ M1 = advM (up M (95 + 6 * j) (M (90 + 6 * j) 6 * 3 + k).toNat (M 114 8))) ∨ (M 114 7 = 1 ∧ ¬ (a ≤ M 114 8 ∧ M 114 8 ≤ b) ∧ x = 0 ∧ M1 = refM M 2) ∨ (M 114 7 ≠ 1 ∧ x = 0 ∧ M1 = refM M 1)) := by
  have h31 : M 114 7 = 1 → ¬ (a ≤ M 114 8 ∧ M 114 8 ≤ b) → WM l w RX2 cX2_readNumber 5 (some .boolean) d (fun r M1 => ∃ x, r = some (vI x) ∧ ((M 114 7 = 1 ∧ (a ≤ M 114 8 ∧ M 114 8 ≤ b) ∧ x = 1 ∧ M1 = advM (up M (95 + 6 * j) (M (90 + 6 * j) 6 * 3 + k).toNat (M 114 8))) ∨ (M 114 7 = 1 ∧ ¬ (a ≤ M 114 8 ∧ M 114 8 ≤ b) ∧ x = 0 ∧ M1 = refM M 2) ∨ (M 114 7 ≠ 1 ∧ x = 0 ∧ M1 = refM M 1))) 31 [some (vR 114), some (vR (90 + 6 * j)), some (vI k), some (vI a), some (vI b)] [] M := by
    intro h1 hq
    refine e_aload0 dX2_readNumber_31 ?_
    refine e_iconst dX2_readNumber_32 rfl kc_2 ?_
    refine e_cVGI (ct_X2_refuse (d := d - 1) (by omega)) cy_X2_refuse cv_X2_refuse ml_X2_152 la_114 rfl rfl rfl (rok (by omega) (by decide)) (Nat.le_of_ble_eq_true rfl) dX2_readNumber_33 (fun x M1 hx => ?_)
    obtain ⟨rfl, rfl⟩ := hx
    refine e_zret dX2_readNumber_36 (by decide) ?_
    exact ⟨_, rfl, Or.inr (Or.inl ⟨h1, hq, rfl, rfl⟩)⟩
  refine MT.of [some (vR 114), some (vR (90 + 6 * j)), some (vI k), some (vI a), some (vI b)] ⟨by decide, rfl⟩ rfl (Nat.le_of_ble_eq_true rfl) (fun hA hM => ?_)
  refine e_aload0 dX2_readNumber_0 ?_
  refine e_getI fl_X2_34 la_114 rfl dX2_readNumber_1 ?_
  refine e_iconst dX2_readNumber_4 rfl kc_1 ?_
  refine e_icmp_eq (tgt := 14) dX2_readNumber_5 (by decide) (fun h5 => ?_) (fun h5 => ?_)
  · refine e_aload0 dX2_readNumber_14 ?_
    refine e_getI fl_X2_37 la_114 rfl dX2_readNumber_15 ?_
    refine e_iload3 dX2_readNumber_18 ?_
    refine e_icmp_lt (tgt := 31) dX2_readNumber_19 (by decide) (fun h19 => ?_) (fun h19 => ?_)
    · exact h31 (by omega) (by omega)
    · refine e_aload0 dX2_readNumber_22 ?_
      refine e_getI fl_X2_37 la_114 rfl dX2_readNumber_23 ?_
      refine e_iload4 dX2_readNumber_26 ?_
      refine e_icmp_le (tgt := 37) dX2_readNumber_28 (by decide) (fun h28 => ?_) (fun h28 => ?_)
      · refine e_aload1 dX2_readNumber_37 ?_
        refine e_iload2 dX2_readNumber_38 ?_
        refine e_aload0 dX2_readNumber_39 ?_
        refine e_getI fl_X2_37 la_114 rfl dX2_readNumber_40 ?_
        refine e_cVV (ct_X3_setNumber (d := d - 1) (by omega) hj hs hk) cy_X3_setNumber cv_X3_setNumber ml_X2_185 (la_S0 hj) rfl rfl rfl (rok (by omega) (by decide)) (Nat.le_of_ble_eq_true rfl) dX2_readNumber_43 ?_
        refine e_aload0 dX2_readNumber_46 ?_
        refine e_cVV (ct_X2_advance (d := d - 1) (by omega) (by rw [up_row (by omega)]; exact ht)) cy_X2_advance cv_X2_advance ml_X2_61 la_114 rfl rfl rfl (rok (by omega) (by decide)) (Nat.le_of_ble_eq_true rfl) dX2_readNumber_47 ?_
        refine e_iconst dX2_readNumber_50 rfl kc_1 ?_
        refine e_zret dX2_readNumber_51 (by decide) ?_
        exact ⟨_, rfl, Or.inl ⟨by omega, by omega, rfl, rfl⟩⟩
      · exact h31 (by omega) (by omega)
  · refine e_aload0 dX2_readNumber_8 ?_
    refine e_iconst dX2_readNumber_9 rfl kc_1 ?_
    refine e_cVGI (ct_X2_refuse (d := d - 1) (by omega)) cy_X2_refuse cv_X2_refuse ml_X2_152 la_114 rfl rfl rfl (rok (by omega) (by decide)) (Nat.le_of_ble_eq_true rfl) dX2_readNumber_10 (fun x M1 hx => ?_)
    obtain ⟨rfl, rfl⟩ := hx
    refine e_zret dX2_readNumber_13 (by decide) ?_
    exact ⟨_, rfl, Or.inr (Or.inr ⟨by omega, rfl, rfl⟩)⟩
end READ
