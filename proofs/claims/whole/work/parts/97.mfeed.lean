/-! THE MODEL IS FED -/
theorem bv_byte (u : BitVec 32) (s : Nat) (hs : s ≤ 24) : u >>> s &&& 255#32 = ((u.sshiftRight s).setWidth 8).setWidth 32 := by
  apply BitVec.eq_of_getLsbD_eq
  intro i hi
  have h255 : ∀ i, i < 32 → (255#32).getLsbD i = decide (i < 8) := by decide
  rw [BitVec.getLsbD_and, BitVec.getLsbD_ushiftRight, h255 i hi, BitVec.getLsbD_setWidth, BitVec.getLsbD_setWidth, BitVec.getLsbD_sshiftRight]
  by_cases h8 : i < 8
  · simp [h8, hi, show s + i < 32 by omega]
  · simp [h8]
theorem bv_int (v : BitVec 8) : (0 ≤ (v.setWidth 32).toInt ∧ (v.setWidth 32).toInt ≤ 255) ∧ (((v.setWidth 32).toInt < 128 ∧ (v.signExtend 32).toInt = (v.setWidth 32).toInt) ∨ (128 ≤ (v.setWidth 32).toInt ∧ (v.signExtend 32).toInt = (v.setWidth 32).toInt - 256)) := by
  revert v
  decide +kernel
theorem byte_k (y : Int32) (s : Nat) (k : Int32) (hs : s ≤ 24) (hu : (k.toUInt32 &&& Int32.toUInt32 31).toBitVec % 32 = BitVec.ofNat 32 s) (hm : ((k &&& 31).toBitVec.smod 32) = BitVec.ofNat 32 s) : ((y.toUInt32 >>> (k.toUInt32 &&& Int32.toUInt32 31)).toInt32 &&& Int32.ofInt 255).toBitVec = ((y.toBitVec.sshiftRight s).setWidth 8).setWidth 32 ∧ (y >>> (k &&& 31)).toInt8.toInt32.toBitVec = ((y.toBitVec.sshiftRight s).setWidth 8).signExtend 32 := by
  have hn : (BitVec.ofNat 32 s).toNat = s := by rw [BitVec.toNat_ofNat]; omega
  refine ⟨?_, ?_⟩
  · simp only [Int32.toBitVec_and, UInt32.toBitVec_toInt32, UInt32.toBitVec_shiftRight]
    rw [hu, ← bv_byte y.toBitVec s hs, BitVec.ushiftRight_eq', hn]
    rfl
  · simp only [Int8.toBitVec_toInt32, Int32.toBitVec_toInt8, Int32.toBitVec_shiftRight]
    have e : BitVec.signExtend 8 (y.toBitVec.sshiftRight s) = BitVec.setWidth 8 (y.toBitVec.sshiftRight s) := BitVec.signExtend_eq_setWidth_of_le _ (by decide)
    rw [hm, BitVec.sshiftRight_eq', hn, e]
theorem byteR (x s : Int) (hs : s = 24 ∨ s = 16 ∨ s = 8 ∨ s = 0) : (0 ≤ bAnd (bUsr x s) 255 ∧ bAnd (bUsr x s) 255 ≤ 255) ∧ ((bAnd (bUsr x s) 255 < 128 ∧ bByte (bShr x s) = bAnd (bUsr x s) 255) ∨ (128 ≤ bAnd (bUsr x s) 255 ∧ bByte (bShr x s) = bAnd (bUsr x s) 255 - 256)) := by
  have key : ∃ v : BitVec 8, bAnd (bUsr x s) 255 = (v.setWidth 32).toInt ∧ bByte (bShr x s) = (v.signExtend 32).toInt := by
    unfold bAnd bUsr bByte bShr
    rw [Int32.ofInt_toInt, Int32.ofInt_toInt]
    rcases hs with rfl | rfl | rfl | rfl
    · obtain ⟨a, b⟩ := byte_k (Int32.ofInt x) 24 (Int32.ofInt 24) (by decide) (by decide) (by decide)
      exact ⟨_, congrArg BitVec.toInt a, congrArg BitVec.toInt b⟩
    · obtain ⟨a, b⟩ := byte_k (Int32.ofInt x) 16 (Int32.ofInt 16) (by decide) (by decide) (by decide)
      exact ⟨_, congrArg BitVec.toInt a, congrArg BitVec.toInt b⟩
    · obtain ⟨a, b⟩ := byte_k (Int32.ofInt x) 8 (Int32.ofInt 8) (by decide) (by decide) (by decide)
      exact ⟨_, congrArg BitVec.toInt a, congrArg BitVec.toInt b⟩
    · obtain ⟨a, b⟩ := byte_k (Int32.ofInt x) 0 (Int32.ofInt 0) (by decide) (by decide) (by decide)
      exact ⟨_, congrArg BitVec.toInt a, congrArg BitVec.toInt b⟩
  obtain ⟨v, e1, e2⟩ := key
  rw [e1, e2]
  exact bv_int v
/-- class and model hold the same tape -/
def TAP (G M : Mem) : Prop := (0 ≤ G 114 1 ∧ G 114 1 ≤ 300) ∧ M 134 3 = G 114 1 ∧ TPE (M 137) (G 115) (G 114 1).toNat
def mp1 (M : Mem) (x s : Int) : Mem := up (up M 137 (M 134 3).toNat (bByte (bShr x s))) 134 3 (M 134 3 + 1)
def mp4 (M : Mem) (x : Int) : Mem := mp1 (mp1 (mp1 (mp1 M x 24) x 16) x 8) x 0
theorem TAP.p1 {G M : Mem} {x s : Int} (h : TAP G M) (hs : s = 24 ∨ s = 16 ∨ s = 8 ∨ s = 0) (hl : G 114 1 < 300) : TAP (put1 G x s) (mp1 M x s) := by
  obtain ⟨h1, h2, h3⟩ := h
  unfold TAP put1 mp1
  rw [up_s, up_s]
  refine ⟨by omega, by rw [h2], fun i hi => ?_⟩
  rw [up_row (o' := 137) (by decide), up_row (o' := 115) (by decide), h2]
  by_cases q : i = (G 114 1).toNat
  · subst q
    rw [up_s, up_s]
    exact byteR x s hs
  · rw [up_k q, up_k q]
    exact h3 i (by omega)
theorem TAP.p4 {G M : Mem} {x : Int} (h : TAP G M) (hl : G 114 1 + 4 ≤ 300) : TAP (put4 G x) (mp4 M x) := by
  have h1 := h.p1 (x := x) (s := 24) (by omega) (by omega)
  have h2 := h1.p1 (x := x) (s := 16) (by omega) (by rw [put1_1]; omega)
  have h3 := h2.p1 (x := x) (s := 8) (by omega) (by rw [put1_1, put1_1]; omega)
  exact h3.p1 (x := x) (s := 0) (by omega) (by rw [put1_1, put1_1, put1_1]; omega)
/-- the same but for the tape -/
def FT (M M1 : Mem) : Prop := (∀ o, o ≠ 134 → o ≠ 137 → M1 o = M o) ∧ ∀ k, k ≠ 3 → M1 134 k = M 134 k
theorem FT.rf (M : Mem) : FT M M := ⟨fun _ _ _ => rfl, fun _ _ => rfl⟩
theorem FT.p1 {M M1 : Mem} {x s : Int} (h : FT M M1) : FT M (mp1 M1 x s) := ⟨fun o a b => by unfold mp1; rw [up_row a, up_row b]; exact h.1 o a b, fun k hk => by unfold mp1; rw [up_k hk, up_o (by decide)]; exact h.2 k hk⟩
theorem FT.p4 {M M1 : Mem} {x : Int} (h : FT M M1) : FT M (mp4 M1 x) := h.p1.p1.p1.p1
theorem mp1_3 (M : Mem) (x s : Int) : mp1 M x s 134 3 = M 134 3 + 1 := by unfold mp1; rw [up_s]
theorem mp4_3 (M : Mem) (x : Int) : mp4 M x 134 3 = M 134 3 + 4 := by unfold mp4; rw [mp1_3, mp1_3, mp1_3, mp1_3]; omega
section MFEED
variable {l : Launch} {w : Wd} {d : Nat} {M : Mem} {Q : Option MV → Mem → Prop}
theorem bByte_b (x : Int) : -128 ≤ bByte x ∧ bByte x ≤ 127 := by
  have h : ∀ v : BitVec 8, -128 ≤ (v.signExtend 32).toInt ∧ (v.signExtend 32).toInt ≤ 127 := by decide +kernel
  unfold bByte
  exact h (Int32.ofInt x).toInt8.toBitVec
theorem mput_step {x s : Int} (hs : 0 ≤ s ∧ s ≤ 24) (hl : 0 ≤ M 134 3 ∧ M 134 3 < 300) (k : WM l w RX9 cX9_put 3 none d Q 3 [some (vR 134), some (vI x), some (vI (s - 8))] [] (mp1 M x s)) : WM l w RX9 cX9_put 3 none d Q 3 [some (vR 134), some (vI x), some (vI s)] [] M := by
  obtain ⟨n, hn⟩ : ∃ n : Nat, M 134 3 = n := ⟨(M 134 3).toNat, by omega⟩
  have e : mp1 M x s = up (up M 137 n (bByte (bShr x s))) 134 3 ((n : Int) + 1) := by unfold mp1; rw [hn, toN]
  rw [e] at k
  refine e_iload2 dX9_put_3 ?_
  refine e_if_lt (tgt := 38) dX9_put_4 (by decide) (fun h4 => ?_) (fun h4 => ?_)
  · omega
  · refine e_aload0 dX9_put_7 ?_
    refine e_getR fl_X9_16 la_134 rfl dX9_put_8 ?_
    refine e_aload0 dX9_put_11 ?_
    refine e_getI fl_X9_128 la_134 rfl dX9_put_12 ?_
    refine WW.ec (y := (n : Int)) (hn) ?_
    refine e_iload1 dX9_put_15 ?_
    refine e_iload2 dX9_put_16 ?_
    refine e_ishr dX9_put_17 ?_
    refine e_i2b dX9_put_18 ?_
    refine e_bastK (k := n) la_137 (by omega) (by omega) (bByte_b _) dX9_put_19 ?_
    refine e_aload0 dX9_put_20 ?_
    refine e_dup dX9_put_21 rfl ?_
    refine e_getI fl_X9_128 la_134 rfl dX9_put_22 ?_
    refine WW.ec (y := (n : Int)) (by rw [up_o (by decide)]; exact hn) ?_
    refine e_iconst dX9_put_25 rfl kc_1 ?_
    refine e_iadd dX9_put_26 (⟨by omega, by omega⟩) ?_
    refine e_putI fp_X9_128 la_134 rfl dX9_put_27 ?_
    refine e_iload2 dX9_put_30 ?_
    refine e_bipush dX9_put_31 rfl kb_8 ?_
    refine e_isub dX9_put_33 (⟨by omega, by omega⟩) ?_
    refine e_istore2 dX9_put_34 rfl ?_
    refine e_goto (tgt := 3) dX9_put_35 (by decide) ?_
    exact k
theorem ct_X9_put {x : Int} (hl : 0 ≤ M 134 3 ∧ M 134 3 + 4 ≤ 300) : PV l w yX9_put cX9_put 3 d [vR 134, vI x] M (mp4 M x) := by
  have hend : WM l w RX9 cX9_put 3 none d (fun r M' => M' = mp4 M x ∧ r = none) 3 [some (vR 134), some (vI x), some (vI (-8))] [] (mp4 M x) := by
    refine e_iload2 dX9_put_3 ?_
    refine e_if_lt (tgt := 38) dX9_put_4 (by decide) (fun h4 => ?_) (fun h4 => ?_)
    · refine e_vret dX9_put_38 ?_
      exact ⟨rfl, rfl⟩
    · omega
  have h := mput_step (x := x) (s := 24) (by omega) (by omega) (mput_step (x := x) (s := 16) (by omega) (by rw [mp1_3]; omega) (mput_step (x := x) (s := 8) (by omega) (by rw [mp1_3, mp1_3]; omega) (mput_step (x := x) (s := 0) (by omega) (by rw [mp1_3, mp1_3, mp1_3]; omega) hend)))
  refine MT.of [some (vR 134), some (vI x), none] ⟨by decide, rfl⟩ rfl (Nat.le_of_ble_eq_true rfl) (fun hA hM => ?_)
  refine e_bipush dX9_put_0 rfl kb_24 ?_
  refine e_istore2 dX9_put_2 rfl ?_
  exact h
theorem ct_X9_feed {G : Mem} (hd : 1 ≤ d) (ht : TAP G M) {a b c e f : Int} : GI l w yX9_feed cX9_feed 6 .int d [vR 134, vI a, vI b, vI c, vI e, vI f] M (fun x M1 => FT M M1 ∧ ((G 114 1 + 20 ≤ 300 ∧ x = G 114 1 + 20 ∧ TAP (feedM G a b c e f) M1) ∨ (¬ G 114 1 + 20 ≤ 300 ∧ x = -1 ∧ TAP G M1))) := by
  have h3 := ht.2.1
  have h1 := ht.1
  by_cases q : G 114 1 + 20 ≤ 300
  · have p1 := ht.p4 (x := a) (by omega)
    have p2 := p1.p4 (x := b) (by rw [put4_1]; omega)
    have p3 := p2.p4 (x := c) (by rw [put4_1, put4_1]; omega)
    have p4 := p3.p4 (x := e) (by rw [put4_1, put4_1, put4_1]; omega)
    have p5 := p4.p4 (x := f) (by rw [put4_1, put4_1, put4_1, put4_1]; omega)
    have e3 : mp4 (mp4 (mp4 (mp4 (mp4 M a) b) c) e) f 134 3 = G 114 1 + 20 := by rw [mp4_3, mp4_3, mp4_3, mp4_3, mp4_3, h3]; omega
    refine MT.of [some (vR 134), some (vI a), some (vI b), some (vI c), some (vI e), some (vI f)] ⟨by decide, rfl⟩ rfl (Nat.le_of_ble_eq_true rfl) (fun hA hM => ?_)
    refine e_aload0 dX9_feed_0 ?_
    refine e_getI fl_X9_128 la_134 rfl dX9_feed_1 ?_
    refine e_bipush dX9_feed_4 rfl kb_20 ?_
    refine e_iadd dX9_feed_6 (⟨by omega, by omega⟩) ?_
    refine e_sipush dX9_feed_7 rfl ks_300 ?_
    refine e_icmp_le (tgt := 15) dX9_feed_10 (by decide) (fun h10 => ?_) (fun h10 => ?_)
    · refine e_aload0 dX9_feed_15 ?_
      refine e_iload1 dX9_feed_16 ?_
      refine e_cVV (ct_X9_put (d := d - 1) (by omega)) cy_X9_put cv_X9_put ml_X9_131 la_134 rfl rfl rfl (rok (by omega) (by decide)) (Nat.le_of_ble_eq_true rfl) dX9_feed_17 ?_
      refine e_aload0 dX9_feed_20 ?_
      refine e_iload2 dX9_feed_21 ?_
      refine e_cVV (ct_X9_put (d := d - 1) (by rw [mp4_3]; omega)) cy_X9_put cv_X9_put ml_X9_131 la_134 rfl rfl rfl (rok (by omega) (by decide)) (Nat.le_of_ble_eq_true rfl) dX9_feed_22 ?_
      refine e_aload0 dX9_feed_25 ?_
      refine e_iload3 dX9_feed_26 ?_
      refine e_cVV (ct_X9_put (d := d - 1) (by rw [mp4_3, mp4_3]; omega)) cy_X9_put cv_X9_put ml_X9_131 la_134 rfl rfl rfl (rok (by omega) (by decide)) (Nat.le_of_ble_eq_true rfl) dX9_feed_27 ?_
      refine e_aload0 dX9_feed_30 ?_
      refine e_iload4 dX9_feed_31 ?_
      refine e_cVV (ct_X9_put (d := d - 1) (by rw [mp4_3, mp4_3, mp4_3]; omega)) cy_X9_put cv_X9_put ml_X9_131 la_134 rfl rfl rfl (rok (by omega) (by decide)) (Nat.le_of_ble_eq_true rfl) dX9_feed_33 ?_
      refine e_aload0 dX9_feed_36 ?_
      refine e_iload5 dX9_feed_37 ?_
      refine e_cVV (ct_X9_put (d := d - 1) (by rw [mp4_3, mp4_3, mp4_3, mp4_3]; omega)) cy_X9_put cv_X9_put ml_X9_131 la_134 rfl rfl rfl (rok (by omega) (by decide)) (Nat.le_of_ble_eq_true rfl) dX9_feed_39 ?_
      refine e_aload0 dX9_feed_42 ?_
      refine e_getI fl_X9_128 la_134 rfl dX9_feed_43 ?_
      refine WW.ec (y := G 114 1 + 20) (e3) ?_
      refine e_iret dX9_feed_46 ?_
      exact ⟨_, rfl, (FT.rf M).p4.p4.p4.p4.p4, Or.inl ⟨q, rfl, p5⟩⟩
    · omega
  · refine MT.of [some (vR 134), some (vI a), some (vI b), some (vI c), some (vI e), some (vI f)] ⟨by decide, rfl⟩ rfl (Nat.le_of_ble_eq_true rfl) (fun hA hM => ?_)
    refine e_aload0 dX9_feed_0 ?_
    refine e_getI fl_X9_128 la_134 rfl dX9_feed_1 ?_
    refine e_bipush dX9_feed_4 rfl kb_20 ?_
    refine e_iadd dX9_feed_6 (⟨by omega, by omega⟩) ?_
    refine e_sipush dX9_feed_7 rfl ks_300 ?_
    refine e_icmp_le (tgt := 15) dX9_feed_10 (by decide) (fun h10 => ?_) (fun h10 => ?_)
    · omega
    · refine e_iconst dX9_feed_13 rfl kc_m1 ?_
      refine e_iret dX9_feed_14 ?_
      exact ⟨_, rfl, FT.rf M, Or.inr ⟨q, rfl, ht⟩⟩
theorem ct_X9_end {G : Mem} (hd : 1 ≤ d) (ht : TAP G M) {n : Int} : GI l w yX9_end cX9_end 2 .int d [vR 134, vI n] M (fun x M1 => FT M M1 ∧ ((0 ≤ n ∧ n ≤ G 114 1 ∧ x = n ∧ TAP (up G 114 1 n) M1) ∨ (¬ (0 ≤ n ∧ n ≤ G 114 1) ∧ x = -1 ∧ TAP G M1))) := by
  have h3 := ht.2.1
  have h1 := ht.1
  refine MT.of [some (vR 134), some (vI n)] ⟨by decide, rfl⟩ rfl (Nat.le_of_ble_eq_true rfl) (fun hA hM => ?_)
  refine e_iload1 dX9_end_0 ?_
  refine e_iconst dX9_end_1 rfl kc_0 ?_
  refine e_aload0 dX9_end_2 ?_
  refine e_getI fl_X9_128 la_134 rfl dX9_end_3 ?_
  refine WW.ec (y := G 114 1) (h3) ?_
  refine e_cSZ (ct_X9_in (d := d - 1)) cy_X9_in cs_X9_in ml_X9_120 rfl rfl (rok (by omega) (by decide)) (Nat.le_of_ble_eq_true rfl) dX9_end_6 (fun g6 => ?_) (fun g6 => ?_)
  · refine e_if_ne (tgt := 14) dX9_end_9 (by decide) (fun _ => ?_) (fun h => absurd h (by decide))
    refine e_aload0 dX9_end_14 ?_
    refine e_iload1 dX9_end_15 ?_
    refine e_putI fp_X9_128 la_134 rfl dX9_end_16 ?_
    refine e_iload1 dX9_end_19 ?_
    refine e_iret dX9_end_20 ?_
    refine ⟨_, rfl, ⟨fun o a b => up_row a, fun k hk => up_k hk⟩, Or.inl ⟨g6.1, g6.2, rfl, ?_⟩⟩
    unfold TAP
    rw [up_s, up_s, up_row (o' := 137) (by decide), up_row (o' := 115) (by decide)]
    exact ⟨⟨g6.1, by omega⟩, rfl, fun i hi => ht.2.2 i (by omega)⟩
  · refine e_if_ne (tgt := 14) dX9_end_9 (by decide) (fun h => absurd h (by decide)) (fun _ => ?_)
    refine e_iconst dX9_end_12 rfl kc_m1 ?_
    refine e_iret dX9_end_13 ?_
    exact ⟨_, rfl, FT.rf M, Or.inr ⟨g6, rfl, ht⟩⟩
end MFEED
