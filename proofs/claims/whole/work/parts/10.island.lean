/-! ISLAND (object 1: houses 0, candles 5, x 12, drips 13, texts 15, theText 16; rows draught 2, wax 3, debt 4, light 5, thick 6, length 7, state 8, where 9, next 10, owner 11, dripParts 12) -/
abbrev isH (M : Mem) (h : Int) : Prop := 0 ≤ h ∧ h < M 1 0
abbrev isC (M : Mem) (c : Int) : Prop := 0 ≤ c ∧ c < M 1 5
abbrev isIn (M : Mem) (c i : Int) : Prop := isC M c ∧ 0 ≤ i ∧ i < M 7 c.toNat
abbrev isT (M : Mem) (t : Int) : Prop := 0 ≤ t ∧ t < M 1 15
def IB (M : Mem) : Prop := (0 ≤ M 1 0 ∧ M 1 0 ≤ 8) ∧ (0 ≤ M 1 5 ∧ M 1 5 ≤ 6) ∧ ∀ k, k < 6 → 0 ≤ M 7 k ∧ M 7 k ≤ 12
theorem IB.len {M : Mem} (h : IB M) {c : Int} (hc : isC M c) : 0 ≤ M 7 c.toNat ∧ M 7 c.toNat ≤ 12 := h.2.2 c.toNat (by have := h.2.1; omega)
theorem IB.up {M : Mem} {o k : Nat} {v : Int} (h : IB M) (h1 : o ≠ 1) (h7 : o ≠ 7) : IB (up M o k v) := by
  unfold IB
  rw [up_row (fun q => h1 q.symm), up_row (fun q => h7 q.symm)]
  exact h
def ownr (M : Mem) (c i : Int) : Int := if isIn M c i then M 11 (c * 12 + i).toNat else -1
theorem bShl1 {n : Int} (h0 : 0 ≤ n) (h1 : n ≤ 8) : bShl 1 n = 2 ^ n.toNat := by
  rcases (show n = 0 ∨ n = 1 ∨ n = 2 ∨ n = 3 ∨ n = 4 ∨ n = 5 ∨ n = 6 ∨ n = 7 ∨ n = 8 by omega) with rfl | rfl | rfl | rfl | rfl | rfl | rfl | rfl | rfl <;> decide
theorem tmodR {x y : Int} (h0 : 0 ≤ x) (h1 : x ≤ 2147483647) (hy : 0 < y) : inR (vI (x.tmod y)) := by
  rw [Int.tmod_eq_emod_of_nonneg h0]
  have := Int.emod_nonneg x (by omega : y ≠ 0)
  have h2 := Int.emod_lt_of_pos x hy
  have h3 : x % y ≤ x := by
    have h4 := Int.mul_ediv_add_emod x y
    have h5 : 0 ≤ y * (x / y) := Int.mul_nonneg (by omega) (Int.ediv_nonneg h0 (by omega))
    omega
  exact ⟨by omega, by omega⟩
section ISL
variable {l : Launch} {w : Wd} {d : Nat} {M : Mem} {Q : Option MV → Mem → Prop}
theorem ct_X0_isHouse (hd : 1 ≤ d) {h : Int} : PZ l w yX0_isHouse cX0_isHouse 2 d [vR 1, vI h] M (isH M h) := by
  refine MT.of [some (vR 1), some (vI h)] ⟨by decide, rfl⟩ rfl (Nat.le_of_ble_eq_true rfl) (fun hA hM => ?_)
  refine e_iload1 dX0_isHouse_0 ?_
  refine e_if_lt (tgt := 16) dX0_isHouse_1 (by decide) (fun h1 => ?_) (fun h1 => ?_)
  · refine e_iconst dX0_isHouse_16 rfl kc_0 ?_
    refine e_zret dX0_isHouse_17 (by decide) ?_
    exact ⟨rfl, Or.inr ⟨rfl, by omega⟩⟩
  · refine e_iload1 dX0_isHouse_4 ?_
    refine e_aload0 dX0_isHouse_5 ?_
    refine e_getI fl_X0_9 la_1 rfl dX0_isHouse_6 ?_
    refine e_icmp_ge (tgt := 16) dX0_isHouse_9 (by decide) (fun h9 => ?_) (fun h9 => ?_)
    · refine e_iconst dX0_isHouse_16 rfl kc_0 ?_
      refine e_zret dX0_isHouse_17 (by decide) ?_
      exact ⟨rfl, Or.inr ⟨rfl, by omega⟩⟩
    · refine e_iconst dX0_isHouse_12 rfl kc_1 ?_
      refine e_goto (tgt := 17) dX0_isHouse_13 (by decide) ?_
      refine e_zret dX0_isHouse_17 (by decide) ?_
      exact ⟨rfl, Or.inl ⟨rfl, by omega⟩⟩
theorem ct_X0_isCandle (hd : 1 ≤ d) {c : Int} : PZ l w yX0_isCandle cX0_isCandle 2 d [vR 1, vI c] M (isC M c) := by
  refine MT.of [some (vR 1), some (vI c)] ⟨by decide, rfl⟩ rfl (Nat.le_of_ble_eq_true rfl) (fun hA hM => ?_)
  refine e_iload1 dX0_isCandle_0 ?_
  refine e_if_lt (tgt := 16) dX0_isCandle_1 (by decide) (fun h1 => ?_) (fun h1 => ?_)
  · refine e_iconst dX0_isCandle_16 rfl kc_0 ?_
    refine e_zret dX0_isCandle_17 (by decide) ?_
    exact ⟨rfl, Or.inr ⟨rfl, by omega⟩⟩
  · refine e_iload1 dX0_isCandle_4 ?_
    refine e_aload0 dX0_isCandle_5 ?_
    refine e_getI fl_X0_28 la_1 rfl dX0_isCandle_6 ?_
    refine e_icmp_ge (tgt := 16) dX0_isCandle_9 (by decide) (fun h9 => ?_) (fun h9 => ?_)
    · refine e_iconst dX0_isCandle_16 rfl kc_0 ?_
      refine e_zret dX0_isCandle_17 (by decide) ?_
      exact ⟨rfl, Or.inr ⟨rfl, by omega⟩⟩
    · refine e_iconst dX0_isCandle_12 rfl kc_1 ?_
      refine e_goto (tgt := 17) dX0_isCandle_13 (by decide) ?_
      refine e_zret dX0_isCandle_17 (by decide) ?_
      exact ⟨rfl, Or.inl ⟨rfl, by omega⟩⟩
theorem ct_X0_isText (hd : 1 ≤ d) {t : Int} : PZ l w yX0_isText cX0_isText 2 d [vR 1, vI t] M (isT M t) := by
  refine MT.of [some (vR 1), some (vI t)] ⟨by decide, rfl⟩ rfl (Nat.le_of_ble_eq_true rfl) (fun hA hM => ?_)
  refine e_iload1 dX0_isText_0 ?_
  refine e_if_lt (tgt := 16) dX0_isText_1 (by decide) (fun h1 => ?_) (fun h1 => ?_)
  · refine e_iconst dX0_isText_16 rfl kc_0 ?_
    refine e_zret dX0_isText_17 (by decide) ?_
    exact ⟨rfl, Or.inr ⟨rfl, by omega⟩⟩
  · refine e_iload1 dX0_isText_4 ?_
    refine e_aload0 dX0_isText_5 ?_
    refine e_getI fl_X0_58 la_1 rfl dX0_isText_6 ?_
    refine e_icmp_ge (tgt := 16) dX0_isText_9 (by decide) (fun h9 => ?_) (fun h9 => ?_)
    · refine e_iconst dX0_isText_16 rfl kc_0 ?_
      refine e_zret dX0_isText_17 (by decide) ?_
      exact ⟨rfl, Or.inr ⟨rfl, by omega⟩⟩
    · refine e_iconst dX0_isText_12 rfl kc_1 ?_
      refine e_goto (tgt := 17) dX0_isText_13 (by decide) ?_
      refine e_zret dX0_isText_17 (by decide) ?_
      exact ⟨rfl, Or.inl ⟨rfl, by omega⟩⟩
theorem ct_X0_isInch (hd : 2 ≤ d) (hI : IB M) {c i : Int} : PZ l w yX0_isInch cX0_isInch 3 d [vR 1, vI c, vI i] M (isIn M c i) := by
  have hb := hI.2.1
  refine MT.of [some (vR 1), some (vI c), some (vI i)] ⟨by decide, rfl⟩ rfl (Nat.le_of_ble_eq_true rfl) (fun hA hM => ?_)
  refine e_aload0 dX0_isInch_0 ?_
  refine e_iload1 dX0_isInch_1 ?_
  refine e_cVZ (ct_X0_isCandle (d := d - 1) (by omega)) cy_X0_isCandle cv_X0_isCandle ml_X0_64 la_1 rfl rfl rfl (rok (by omega) (by decide)) (Nat.le_of_ble_eq_true rfl) dX0_isInch_2 (fun g2 => ?_) (fun g2 => ?_)
  · refine e_if_eq (tgt := 26) dX0_isInch_5 (by decide) (fun h => absurd h (by decide)) (fun _ => ?_)
    refine e_iload2 dX0_isInch_8 ?_
    refine e_if_lt (tgt := 26) dX0_isInch_9 (by decide) (fun h9 => ?_) (fun h9 => ?_)
    · refine e_iconst dX0_isInch_26 rfl kc_0 ?_
      refine e_zret dX0_isInch_27 (by decide) ?_
      exact ⟨rfl, Or.inr ⟨rfl, by omega⟩⟩
    · refine e_iload2 dX0_isInch_12 ?_
      refine e_aload0 dX0_isInch_13 ?_
      refine e_getR fl_X0_34 la_1 rfl dX0_isInch_14 ?_
      refine e_iload1 dX0_isInch_17 ?_
      refine e_iald la_7 (⟨by omega, by omega⟩) dX0_isInch_18 ?_
      refine e_icmp_ge (tgt := 26) dX0_isInch_19 (by decide) (fun h19 => ?_) (fun h19 => ?_)
      · refine e_iconst dX0_isInch_26 rfl kc_0 ?_
        refine e_zret dX0_isInch_27 (by decide) ?_
        exact ⟨rfl, Or.inr ⟨rfl, by omega⟩⟩
      · refine e_iconst dX0_isInch_22 rfl kc_1 ?_
        refine e_goto (tgt := 27) dX0_isInch_23 (by decide) ?_
        refine e_zret dX0_isInch_27 (by decide) ?_
        exact ⟨rfl, Or.inl ⟨rfl, by omega⟩⟩
  · refine e_if_eq (tgt := 26) dX0_isInch_5 (by decide) (fun _ => ?_) (fun h => absurd h (by decide))
    refine e_iconst dX0_isInch_26 rfl kc_0 ?_
    refine e_zret dX0_isInch_27 (by decide) ?_
    exact ⟨rfl, Or.inr ⟨rfl, by omega⟩⟩
theorem ct_X0_isSet (hd : 1 ≤ d) (hI : IB M) {s : Int} : PZ l w yX0_isSet cX0_isSet 2 d [vR 1, vI s] M (0 ≤ s ∧ s < 2 ^ (M 1 0).toNat) := by
  refine MT.of [some (vR 1), some (vI s)] ⟨by decide, rfl⟩ rfl (Nat.le_of_ble_eq_true rfl) (fun hA hM => ?_)
  refine e_iload1 dX0_isSet_0 ?_
  refine e_if_lt (tgt := 18) dX0_isSet_1 (by decide) (fun h1 => ?_) (fun h1 => ?_)
  · refine e_iconst dX0_isSet_18 rfl kc_0 ?_
    refine e_zret dX0_isSet_19 (by decide) ?_
    exact ⟨rfl, Or.inr ⟨rfl, by omega⟩⟩
  · refine e_iload1 dX0_isSet_4 ?_
    refine e_iconst dX0_isSet_5 rfl kc_1 ?_
    refine e_aload0 dX0_isSet_6 ?_
    refine e_getI fl_X0_9 la_1 rfl dX0_isSet_7 ?_
    refine e_ishl dX0_isSet_10 ?_
    refine WW.ec (y := 2 ^ (M 1 0).toNat) (bShl1 hI.1.1 hI.1.2) ?_
    refine e_icmp_ge (tgt := 18) dX0_isSet_11 (by decide) (fun h11 => ?_) (fun h11 => ?_)
    · refine e_iconst dX0_isSet_18 rfl kc_0 ?_
      refine e_zret dX0_isSet_19 (by decide) ?_
      exact ⟨rfl, Or.inr ⟨rfl, by omega⟩⟩
    · refine e_iconst dX0_isSet_14 rfl kc_1 ?_
      refine e_goto (tgt := 19) dX0_isSet_15 (by decide) ?_
      refine e_zret dX0_isSet_19 (by decide) ?_
      exact ⟨rfl, Or.inl ⟨rfl, by omega⟩⟩
theorem ct_X0_ownerOf (hd : 3 ≤ d) (hI : IB M) {c i : Int} : PI l w yX0_ownerOf cX0_ownerOf 3 d [vR 1, vI c, vI i] M (ownr M c i) M := by
  have hb := hI.2.1
  refine MT.of [some (vR 1), some (vI c), some (vI i)] ⟨by decide, rfl⟩ rfl (Nat.le_of_ble_eq_true rfl) (fun hA hM => ?_)
  refine e_aload0 dX0_ownerOf_0 ?_
  refine e_iload1 dX0_ownerOf_1 ?_
  refine e_iload2 dX0_ownerOf_2 ?_
  refine e_cVZ (ct_X0_isInch (d := d - 1) (by omega) hI) cy_X0_isInch cv_X0_isInch ml_X0_68 la_1 rfl rfl rfl (rok (by omega) (by decide)) (Nat.le_of_ble_eq_true rfl) dX0_ownerOf_3 (fun g3 => ?_) (fun g3 => ?_)
  · try have hlen := hI.len g3.1
    refine e_if_eq (tgt := 23) dX0_ownerOf_6 (by decide) (fun h => absurd h (by decide)) (fun _ => ?_)
    refine e_aload0 dX0_ownerOf_9 ?_
    refine e_getR fl_X0_46 la_1 rfl dX0_ownerOf_10 ?_
    refine e_iload1 dX0_ownerOf_13 ?_
    refine e_bipush dX0_ownerOf_14 rfl kb_12 ?_
    refine e_imul dX0_ownerOf_16 (⟨by omega, by omega⟩) ?_
    refine e_iload2 dX0_ownerOf_17 ?_
    refine e_iadd dX0_ownerOf_18 (⟨by omega, by omega⟩) ?_
    refine e_iald la_11 (⟨by omega, by omega⟩) dX0_ownerOf_19 ?_
    refine e_goto (tgt := 24) dX0_ownerOf_20 (by decide) ?_
    refine e_iret dX0_ownerOf_24 ?_
    exact ⟨rfl, by first | rw [ownr, if_pos g3] | rw [ownr, if_neg g3]⟩
  · try have hlen := hI.len g3.1
    refine e_if_eq (tgt := 23) dX0_ownerOf_6 (by decide) (fun _ => ?_) (fun h => absurd h (by decide))
    refine e_iconst dX0_ownerOf_23 rfl kc_m1 ?_
    refine e_iret dX0_ownerOf_24 ?_
    exact ⟨rfl, by first | rw [ownr, if_pos g3] | rw [ownr, if_neg g3]⟩
end ISL
