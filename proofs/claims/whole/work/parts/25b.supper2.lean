section SUP2b
variable {l : Launch} {w : Wd} {d : Nat} {M : Mem} {Q : Option MV → Mem → Prop} {n : Nat} {G : Nat → Int} {K : Nat → Nat → Int}
theorem ct_X5_firstOf (hd : 3 ≤ d) (hS : SP n G K M) (hK : okK K) (hn : n ≤ 6) {f s : Nat} (hs : s < 2 ^ n) (hf : popc s = f + 1) {q top : Int} {e : Nat} (hq : 0 ≤ q ∧ q ≤ 10 ^ e) (he : e + (f + 1) ≤ 6) (hb : ∀ t, t < 2 ^ n → M 129 t = bst K n (popc t) t) :
    PI l w yX5_firstOf cX5_firstOf 5 d [vR 125, vI s, vI q, vI top] M (fOf (chP K n top f s q) n 0) M := by
  have hs64 : s < 64 := Nat.lt_of_lt_of_le hs (bit_f n hn).2
  have loop : ∀ (k i : Nat), i + k = n → WM l w RX5 cX5_firstOf 5 (some .int) d (fun r M' => M' = M ∧ r = some (vI ((fOf (chP K n top f s q) k i : Nat) : Int))) 3 [some (vR 125), some (vI s), some (vI q), some (vI top), some (vI i)] [] M := by
    intro k
    induction k with
    | zero =>
      intro i hi
      obtain rfl : i = n := by omega
      refine e_iload4 dX5_firstOf_3 ?_
      refine e_aload0 dX5_firstOf_5 ?_
      refine e_getI fl_X5_24 la_125 rfl dX5_firstOf_6 ?_
      refine WW.ec (y := (i : Int)) (hS.1) ?_
      refine e_icmp_ge (tgt := 44) dX5_firstOf_9 (by decide) (fun h9 => ?_) (fun h => absurd h (by omega))
      refine e_iconst dX5_firstOf_44 rfl kc_0 ?_
      refine e_iret dX5_firstOf_45 ?_
      exact ⟨rfl, rfl⟩
    | succ k ih =>
      intro i hi
      have hbit := bit_t s (by omega) i (by omega)
      by_cases hbb : s.testBit i = true
      · obtain ⟨e1, e2, e3⟩ := bit_d s hs64 i (by omega) hbb
        have hbv := hb (s - 2 ^ i) (by omega)
        rw [show popc (s - 2 ^ i) = f by omega] at hbv
        have hbd := bst_b (n := n) hK f (s - 2 ^ i)
        have hpw := pow6 (n := f) (by omega)
        have hk := hK i (n - popc s)
        have hm1 := mulNN hk.1 hbd.1
        have hm2 := mulLE hbd.1 hbd.2 hk.1 hk.2
        rw [Int.mul_comm, ← Int.pow_succ] at hm2
        have hm3 := mulNN hq.1 hm1
        have hm4 : q * (K i (n - popc s) * bst K n f (s - 2 ^ i)) ≤ 10 ^ e * 10 ^ (f + 1) := Int.le_trans (Int.mul_le_mul_of_nonneg_right hq.2 hm1) (Int.mul_le_mul_of_nonneg_left hm2 (Int.pow_nonneg (by decide)))
        rw [← Int.pow_add] at hm4
        have hm5 := pow6 he
        have hchp : chP K n top f s q i = decide (q * (K i (n - popc s) * bst K n f (s - 2 ^ i)) = top) := by unfold chP; rw [hbb, hf]; rfl
        by_cases ht : q * (K i (n - popc s) * bst K n f (s - 2 ^ i)) = top
        · refine e_iload4 dX5_firstOf_3 ?_
          refine e_aload0 dX5_firstOf_5 ?_
          refine e_getI fl_X5_24 la_125 rfl dX5_firstOf_6 ?_
          refine WW.ec (y := (n : Int)) (hS.1) ?_
          refine e_icmp_ge (tgt := 44) dX5_firstOf_9 (by decide) (fun h => absurd h (by omega)) (fun h9 => ?_)
          refine e_iload1 dX5_firstOf_12 ?_
          refine e_iload4 dX5_firstOf_13 ?_
          refine e_ishr dX5_firstOf_15 ?_
          refine e_iconst dX5_firstOf_16 rfl kc_1 ?_
          refine e_iand dX5_firstOf_17 ?_
          refine e_iconst dX5_firstOf_18 rfl kc_1 ?_
          refine e_icmp_ne (tgt := 38) dX5_firstOf_19 (by decide) (fun h => absurd h (fun z => z (hbit.mpr hbb))) (fun h19 => ?_)
          refine e_iload2 dX5_firstOf_22 ?_
          refine e_aload0 dX5_firstOf_23 ?_
          refine e_iload1 dX5_firstOf_24 ?_
          refine e_iload4 dX5_firstOf_25 ?_
          refine e_cVI (ct_X5_leading (d := d - 1) (by omega) hS hK hn hs (by omega) hbb hbv ⟨by omega, by omega⟩) cy_X5_leading cv_X5_leading ml_X5_61 la_125 rfl rfl rfl (rok (by omega) (by decide)) (Nat.le_of_ble_eq_true rfl) dX5_firstOf_27 ?_
          refine e_imul dX5_firstOf_30 (⟨by omega, by omega⟩) ?_
          refine e_iload3 dX5_firstOf_31 ?_
          refine e_icmp_ne (tgt := 38) dX5_firstOf_32 (by decide) (fun h => absurd h (fun z => z ht)) (fun h32 => ?_)
          refine e_iload4 dX5_firstOf_35 ?_
          refine e_iret dX5_firstOf_37 ?_
          exact ⟨rfl, by rw [fOf, if_pos (by rw [hchp]; exact decide_eq_true ht)]⟩
        · refine e_iload4 dX5_firstOf_3 ?_
          refine e_aload0 dX5_firstOf_5 ?_
          refine e_getI fl_X5_24 la_125 rfl dX5_firstOf_6 ?_
          refine WW.ec (y := (n : Int)) (hS.1) ?_
          refine e_icmp_ge (tgt := 44) dX5_firstOf_9 (by decide) (fun h => absurd h (by omega)) (fun h9 => ?_)
          refine e_iload1 dX5_firstOf_12 ?_
          refine e_iload4 dX5_firstOf_13 ?_
          refine e_ishr dX5_firstOf_15 ?_
          refine e_iconst dX5_firstOf_16 rfl kc_1 ?_
          refine e_iand dX5_firstOf_17 ?_
          refine e_iconst dX5_firstOf_18 rfl kc_1 ?_
          refine e_icmp_ne (tgt := 38) dX5_firstOf_19 (by decide) (fun h => absurd h (fun z => z (hbit.mpr hbb))) (fun h19 => ?_)
          refine e_iload2 dX5_firstOf_22 ?_
          refine e_aload0 dX5_firstOf_23 ?_
          refine e_iload1 dX5_firstOf_24 ?_
          refine e_iload4 dX5_firstOf_25 ?_
          refine e_cVI (ct_X5_leading (d := d - 1) (by omega) hS hK hn hs (by omega) hbb hbv ⟨by omega, by omega⟩) cy_X5_leading cv_X5_leading ml_X5_61 la_125 rfl rfl rfl (rok (by omega) (by decide)) (Nat.le_of_ble_eq_true rfl) dX5_firstOf_27 ?_
          refine e_imul dX5_firstOf_30 (⟨by omega, by omega⟩) ?_
          refine e_iload3 dX5_firstOf_31 ?_
          refine e_icmp_ne (tgt := 38) dX5_firstOf_32 (by decide) (fun h32 => ?_) (fun h => absurd h (fun z => ht z))
          refine e_iinc4 dX5_firstOf_38 rfl (⟨by omega, by omega⟩) rfl ?_
          refine e_goto (tgt := 3) dX5_firstOf_41 (by decide) ?_
          rw [fOf, if_neg (by rw [hchp]; exact fun z => ht (of_decide_eq_true z))]
          exact ih (i + 1) (by omega)
      · have hchp : chP K n top f s q i = false := by unfold chP; rw [Bool.eq_false_iff.mpr hbb]; rfl
        refine e_iload4 dX5_firstOf_3 ?_
        refine e_aload0 dX5_firstOf_5 ?_
        refine e_getI fl_X5_24 la_125 rfl dX5_firstOf_6 ?_
        refine WW.ec (y := (n : Int)) (hS.1) ?_
        refine e_icmp_ge (tgt := 44) dX5_firstOf_9 (by decide) (fun h => absurd h (by omega)) (fun h9 => ?_)
        refine e_iload1 dX5_firstOf_12 ?_
        refine e_iload4 dX5_firstOf_13 ?_
        refine e_ishr dX5_firstOf_15 ?_
        refine e_iconst dX5_firstOf_16 rfl kc_1 ?_
        refine e_iand dX5_firstOf_17 ?_
        refine e_iconst dX5_firstOf_18 rfl kc_1 ?_
        refine e_icmp_ne (tgt := 38) dX5_firstOf_19 (by decide) (fun h19 => ?_) (fun h => absurd h (fun z => hbb (hbit.mp z)))
        refine e_iinc4 dX5_firstOf_38 rfl (⟨by omega, by omega⟩) rfl ?_
        refine e_goto (tgt := 3) dX5_firstOf_41 (by decide) ?_
        rw [fOf, if_neg (by rw [hchp]; decide)]
        exact ih (i + 1) (by omega)
  refine MT.of [some (vR 125), some (vI s), some (vI q), some (vI top), none] ⟨by decide, rfl⟩ rfl (Nat.le_of_ble_eq_true rfl) (fun hA hM => ?_)
  refine e_iconst dX5_firstOf_0 rfl kc_0 ?_
  refine e_istore4 dX5_firstOf_1 rfl ?_
  exact loop n 0 (by omega)
end SUP2b
