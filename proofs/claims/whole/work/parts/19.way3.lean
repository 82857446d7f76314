/-! WAY, its answers -/
theorem wO_ok (M : Mem) (c nx : Nat) : okO (wO M c nx) := fun n => wO_b M c nx n
def bN (M : Mem) (c nx n : Nat) : Int := tellV M 1 (wH M c nx n) c ((nx + n : Nat) : Int)
section WAY3
variable {l : Launch} {w : Wd} {d : Nat} {M : Mem} {Q : Option MV → Mem → Prop}
theorem ct_X6_houseAt (hd : 6 ≤ d) (hL : LW M) (hO : OWN M) {c nx ln : Nat} (hc : isC M c) (hs : isH M (stH M c)) (hln : M 7 c = ln) {M1 : Mem} (hW : WP M c nx ln (ln - nx) M1) {t : Int} (ht : 0 ≤ t ∧ t ≤ 9999) :
    GI l w yX6_houseAt cX6_houseAt 4 .int d [vR 122, vI t] M1 (fun x M2 => x = wAt (wH M c nx) (bN M c nx) (ln - nx) 0 t ∧ FrS M M2) := by
  have hl12 := hL.1.len hc
  rw [Int.toNat_natCast, hln] at hl12
  have loop : ∀ (q n : Nat) (M2 : Mem) (u : Int), n + q = ln - nx → WP M c nx ln (ln - nx) M2 → -99 ≤ u → u ≤ 9999 → WM l w RX6 cX6_houseAt 4 (some .int) d (fun r M' => ∃ x, r = some (vI x) ∧ x = wAt (wH M c nx) (bN M c nx) q n u ∧ FrS M M') 7 [some (vR 122), some (vI t), some (vI u), some (vI ((nx + n : Nat) : Int))] [] M2 := by
    intro q
    induction q with
    | zero =>
      intro n M2 u hn hW hu1 hu2
      refine e_iload3 dX6_houseAt_7 ?_
      refine e_if_lt (tgt := 64) dX6_houseAt_8 (by decide) (fun h => absurd h (by omega)) (fun h8 => ?_)
      refine e_iload3 dX6_houseAt_11 ?_
      refine e_aload0 dX6_houseAt_12 ?_
      refine e_getI fl_X6_25 la_122 rfl dX6_houseAt_13 ?_
      refine WW.ec (y := (ln : Int)) (hW.2.1.2.2) ?_
      refine e_icmp_ge (tgt := 64) dX6_houseAt_16 (by decide) (fun h16 => ?_) (fun h => absurd h (by omega))
      refine e_iconst dX6_houseAt_64 rfl kc_m1 ?_
      refine e_iret dX6_houseAt_65 ?_
      exact ⟨_, rfl, rfl, hW.1⟩
    | succ q ih =>
      intro n M2 u hn hW hu1 hu2
      have hin : isIn M c ((nx + n : Nat) : Int) := ⟨hc, by omega, by rw [Int.toNat_natCast, hln]; omega⟩
      have hh := wH_h hO hc hs hln n (Or.inl (by omega : nx + n < ln))
      have hm := hW.2.2 n (by omega)
      have hb := (tellV_b M 1 (wH M c nx n) c ((nx + n : Nat) : Int)).1
      refine e_iload3 dX6_houseAt_7 ?_
      refine e_if_lt (tgt := 64) dX6_houseAt_8 (by decide) (fun h => absurd h (by omega)) (fun h8 => ?_)
      refine e_iload3 dX6_houseAt_11 ?_
      refine e_aload0 dX6_houseAt_12 ?_
      refine e_getI fl_X6_25 la_122 rfl dX6_houseAt_13 ?_
      refine WW.ec (y := (ln : Int)) (hW.2.1.2.2) ?_
      refine e_icmp_ge (tgt := 64) dX6_houseAt_16 (by decide) (fun h => absurd h (by omega)) (fun h16 => ?_)
      refine e_iload3 dX6_houseAt_19 ?_
      refine e_bipush dX6_houseAt_20 rfl kb_12 ?_
      refine e_icmp_ge (tgt := 64) dX6_houseAt_22 (by decide) (fun h => absurd h (by omega)) (fun h22 => ?_)
      refine e_iload2 dX6_houseAt_25 ?_
      refine e_aload0 dX6_houseAt_26 ?_
      refine e_getR fl_X6_39 la_122 rfl dX6_houseAt_27 ?_
      refine e_iconst dX6_houseAt_30 rfl kc_1 ?_
      refine e_aload0 dX6_houseAt_31 ?_
      refine e_getR fl_X6_9 la_122 rfl dX6_houseAt_32 ?_
      refine e_iload3 dX6_houseAt_35 ?_
      refine e_iald la_123 (⟨by omega, by omega⟩) dX6_houseAt_36 ?_
      refine WW.ec (y := wH M c nx n) (by rw [Int.toNat_natCast]; exact hm.1) ?_
      refine e_aload0 dX6_houseAt_37 ?_
      refine e_getI fl_X6_18 la_122 rfl dX6_houseAt_38 ?_
      refine WW.ec (y := (c : Int)) (hW.2.1.1) ?_
      refine e_iload3 dX6_houseAt_41 ?_
      refine e_cVGI (ct_X1_tell (d := d - 1) (by omega) (hL.frs hW.1) (by omega) (by rw [isH_frs hW.1]; exact hh) (by rw [isIn_frs hW.1]; exact hin)) cy_X1_tell cv_X1_tell ml_X6_68 la_119 rfl rfl rfl (rok (by omega) (by decide)) (Nat.le_of_ble_eq_true rfl) dX6_houseAt_42 (fun x M3 hq => ?_)
      rw [tellV_frs hW.1 hL.2.2.2.1] at hq
      rw [hq.1]
      refine e_isub dX6_houseAt_45 (⟨by omega, by omega⟩) ?_
      refine e_istore2 dX6_houseAt_46 rfl ?_
      refine e_iload2 dX6_houseAt_47 ?_
      refine e_if_ge (tgt := 58) dX6_houseAt_48 (by decide) (fun h48 => ?_) (fun h48 => ?_)
      · refine e_iinc3 dX6_houseAt_58 rfl (⟨by omega, by omega⟩) rfl ?_
        refine e_goto (tgt := 7) dX6_houseAt_61 (by decide) ?_
        refine WW.cv (L' := [some (vR 122), some (vI t), some (vI (u - bN M c nx n)), some (vI ((nx + (n + 1) : Nat) : Int))]) rfl rfl rfl ?_
        rw [show wAt (wH M c nx) (bN M c nx) (q + 1) n u = wAt (wH M c nx) (bN M c nx) q (n + 1) (u - bN M c nx n) by rw [wAt, if_neg (by unfold bN; omega)]]
        exact ih (n + 1) _ _ (by omega) (hW.fr hq.2) (by unfold bN; omega) (by unfold bN; omega)
      · refine e_aload0 dX6_houseAt_51 ?_
        refine e_getR fl_X6_9 la_122 rfl dX6_houseAt_52 ?_
        refine e_iload3 dX6_houseAt_55 ?_
        refine e_iald la_123 (⟨by omega, by omega⟩) dX6_houseAt_56 ?_
        refine WW.ec (y := wH M c nx n) (by rw [Int.toNat_natCast]; exact ((hW.fr hq.2).2.2 n (by omega)).1) ?_
        refine e_iret dX6_houseAt_57 ?_
        refine ⟨_, rfl, ?_, (hW.fr hq.2).1⟩
        rw [wAt, if_pos (by unfold bN; omega)]
  refine MT.of [some (vR 122), some (vI t), none, none] ⟨by decide, rfl⟩ rfl (Nat.le_of_ble_eq_true rfl) (fun hA hM => ?_)
  refine e_iload1 dX6_houseAt_0 ?_
  refine e_istore2 dX6_houseAt_1 rfl ?_
  refine e_aload0 dX6_houseAt_2 ?_
  refine e_getI fl_X6_22 la_122 rfl dX6_houseAt_3 ?_
  refine WW.ec (y := (nx : Int)) (hW.2.1.2.1) ?_
  refine e_istore3 dX6_houseAt_6 rfl ?_
  exact loop (ln - nx) 0 M1 t (by omega) hW (by omega) (by omega)
theorem ct_X6_reckonOdds (hd : 3 ≤ d) {c nx ln m : Nat} (hl12 : ln ≤ 12) {M1 : Mem} (hW : WP M c nx ln (ln - nx) M1) (hm : nx + m < ln) :
    GV l w yX6_reckonOdds cX6_reckonOdds 3 d [vR 122, vI ((nx + m : Nat) : Int)] M1 (fun M2 => FrS M M2 ∧ M2 122 7 = oU (wO M c nx) (m + 1) / (Nat.gcd (oU (wO M c nx) (m + 1)).toNat (oL (wO M c nx) (m + 1)).toNat : Nat) ∧ M2 122 8 = oL (wO M c nx) (m + 1) / (Nat.gcd (oU (wO M c nx) (m + 1)).toNat (oL (wO M c nx) (m + 1)).toNat : Nat)) := by
  have loop : ∀ (q n : Nat) (M2 : Mem), n + q = m + 1 → FrS M M2 → M2 124 = M1 124 → M2 122 7 = oU (wO M c nx) n → M2 122 8 = oL (wO M c nx) n → WM l w RX6 cX6_reckonOdds 3 none d (fun r M2 => r = none ∧ FrS M M2 ∧ M2 122 7 = oU (wO M c nx) (m + 1) / (Nat.gcd (oU (wO M c nx) (m + 1)).toNat (oL (wO M c nx) (m + 1)).toNat : Nat) ∧ M2 122 8 = oL (wO M c nx) (m + 1) / (Nat.gcd (oU (wO M c nx) (m + 1)).toNat (oL (wO M c nx) (m + 1)).toNat : Nat)) 15 [some (vR 122), some (vI ((nx + m : Nat) : Int)), some (vI ((nx + n : Nat) : Int))] [] M2 := by
    intro q
    induction q with
    | zero =>
      intro n M2 hn hf ho hu hl
      obtain rfl : n = m + 1 := by omega
      have hb := oUL (wO_ok M c nx) (m + 1)
      have hp := pow12 (n := m + 1) (by omega)
      refine e_iload2 dX6_reckonOdds_15 ?_
      refine e_if_lt (tgt := 77) dX6_reckonOdds_16 (by decide) (fun h => absurd h (by omega)) (fun h16 => ?_)
      refine e_iload2 dX6_reckonOdds_19 ?_
      refine e_iload1 dX6_reckonOdds_20 ?_
      refine e_icmp_gt (tgt := 77) dX6_reckonOdds_21 (by decide) (fun h21 => ?_) (fun h => absurd h (by omega))
      refine e_aload0 dX6_reckonOdds_77 ?_
      refine e_cVV (ct_X6_shorten (d := d - 1) (by omega) (by rw [hu]; omega) (by rw [hl]; omega)) cy_X6_shorten cv_X6_shorten ml_X6_76 la_122 rfl rfl rfl (rok (by omega) (by decide)) (Nat.le_of_ble_eq_true rfl) dX6_reckonOdds_78 ?_
      refine e_vret dX6_reckonOdds_81 ?_
      refine ⟨rfl, (hf.up (by omega)).up (by omega), ?_, ?_⟩
      · rw [up_k (by decide), up_s, hu, hl]
      · rw [up_s, hu, hl]
    | succ q ih =>
      intro n M2 hn hf ho hu hl
      have hb := oUL (wO_ok M c nx) n
      have hp := pow12 (n := n) (by omega)
      have hr := (hW.2.2 n (by omega)).2
      rw [← ho] at hr
      have hb2 := oUL (wO_ok M c nx) (n + 1)
      have hp2 := pow12 (n := n + 1) (by omega)
      by_cases h1 : wO M c nx n = -1
      · refine e_iload2 dX6_reckonOdds_15 ?_
        refine e_if_lt (tgt := 77) dX6_reckonOdds_16 (by decide) (fun h => absurd h (by omega)) (fun h16 => ?_)
        refine e_iload2 dX6_reckonOdds_19 ?_
        refine e_iload1 dX6_reckonOdds_20 ?_
        refine e_icmp_gt (tgt := 77) dX6_reckonOdds_21 (by decide) (fun h => absurd h (by omega)) (fun h21 => ?_)
        refine e_iload2 dX6_reckonOdds_24 ?_
        refine e_bipush dX6_reckonOdds_25 rfl kb_12 ?_
        refine e_icmp_ge (tgt := 77) dX6_reckonOdds_27 (by decide) (fun h => absurd h (by omega)) (fun h27 => ?_)
        refine e_aload0 dX6_reckonOdds_30 ?_
        refine e_getR fl_X6_15 la_122 rfl dX6_reckonOdds_31 ?_
        refine e_iload2 dX6_reckonOdds_34 ?_
        refine e_iald la_124 (⟨by omega, by omega⟩) dX6_reckonOdds_35 ?_
        refine WW.ec (y := wO M c nx n) (by rw [Int.toNat_natCast]; exact hr) ?_
        refine e_iconst dX6_reckonOdds_36 rfl kc_m1 ?_
        refine e_icmp_eq (tgt := 71) dX6_reckonOdds_37 (by decide) (fun h37 => ?_) (fun h => absurd h (fun q => q h1))
        refine e_iinc2 dX6_reckonOdds_71 rfl (⟨by omega, by omega⟩) rfl ?_
        refine e_goto (tgt := 15) dX6_reckonOdds_74 (by decide) ?_
        exact ih (n + 1) M2 (by omega) hf ho (by rw [oU, if_pos h1]; exact hu) (by rw [oL, if_pos h1]; exact hl)
      · have hok := (wO_ok M c nx n).resolve_left h1
        have hu2 : oU (wO M c nx) (n + 1) = oU (wO M c nx) n * (10 - wO M c nx n) := by rw [oU, if_neg h1]
        have hl2 : oL (wO M c nx) (n + 1) = oL (wO M c nx) n * 10 := by rw [oL, if_neg h1]
        refine e_iload2 dX6_reckonOdds_15 ?_
        refine e_if_lt (tgt := 77) dX6_reckonOdds_16 (by decide) (fun h => absurd h (by omega)) (fun h16 => ?_)
        refine e_iload2 dX6_reckonOdds_19 ?_
        refine e_iload1 dX6_reckonOdds_20 ?_
        refine e_icmp_gt (tgt := 77) dX6_reckonOdds_21 (by decide) (fun h => absurd h (by omega)) (fun h21 => ?_)
        refine e_iload2 dX6_reckonOdds_24 ?_
        refine e_bipush dX6_reckonOdds_25 rfl kb_12 ?_
        refine e_icmp_ge (tgt := 77) dX6_reckonOdds_27 (by decide) (fun h => absurd h (by omega)) (fun h27 => ?_)
        refine e_aload0 dX6_reckonOdds_30 ?_
        refine e_getR fl_X6_15 la_122 rfl dX6_reckonOdds_31 ?_
        refine e_iload2 dX6_reckonOdds_34 ?_
        refine e_iald la_124 (⟨by omega, by omega⟩) dX6_reckonOdds_35 ?_
        refine WW.ec (y := wO M c nx n) (by rw [Int.toNat_natCast]; exact hr) ?_
        refine e_iconst dX6_reckonOdds_36 rfl kc_m1 ?_
        refine e_icmp_eq (tgt := 71) dX6_reckonOdds_37 (by decide) (fun h => absurd h (h1)) (fun h37 => ?_)
        refine e_aload0 dX6_reckonOdds_40 ?_
        refine e_dup dX6_reckonOdds_41 rfl ?_
        refine e_getL fl_X6_28 la_122 rfl dX6_reckonOdds_42 ?_
        rw [hu]
        refine e_bipush dX6_reckonOdds_45 rfl kb_10 ?_
        refine e_aload0 dX6_reckonOdds_47 ?_
        refine e_getR fl_X6_15 la_122 rfl dX6_reckonOdds_48 ?_
        refine e_iload2 dX6_reckonOdds_51 ?_
        refine e_iald la_124 (⟨by omega, by omega⟩) dX6_reckonOdds_52 ?_
        refine WW.ec (y := wO M c nx n) (by rw [Int.toNat_natCast]; exact hr) ?_
        refine e_isub dX6_reckonOdds_53 (⟨by omega, by omega⟩) ?_
        refine e_i2l dX6_reckonOdds_54 ?_
        refine e_lmul dX6_reckonOdds_55 (by rw [← hu2]; exact ⟨by omega, by omega⟩) ?_
        refine e_putL fp_X6_28 la_122 rfl dX6_reckonOdds_56 ?_
        refine e_aload0 dX6_reckonOdds_59 ?_
        refine e_dup dX6_reckonOdds_60 rfl ?_
        refine e_getL fl_X6_32 la_122 rfl dX6_reckonOdds_61 ?_
        rw [up_k (by decide), hl]
        refine e_ldc2 dX6_reckonOdds_64 kl_X6_74 ⟨by decide, by decide⟩ ?_
        refine e_lmul dX6_reckonOdds_67 (by rw [← hl2]; exact ⟨by omega, by omega⟩) ?_
        refine e_putL fp_X6_32 la_122 rfl dX6_reckonOdds_68 ?_
        refine e_iinc2 dX6_reckonOdds_71 rfl (⟨by omega, by omega⟩) rfl ?_
        refine e_goto (tgt := 15) dX6_reckonOdds_74 (by decide) ?_
        refine ih (n + 1) _ (by omega) ((hf.up (by omega)).up (by omega)) (by rw [up_row (by decide), up_row (by decide)]; exact ho) ?_ ?_
        · rw [up_k (by decide), up_s, hu2]
        · rw [up_s, hl2]
  refine MT.of [some (vR 122), some (vI ((nx + m : Nat) : Int)), none] ⟨by decide, rfl⟩ rfl (Nat.le_of_ble_eq_true rfl) (fun hA hM => ?_)
  refine e_aload0 dX6_reckonOdds_0 ?_
  refine e_lconst1 dX6_reckonOdds_1 ?_
  refine e_putL fp_X6_28 la_122 rfl dX6_reckonOdds_2 ?_
  refine e_aload0 dX6_reckonOdds_5 ?_
  refine e_lconst1 dX6_reckonOdds_6 ?_
  refine e_putL fp_X6_32 la_122 rfl dX6_reckonOdds_7 ?_
  refine e_aload0 dX6_reckonOdds_10 ?_
  refine e_getI fl_X6_22 la_122 rfl dX6_reckonOdds_11 ?_
  refine WW.ec (y := (nx : Int)) (by rw [up_k (by decide), up_k (by decide)]; exact hW.2.1.2.1) ?_
  refine e_istore2 dX6_reckonOdds_14 rfl ?_
  exact loop (m + 1) 0 _ (by omega) ((hW.1.up (by omega)).up (by omega)) (by rw [up_row (by decide), up_row (by decide)]) (by simp [up, oU]) (by simp [up, oL])
end WAY3
