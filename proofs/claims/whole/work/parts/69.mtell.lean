/-! THE MODEL TELLS A HOUSE, A CANDLE -/
theorem houseA_0 (A : Nat → Int) (a b : Int) : setN (setN A (10 + (A 0).toNat) a) (40 + (A 0).toNat) b = houseA A 0 a b := by
  funext k
  unfold houseA
  by_cases q : k = 40 + (A 0).toNat
  · rw [q, setN_s, if_neg (by omega), if_pos rfl]
  · rw [setN_o q]
    by_cases q2 : k = 10 + (A 0).toNat
    · rw [q2, setN_s, if_pos rfl]
    · rw [setN_o q2, if_neg q2, if_neg q, if_neg (by omega)]
theorem houseA_s (A : Nat → Int) (a b : Int) (n : Nat) (h : (A 0).toNat < 8) : setN (houseA A n a b) (520 + 476 * n + (A 0).toNat) b = houseA A (n + 1) a b := by
  funext k
  by_cases q : k = 520 + 476 * n + (A 0).toNat
  · rw [q, setN_s]
    unfold houseA
    rw [if_neg (by omega), if_neg (by omega), if_pos (by omega)]
  · rw [setN_o q]
    unfold houseA
    by_cases q1 : k = 10 + (A 0).toNat
    · rw [if_pos q1, if_pos q1]
    by_cases q2 : k = 40 + (A 0).toNat
    · rw [if_neg q1, if_neg q1, if_pos q2, if_pos q2]
    rw [if_neg q1, if_neg q1, if_neg q2, if_neg q2]
    by_cases q3 : 520 ≤ k ∧ k < 520 + 476 * n ∧ (k - 520) % 476 = (A 0).toNat
    · rw [if_pos q3, if_pos (by omega)]
    · rw [if_neg q3, if_neg (by omega)]
theorem cndA_e {A B : Nat → Int} {f c : Nat} (h1 : ∀ k, k < 15 → B (f + (24 + 15 * c + k)) = c15 k) (h2 : ∀ k, (k < f + (24 + 15 * c) ∨ f + (39 + 15 * c) ≤ k) → B k = A k) : B = cndA A f c := by
  funext k
  unfold cndA
  by_cases q : f + (24 + 15 * c) ≤ k ∧ k < f + (39 + 15 * c)
  · rw [if_pos q, ← h1 _ (by omega)]
    congr 1
    omega
  · rw [if_neg q, h2 k (by omega)]
def tcA (A : Nat → Int) (t n : Nat) : Nat → Int := fun k => if t + 3 ≤ k ∧ k < t + 3 + n then -1 else A k
theorem tcA_s (A : Nat → Int) (t n : Nat) : setN (tcA A t n) (t + 3 + n) (-1) = tcA A t (n + 1) := by
  funext k
  by_cases q : k = t + 3 + n
  · rw [q, setN_s]; unfold tcA; rw [if_pos (by omega)]
  · rw [setN_o q]
    unfold tcA
    by_cases q2 : t + 3 ≤ k ∧ k < t + 3 + n
    · rw [if_pos q2, if_pos (by omega)]
    · rw [if_neg q2, if_neg (by omega)]
theorem tcA_0 (A : Nat → Int) (t : Nat) : tcA A t 0 = A := by funext k; unfold tcA; rw [if_neg (by omega)]
section MTELL
variable {l : Launch} {w : Wd} {d : Nat} {M : Mem} {Q : Option MV → Mem → Prop}
theorem hs_loop {A : Nat → Int} {n : Nat} {a b : Int} (h0 : 0 ≤ A 0 ∧ A 0 < 8) (h4 : A 4 = n) (hn : n ≤ 30) : ∀ q i : Nat, i + q = n → Q (some (vI (A 0))) (setA M (setN (houseA A n a b) 0 (A 0 + 1))) → WM l w RX9 cX9_house 5 (some .int) d Q 59 [some (vR 134), some (vI a), some (vI b), some (vI (A 0)), some (vI (i : Int))] [] (setA M (houseA A i a b))
  | 0, i, hi, hQ => by
    obtain rfl : i = n := by omega
    have e4 : setA M (houseA A i a b) 135 4 = (i : Int) := by rw [setA_a]; unfold houseA; rw [if_neg (by omega), if_neg (by omega), if_neg (by omega)]; exact h4
    have e0 : setA M (houseA A i a b) 135 0 = A 0 := by rw [setA_a]; unfold houseA; rw [if_neg (by omega), if_neg (by omega), if_neg (by omega)]
    rw [← setA_u] at hQ
    refine e_iload4 dX9_house_59 ?_
    refine e_aload0 dX9_house_61 ?_
    refine e_getR fl_X9_7 la_134 rfl dX9_house_62 ?_
    refine e_iconst dX9_house_65 rfl kc_4 ?_
    refine e_ialdK (k := 4) la_135 (by decide) (rfl) dX9_house_66 ?_
    refine WW.ec (y := (i : Int)) (e4) ?_
    refine e_icmp_ge (tgt := 100) dX9_house_67 (by decide) (fun h67 => ?_) (fun h67 => ?_)
    · refine e_aload0 dX9_house_100 ?_
      refine e_getR fl_X9_7 la_134 rfl dX9_house_101 ?_
      refine e_iconst dX9_house_104 rfl kc_0 ?_
      refine e_dup2 dX9_house_105 rfl rfl ?_
      refine e_ialdK (k := 0) la_135 (by decide) (rfl) dX9_house_106 ?_
      refine WW.ec (y := A 0) (e0) ?_
      refine e_iconst dX9_house_107 rfl kc_1 ?_
      refine e_iadd dX9_house_108 (⟨by omega, by omega⟩) ?_
      refine e_iastK (k := 0) la_135 (by decide) (rfl) dX9_house_109 ?_
      refine e_iload3 dX9_house_110 ?_
      refine e_iret dX9_house_111 ?_
      exact hQ
    · omega
  | q + 1, i, hi, hQ => by
    have e4 : setA M (houseA A i a b) 135 4 = (n : Int) := by rw [setA_a]; unfold houseA; rw [if_neg (by omega), if_neg (by omega), if_neg (by omega)]; exact h4
    have ih := hs_loop h0 h4 hn q (i + 1) (by omega) hQ
    refine e_iload4 dX9_house_59 ?_
    refine e_aload0 dX9_house_61 ?_
    refine e_getR fl_X9_7 la_134 rfl dX9_house_62 ?_
    refine e_iconst dX9_house_65 rfl kc_4 ?_
    refine e_ialdK (k := 4) la_135 (by decide) (rfl) dX9_house_66 ?_
    refine WW.ec (y := (n : Int)) (e4) ?_
    refine e_icmp_ge (tgt := 100) dX9_house_67 (by decide) (fun h67 => ?_) (fun h67 => ?_)
    · omega
    · refine e_aload0 dX9_house_70 ?_
      refine e_getR fl_X9_7 la_134 rfl dX9_house_71 ?_
      refine e_sipush dX9_house_74 rfl ks_520 ?_
      refine e_sipush dX9_house_77 rfl ks_476 ?_
      refine e_iload4 dX9_house_80 ?_
      refine e_imul dX9_house_82 (⟨by omega, by omega⟩) ?_
      refine e_iadd dX9_house_83 (⟨by omega, by omega⟩) ?_
      refine e_bipush dX9_house_84 rfl kb_40 ?_
      refine e_iadd dX9_house_86 (⟨by omega, by omega⟩) ?_
      refine e_bipush dX9_house_87 rfl kb_40 ?_
      refine e_isub dX9_house_89 (⟨by omega, by omega⟩) ?_
      refine e_iload3 dX9_house_90 ?_
      refine e_iadd dX9_house_91 (⟨by omega, by omega⟩) ?_
      refine e_iload2 dX9_house_92 ?_
      refine e_iastK (k := 520 + 476 * i + (A 0).toNat) la_135 (by omega) (by omega) dX9_house_93 ?_
      refine e_iinc4 dX9_house_94 rfl (⟨by omega, by omega⟩) rfl ?_
      refine e_goto (tgt := 59) dX9_house_97 (by decide) ?_
      refine WW.cv rfl rfl ?_ ih
      rw [setA_u, houseA_s _ _ _ _ (by omega)]
theorem ct_X9_house (hd : 1 ≤ d) (h0 : 0 ≤ M 135 0 ∧ M 135 0 ≤ 8) (h4 : 0 ≤ M 135 4 ∧ M 135 4 ≤ 30) {a b : Int} : PI l w yX9_house cX9_house 5 d [vR 134, vI a, vI b] M (if (0 ≤ a ∧ a ≤ 9 ∧ 0 ≤ b ∧ b ≤ 999) ∧ M 135 0 < 8 then M 135 0 else -1) (if (0 ≤ a ∧ a ≤ 9 ∧ 0 ≤ b ∧ b ≤ 999) ∧ M 135 0 < 8 then setA M (setN (houseA (M 135) (M 135 4).toNat a b) 0 (M 135 0 + 1)) else M) := by
  by_cases ok : (0 ≤ a ∧ a ≤ 9 ∧ 0 ≤ b ∧ b ≤ 999) ∧ M 135 0 < 8
  · rw [if_pos ok, if_pos ok]
    have h := hs_loop (l := l) (w := w) (d := d) (M := M) (Q := fun r M' => M' = setA M (setN (houseA (M 135) (M 135 4).toNat a b) 0 (M 135 0 + 1)) ∧ r = some (vI (M 135 0))) (A := M 135) (n := (M 135 4).toNat) (a := a) (b := b) (by omega) (by omega) (by omega) (M 135 4).toNat 0 (by omega) ⟨rfl, rfl⟩
    have em : up (up M 135 (10 + (M 135 0).toNat) a) 135 (40 + (M 135 0).toNat) b = setA M (houseA (M 135) 0 a b) := by rw [up_a M, setA_u, houseA_0]
    refine MT.of [some (vR 134), some (vI a), some (vI b), none, none] ⟨by decide, rfl⟩ rfl (Nat.le_of_ble_eq_true rfl) (fun hA hM => ?_)
    refine e_aload0 dX9_house_0 ?_
    refine e_getR fl_X9_7 la_134 rfl dX9_house_1 ?_
    refine e_iconst dX9_house_4 rfl kc_0 ?_
    refine e_ialdK (k := 0) la_135 (by decide) (rfl) dX9_house_5 ?_
    refine e_istore3 dX9_house_6 rfl ?_
    refine e_iload1 dX9_house_7 ?_
    refine e_iconst dX9_house_8 rfl kc_0 ?_
    refine e_bipush dX9_house_9 rfl kb_9 ?_
    refine e_cSZ (ct_X9_in (d := d - 1)) cy_X9_in cs_X9_in ml_X9_120 rfl rfl (rok (by omega) (by decide)) (Nat.le_of_ble_eq_true rfl) dX9_house_11 (fun g11 => ?_) (fun g11 => ?_)
    · refine e_if_eq (tgt := 34) dX9_house_14 (by decide) (fun h => absurd h (by decide)) (fun _ => ?_)
      refine e_iload2 dX9_house_17 ?_
      refine e_iconst dX9_house_18 rfl kc_0 ?_
      refine e_sipush dX9_house_19 rfl ks_999 ?_
      refine e_cSZ (ct_X9_in (d := d - 1)) cy_X9_in cs_X9_in ml_X9_120 rfl rfl (rok (by omega) (by decide)) (Nat.le_of_ble_eq_true rfl) dX9_house_22 (fun g22 => ?_) (fun g22 => ?_)
      · refine e_if_eq (tgt := 34) dX9_house_25 (by decide) (fun h => absurd h (by decide)) (fun _ => ?_)
        refine e_iload3 dX9_house_28 ?_
        refine e_bipush dX9_house_29 rfl kb_8 ?_
        refine e_icmp_ne (tgt := 36) dX9_house_31 (by decide) (fun h31 => ?_) (fun h31 => ?_)
        · refine e_aload0 dX9_house_36 ?_
          refine e_getR fl_X9_7 la_134 rfl dX9_house_37 ?_
          refine e_bipush dX9_house_40 rfl kb_10 ?_
          refine e_iload3 dX9_house_42 ?_
          refine e_iadd dX9_house_43 (⟨by omega, by omega⟩) ?_
          refine e_iload1 dX9_house_44 ?_
          refine e_iastK (k := 10 + (M 135 0).toNat) la_135 (by omega) (by omega) dX9_house_45 ?_
          refine e_aload0 dX9_house_46 ?_
          refine e_getR fl_X9_7 la_134 rfl dX9_house_47 ?_
          refine e_bipush dX9_house_50 rfl kb_40 ?_
          refine e_iload3 dX9_house_52 ?_
          refine e_iadd dX9_house_53 (⟨by omega, by omega⟩) ?_
          refine e_iload2 dX9_house_54 ?_
          refine e_iastK (k := 40 + (M 135 0).toNat) la_135 (by omega) (by omega) dX9_house_55 ?_
          refine e_iconst dX9_house_56 rfl kc_0 ?_
          refine e_istore4 dX9_house_57 rfl ?_
          exact WW.cv rfl rfl em h
        · omega
      · refine e_if_eq (tgt := 34) dX9_house_25 (by decide) (fun _ => ?_) (fun h => absurd h (by decide))
        omega
    · refine e_if_eq (tgt := 34) dX9_house_14 (by decide) (fun _ => ?_) (fun h => absurd h (by decide))
      omega
  · rw [if_neg ok, if_neg ok]
    refine MT.of [some (vR 134), some (vI a), some (vI b), none, none] ⟨by decide, rfl⟩ rfl (Nat.le_of_ble_eq_true rfl) (fun hA hM => ?_)
    refine e_aload0 dX9_house_0 ?_
    refine e_getR fl_X9_7 la_134 rfl dX9_house_1 ?_
    refine e_iconst dX9_house_4 rfl kc_0 ?_
    refine e_ialdK (k := 0) la_135 (by decide) (rfl) dX9_house_5 ?_
    refine e_istore3 dX9_house_6 rfl ?_
    refine e_iload1 dX9_house_7 ?_
    refine e_iconst dX9_house_8 rfl kc_0 ?_
    refine e_bipush dX9_house_9 rfl kb_9 ?_
    refine e_cSZ (ct_X9_in (d := d - 1)) cy_X9_in cs_X9_in ml_X9_120 rfl rfl (rok (by omega) (by decide)) (Nat.le_of_ble_eq_true rfl) dX9_house_11 (fun g11 => ?_) (fun g11 => ?_)
    · refine e_if_eq (tgt := 34) dX9_house_14 (by decide) (fun h => absurd h (by decide)) (fun _ => ?_)
      refine e_iload2 dX9_house_17 ?_
      refine e_iconst dX9_house_18 rfl kc_0 ?_
      refine e_sipush dX9_house_19 rfl ks_999 ?_
      refine e_cSZ (ct_X9_in (d := d - 1)) cy_X9_in cs_X9_in ml_X9_120 rfl rfl (rok (by omega) (by decide)) (Nat.le_of_ble_eq_true rfl) dX9_house_22 (fun g22 => ?_) (fun g22 => ?_)
      · refine e_if_eq (tgt := 34) dX9_house_25 (by decide) (fun h => absurd h (by decide)) (fun _ => ?_)
        refine e_iload3 dX9_house_28 ?_
        refine e_bipush dX9_house_29 rfl kb_8 ?_
        refine e_icmp_ne (tgt := 36) dX9_house_31 (by decide) (fun h31 => ?_) (fun h31 => ?_)
        · omega
        · refine e_iconst dX9_house_34 rfl kc_m1 ?_
          refine e_iret dX9_house_35 ?_
          exact ⟨rfl, rfl⟩
      · refine e_if_eq (tgt := 34) dX9_house_25 (by decide) (fun _ => ?_) (fun h => absurd h (by decide))
        refine e_iconst dX9_house_34 rfl kc_m1 ?_
        refine e_iret dX9_house_35 ?_
        exact ⟨rfl, rfl⟩
    · refine e_if_eq (tgt := 34) dX9_house_14 (by decide) (fun _ => ?_) (fun h => absurd h (by decide))
      refine e_iconst dX9_house_34 rfl kc_m1 ?_
      refine e_iret dX9_house_35 ?_
      exact ⟨rfl, rfl⟩
theorem tc_loop {A : Nat → Int} {t : Nat} {v1 v2 : Int} (ht : t + 15 ≤ 14800) : ∀ q i : Nat, i + q = 12 → Q none (setA M (tcA A t 12)) → WM l w RX9 cX9_tellsCandle 5 none d Q 43 [some (vR 134), some (vI v1), some (vI v2), some (vI (t : Int)), some (vI (i : Int))] [] (setA M (tcA A t i))
  | 0, i, hi, hQ => by
    obtain rfl : i = 12 := by omega
    refine e_iload4 dX9_tellsCandle_43 ?_
    refine e_bipush dX9_tellsCandle_45 rfl kb_12 ?_
    refine e_icmp_ge (tgt := 68) dX9_tellsCandle_47 (by decide) (fun h47 => ?_) (fun h => absurd h (by omega))
    refine e_vret dX9_tellsCandle_68 ?_
    exact hQ
  | q + 1, i, hi, hQ => by
    have ih := tc_loop (v1 := v1) (v2 := v2) ht q (i + 1) (by omega) hQ
    refine e_iload4 dX9_tellsCandle_43 ?_
    refine e_bipush dX9_tellsCandle_45 rfl kb_12 ?_
    refine e_icmp_ge (tgt := 68) dX9_tellsCandle_47 (by decide) (fun h => absurd h (by omega)) (fun h47 => ?_)
    refine e_aload0 dX9_tellsCandle_50 ?_
    refine e_getR fl_X9_7 la_134 rfl dX9_tellsCandle_51 ?_
    refine e_iload3 dX9_tellsCandle_54 ?_
    refine e_iconst dX9_tellsCandle_55 rfl kc_3 ?_
    refine e_iadd dX9_tellsCandle_56 (⟨by omega, by omega⟩) ?_
    refine e_iload4 dX9_tellsCandle_57 ?_
    refine e_iadd dX9_tellsCandle_59 (⟨by omega, by omega⟩) ?_
    refine e_iconst dX9_tellsCandle_60 rfl kc_m1 ?_
    refine e_iastK (k := t + 3 + i) la_135 (by omega) (by omega) dX9_tellsCandle_61 ?_
    refine e_iinc4 dX9_tellsCandle_62 rfl (⟨by omega, by omega⟩) rfl ?_
    refine e_goto (tgt := 43) dX9_tellsCandle_65 (by decide) ?_
    refine WW.cv rfl rfl ?_ ih
    rw [setA_u, tcA_s]
theorem ct_X9_tellsCandle {f c : Nat} (hf : f + 39 + 15 * c ≤ 14800) : PV l w yX9_tellsCandle cX9_tellsCandle 5 d [vR 134, vI (f : Int), vI (c : Int)] M (setA M (cndA (M 135) f c)) := by
  have h := tc_loop (l := l) (w := w) (d := d) (M := M) (Q := fun r M' => M' = setA M (cndA (M 135) f c) ∧ r = none) (A := setN (setN (setN (M 135) (f + 24 + 15 * c) 0) (f + 25 + 15 * c) (-1)) (f + 26 + 15 * c) 0) (t := f + 24 + 15 * c) (v1 := f) (v2 := c) (by omega) 12 0 (by decide) ⟨?_, rfl⟩
  · rw [tcA_0, ← setA_u, ← setA_u, ← up_a] at h
    refine MT.of [some (vR 134), some (vI (f : Int)), some (vI (c : Int)), none, none] ⟨by decide, rfl⟩ rfl (Nat.le_of_ble_eq_true rfl) (fun hA hM => ?_)
    refine e_iload1 dX9_tellsCandle_0 ?_
    refine e_bipush dX9_tellsCandle_1 rfl kb_64 ?_
    refine e_iadd dX9_tellsCandle_3 (⟨by omega, by omega⟩) ?_
    refine e_bipush dX9_tellsCandle_4 rfl kb_40 ?_
    refine e_isub dX9_tellsCandle_6 (⟨by omega, by omega⟩) ?_
    refine e_bipush dX9_tellsCandle_7 rfl kb_15 ?_
    refine e_iload2 dX9_tellsCandle_9 ?_
    refine e_imul dX9_tellsCandle_10 (⟨by omega, by omega⟩) ?_
    refine e_iadd dX9_tellsCandle_11 (⟨by omega, by omega⟩) ?_
    refine WW.ec (y := ((f + 24 + 15 * c : Nat) : Int)) (by omega) ?_
    refine e_istore3 dX9_tellsCandle_12 rfl ?_
    refine e_aload0 dX9_tellsCandle_13 ?_
    refine e_getR fl_X9_7 la_134 rfl dX9_tellsCandle_14 ?_
    refine e_iload3 dX9_tellsCandle_17 ?_
    refine e_iconst dX9_tellsCandle_18 rfl kc_0 ?_
    refine e_iadd dX9_tellsCandle_19 (⟨by omega, by omega⟩) ?_
    refine e_iconst dX9_tellsCandle_20 rfl kc_0 ?_
    refine e_iastK (k := f + 24 + 15 * c) la_135 (by omega) (by omega) dX9_tellsCandle_21 ?_
    refine e_aload0 dX9_tellsCandle_22 ?_
    refine e_getR fl_X9_7 la_134 rfl dX9_tellsCandle_23 ?_
    refine e_iload3 dX9_tellsCandle_26 ?_
    refine e_iconst dX9_tellsCandle_27 rfl kc_1 ?_
    refine e_iadd dX9_tellsCandle_28 (⟨by omega, by omega⟩) ?_
    refine e_iconst dX9_tellsCandle_29 rfl kc_m1 ?_
    refine e_iastK (k := f + 25 + 15 * c) la_135 (by omega) (by omega) dX9_tellsCandle_30 ?_
    refine e_aload0 dX9_tellsCandle_31 ?_
    refine e_getR fl_X9_7 la_134 rfl dX9_tellsCandle_32 ?_
    refine e_iload3 dX9_tellsCandle_35 ?_
    refine e_iconst dX9_tellsCandle_36 rfl kc_2 ?_
    refine e_iadd dX9_tellsCandle_37 (⟨by omega, by omega⟩) ?_
    refine e_iconst dX9_tellsCandle_38 rfl kc_0 ?_
    refine e_iastK (k := f + 26 + 15 * c) la_135 (by omega) (by omega) dX9_tellsCandle_39 ?_
    refine e_iconst dX9_tellsCandle_40 rfl kc_0 ?_
    refine e_istore4 dX9_tellsCandle_41 rfl ?_
    exact h
  · congr 1
    refine cndA_e (fun k hk => ?_) (fun k hk => ?_)
    · unfold tcA c15
      by_cases q : 3 ≤ k
      · rw [if_pos (by omega), if_neg (by omega), if_neg (by omega)]
      · rw [if_neg (by omega)]
        rcases (show k = 0 ∨ k = 1 ∨ k = 2 by omega) with q | q | q <;> subst q
        · rw [setN_o (by omega), setN_o (by omega), show f + (24 + 15 * c + 0) = f + 24 + 15 * c by omega, setN_s]; rfl
        · rw [setN_o (by omega), show f + (24 + 15 * c + 1) = f + 25 + 15 * c by omega, setN_s]; rfl
        · rw [show f + (24 + 15 * c + 2) = f + 26 + 15 * c by omega, setN_s]; rfl
    · unfold tcA
      rw [if_neg (by omega), setN_o (by omega), setN_o (by omega), setN_o (by omega)]
theorem cn_loop {A : Nat → Int} {n c : Nat} {a b : Int} (hd : 1 ≤ d) (hc : c < 6) (h1 : A 1 = c) (h4 : A 4 = n) (hn : n ≤ 30) : ∀ q i : Nat, i + q = n → Q (some (vI (c : Int))) (setA M (setN (cndS A c n) 1 ((c : Int) + 1))) → WM l w RX9 cX9_candle 5 (some .int) d Q 71 [some (vR 134), some (vI a), some (vI b), some (vI (c : Int)), some (vI (i : Int))] [] (setA M (cndS A c i))
  | 0, i, hi, hQ => by
    obtain rfl : i = n := by omega
    have e4 : setA M (cndS A c i) 135 4 = (i : Int) := by rw [setA_a, cndS_lo _ _ (by decide)]; exact h4
    have e1 : setA M (cndS A c i) 135 1 = (c : Int) := by rw [setA_a, cndS_lo _ _ (by decide)]; exact h1
    rw [← setA_u] at hQ
    refine e_iload4 dX9_candle_71 ?_
    refine e_aload0 dX9_candle_73 ?_
    refine e_getR fl_X9_7 la_134 rfl dX9_candle_74 ?_
    refine e_iconst dX9_candle_77 rfl kc_4 ?_
    refine e_ialdK (k := 4) la_135 (by decide) (rfl) dX9_candle_78 ?_
    refine WW.ec (y := (i : Int)) (e4) ?_
    refine e_icmp_ge (tgt := 103) dX9_candle_79 (by decide) (fun h79 => ?_) (fun h79 => ?_)
    · refine e_aload0 dX9_candle_103 ?_
      refine e_getR fl_X9_7 la_134 rfl dX9_candle_104 ?_
      refine e_iconst dX9_candle_107 rfl kc_1 ?_
      refine e_dup2 dX9_candle_108 rfl rfl ?_
      refine e_ialdK (k := 1) la_135 (by decide) (rfl) dX9_candle_109 ?_
      refine WW.ec (y := (c : Int)) (e1) ?_
      refine e_iconst dX9_candle_110 rfl kc_1 ?_
      refine e_iadd dX9_candle_111 (⟨by omega, by omega⟩) ?_
      refine e_iastK (k := 1) la_135 (by decide) (rfl) dX9_candle_112 ?_
      refine e_iload3 dX9_candle_113 ?_
      refine e_iret dX9_candle_114 ?_
      exact hQ
    · omega
  | q + 1, i, hi, hQ => by
    have e4 : setA M (cndS A c i) 135 4 = (n : Int) := by rw [setA_a, cndS_lo _ _ (by decide)]; exact h4
    have ih := cn_loop (a := a) (b := b) hd hc h1 h4 hn q (i + 1) (by omega) hQ
    refine e_iload4 dX9_candle_71 ?_
    refine e_aload0 dX9_candle_73 ?_
    refine e_getR fl_X9_7 la_134 rfl dX9_candle_74 ?_
    refine e_iconst dX9_candle_77 rfl kc_4 ?_
    refine e_ialdK (k := 4) la_135 (by decide) (rfl) dX9_candle_78 ?_
    refine WW.ec (y := (n : Int)) (e4) ?_
    refine e_icmp_ge (tgt := 103) dX9_candle_79 (by decide) (fun h79 => ?_) (fun h79 => ?_)
    · omega
    · refine e_aload0 dX9_candle_82 ?_
      refine e_sipush dX9_candle_83 rfl ks_520 ?_
      refine e_sipush dX9_candle_86 rfl ks_476 ?_
      refine e_iload4 dX9_candle_89 ?_
      refine e_imul dX9_candle_91 (⟨by omega, by omega⟩) ?_
      refine e_iadd dX9_candle_92 (⟨by omega, by omega⟩) ?_
      refine WW.ec (y := ((520 + 476 * i : Nat) : Int)) (by omega) ?_
      refine e_iload3 dX9_candle_93 ?_
      refine e_cVV (ct_X9_tellsCandle (d := d - 1) (by omega)) cy_X9_tellsCandle cv_X9_tellsCandle ml_X9_124 la_134 rfl rfl rfl (rok (by omega) (by decide)) (Nat.le_of_ble_eq_true rfl) dX9_candle_94 ?_
      refine e_iinc4 dX9_candle_97 rfl (⟨by omega, by omega⟩) rfl ?_
      refine e_goto (tgt := 71) dX9_candle_100 (by decide) ?_
      refine WW.cv rfl rfl ?_ ih
      rw [setA_a, setA_s]
      rfl
theorem ct_X9_candle (hd : 1 ≤ d) (h0 : 0 ≤ M 135 1 ∧ M 135 1 ≤ 6) (h4 : 0 ≤ M 135 4 ∧ M 135 4 ≤ 30) {a b : Int} : PI l w yX9_candle cX9_candle 5 d [vR 134, vI a, vI b] M (if (1 ≤ a ∧ a ≤ 9 ∧ 1 ≤ b ∧ b ≤ 12) ∧ M 135 1 < 6 then M 135 1 else -1) (if (1 ≤ a ∧ a ≤ 9 ∧ 1 ≤ b ∧ b ≤ 12) ∧ M 135 1 < 6 then setA M (setN (candleA (M 135) (M 135 4).toNat a b) 1 (M 135 1 + 1)) else M) := by
  by_cases ok : (1 ≤ a ∧ a ≤ 9 ∧ 1 ≤ b ∧ b ≤ 12) ∧ M 135 1 < 6
  · rw [if_pos ok, if_pos ok]
    have ec : M 135 1 = ((M 135 1).toNat : Int) := by omega
    have h := cn_loop (l := l) (w := w) (d := d) (M := M) (Q := fun r M' => M' = setA M (setN (candleA (M 135) (M 135 4).toNat a b) 1 (M 135 1 + 1)) ∧ r = some (vI (M 135 1))) (A := cndA (setN (setN (M 135) (20 + 2 * (M 135 1).toNat) a) (21 + 2 * (M 135 1).toNat) b) 40 (M 135 1).toNat) (n := (M 135 4).toNat) (c := (M 135 1).toNat) (a := a) (b := b) hd (by omega) (by unfold cndA; rw [if_neg (by omega), setN_o (by omega), setN_o (by omega)]; exact ec) (by unfold cndA; rw [if_neg (by omega), setN_o (by omega), setN_o (by omega)]; omega) (by omega) (M 135 4).toNat 0 (by omega) ⟨by rw [← ec]; rfl, by rw [← ec]⟩
    have h71 : WM l w RX9 cX9_candle 5 (some .int) d (fun r M' => M' = setA M (setN (candleA (M 135) (M 135 4).toNat a b) 1 (M 135 1 + 1)) ∧ r = some (vI (M 135 1))) 71 [some (vR 134), some (vI a), some (vI b), some (vI ((M 135 1).toNat : Int)), some (vI 0)] [] (setA (up (up M 135 (20 + 2 * (M 135 1).toNat) a) 135 (21 + 2 * (M 135 1).toNat) b) (cndA (up (up M 135 (20 + 2 * (M 135 1).toNat) a) 135 (21 + 2 * (M 135 1).toNat) b 135) 40 (M 135 1).toNat)) := by
      rw [up_a M, setA_u, setA_a, setA_s]
      exact h
    refine MT.of [some (vR 134), some (vI a), some (vI b), none, none] ⟨by decide, rfl⟩ rfl (Nat.le_of_ble_eq_true rfl) (fun hA hM => ?_)
    refine e_aload0 dX9_candle_0 ?_
    refine e_getR fl_X9_7 la_134 rfl dX9_candle_1 ?_
    refine e_iconst dX9_candle_4 rfl kc_1 ?_
    refine e_ialdK (k := 1) la_135 (by decide) (rfl) dX9_candle_5 ?_
    refine WW.ec (y := ((M 135 1).toNat : Int)) (ec) ?_
    refine e_istore3 dX9_candle_6 rfl ?_
    refine e_iload1 dX9_candle_7 ?_
    refine e_iconst dX9_candle_8 rfl kc_1 ?_
    refine e_bipush dX9_candle_9 rfl kb_9 ?_
    refine e_cSZ (ct_X9_in (d := d - 1)) cy_X9_in cs_X9_in ml_X9_120 rfl rfl (rok (by omega) (by decide)) (Nat.le_of_ble_eq_true rfl) dX9_candle_11 (fun g11 => ?_) (fun g11 => ?_)
    · refine e_if_eq (tgt := 33) dX9_candle_14 (by decide) (fun h => absurd h (by decide)) (fun _ => ?_)
      refine e_iload2 dX9_candle_17 ?_
      refine e_iconst dX9_candle_18 rfl kc_1 ?_
      refine e_bipush dX9_candle_19 rfl kb_12 ?_
      refine e_cSZ (ct_X9_in (d := d - 1)) cy_X9_in cs_X9_in ml_X9_120 rfl rfl (rok (by omega) (by decide)) (Nat.le_of_ble_eq_true rfl) dX9_candle_21 (fun g21 => ?_) (fun g21 => ?_)
      · refine e_if_eq (tgt := 33) dX9_candle_24 (by decide) (fun h => absurd h (by decide)) (fun _ => ?_)
        refine e_iload3 dX9_candle_27 ?_
        refine e_bipush dX9_candle_28 rfl kb_6 ?_
        refine e_icmp_ne (tgt := 35) dX9_candle_30 (by decide) (fun h30 => ?_) (fun h30 => ?_)
        · refine e_aload0 dX9_candle_35 ?_
          refine e_getR fl_X9_7 la_134 rfl dX9_candle_36 ?_
          refine e_bipush dX9_candle_39 rfl kb_20 ?_
          refine e_iconst dX9_candle_41 rfl kc_2 ?_
          refine e_iload3 dX9_candle_42 ?_
          refine e_imul dX9_candle_43 (⟨by omega, by omega⟩) ?_
          refine e_iadd dX9_candle_44 (⟨by omega, by omega⟩) ?_
          refine e_iload1 dX9_candle_45 ?_
          refine e_iastK (k := 20 + 2 * (M 135 1).toNat) la_135 (by omega) (by omega) dX9_candle_46 ?_
          refine e_aload0 dX9_candle_47 ?_
          refine e_getR fl_X9_7 la_134 rfl dX9_candle_48 ?_
          refine e_bipush dX9_candle_51 rfl kb_20 ?_
          refine e_iconst dX9_candle_53 rfl kc_2 ?_
          refine e_iload3 dX9_candle_54 ?_
          refine e_imul dX9_candle_55 (⟨by omega, by omega⟩) ?_
          refine e_iadd dX9_candle_56 (⟨by omega, by omega⟩) ?_
          refine e_iconst dX9_candle_57 rfl kc_1 ?_
          refine e_iadd dX9_candle_58 (⟨by omega, by omega⟩) ?_
          refine e_iload2 dX9_candle_59 ?_
          refine e_iastK (k := 21 + 2 * (M 135 1).toNat) la_135 (by omega) (by omega) dX9_candle_60 ?_
          refine e_aload0 dX9_candle_61 ?_
          refine e_bipush dX9_candle_62 rfl kb_40 ?_
          refine e_iload3 dX9_candle_64 ?_
          refine e_cVV (ct_X9_tellsCandle (d := d - 1) (f := 40) (by omega)) cy_X9_tellsCandle cv_X9_tellsCandle ml_X9_124 la_134 rfl rfl rfl (rok (by omega) (by decide)) (Nat.le_of_ble_eq_true rfl) dX9_candle_65 ?_
          refine e_iconst dX9_candle_68 rfl kc_0 ?_
          refine e_istore4 dX9_candle_69 rfl ?_
          exact h71
        · omega
      · refine e_if_eq (tgt := 33) dX9_candle_24 (by decide) (fun _ => ?_) (fun h => absurd h (by decide))
        omega
    · refine e_if_eq (tgt := 33) dX9_candle_14 (by decide) (fun _ => ?_) (fun h => absurd h (by decide))
      omega
  · rw [if_neg ok, if_neg ok]
    refine MT.of [some (vR 134), some (vI a), some (vI b), none, none] ⟨by decide, rfl⟩ rfl (Nat.le_of_ble_eq_true rfl) (fun hA hM => ?_)
    refine e_aload0 dX9_candle_0 ?_
    refine e_getR fl_X9_7 la_134 rfl dX9_candle_1 ?_
    refine e_iconst dX9_candle_4 rfl kc_1 ?_
    refine e_ialdK (k := 1) la_135 (by decide) (rfl) dX9_candle_5 ?_
    refine e_istore3 dX9_candle_6 rfl ?_
    refine e_iload1 dX9_candle_7 ?_
    refine e_iconst dX9_candle_8 rfl kc_1 ?_
    refine e_bipush dX9_candle_9 rfl kb_9 ?_
    refine e_cSZ (ct_X9_in (d := d - 1)) cy_X9_in cs_X9_in ml_X9_120 rfl rfl (rok (by omega) (by decide)) (Nat.le_of_ble_eq_true rfl) dX9_candle_11 (fun g11 => ?_) (fun g11 => ?_)
    · refine e_if_eq (tgt := 33) dX9_candle_14 (by decide) (fun h => absurd h (by decide)) (fun _ => ?_)
      refine e_iload2 dX9_candle_17 ?_
      refine e_iconst dX9_candle_18 rfl kc_1 ?_
      refine e_bipush dX9_candle_19 rfl kb_12 ?_
      refine e_cSZ (ct_X9_in (d := d - 1)) cy_X9_in cs_X9_in ml_X9_120 rfl rfl (rok (by omega) (by decide)) (Nat.le_of_ble_eq_true rfl) dX9_candle_21 (fun g21 => ?_) (fun g21 => ?_)
      · refine e_if_eq (tgt := 33) dX9_candle_24 (by decide) (fun h => absurd h (by decide)) (fun _ => ?_)
        refine e_iload3 dX9_candle_27 ?_
        refine e_bipush dX9_candle_28 rfl kb_6 ?_
        refine e_icmp_ne (tgt := 35) dX9_candle_30 (by decide) (fun h30 => ?_) (fun h30 => ?_)
        · omega
        · refine e_iconst dX9_candle_33 rfl kc_m1 ?_
          refine e_iret dX9_candle_34 ?_
          exact ⟨rfl, rfl⟩
      · refine e_if_eq (tgt := 33) dX9_candle_24 (by decide) (fun _ => ?_) (fun h => absurd h (by decide))
        refine e_iconst dX9_candle_33 rfl kc_m1 ?_
        refine e_iret dX9_candle_34 ?_
        exact ⟨rfl, rfl⟩
    · refine e_if_eq (tgt := 33) dX9_candle_14 (by decide) (fun _ => ?_) (fun h => absurd h (by decide))
      refine e_iconst dX9_candle_33 rfl kc_m1 ?_
      refine e_iret dX9_candle_34 ?_
      exact ⟨rfl, rfl⟩
theorem ct_X9_by (hd : 1 ≤ d) (h2 : 0 ≤ M 135 2 ∧ M 135 2 ≤ 4) {a : Int} : GI l w yX9_by cX9_by 2 .boolean d [vR 134, vI a] M (fun x M1 => ((a = -1 ∨ (0 ≤ a ∧ a < M 135 2)) ∧ x = 1 ∧ M1 = setA M (setN (M 135) 3 a)) ∨ (¬ (a = -1 ∨ (0 ≤ a ∧ a < M 135 2)) ∧ x = 0 ∧ M1 = M)) := by
  refine MT.of [some (vR 134), some (vI a)] ⟨by decide, rfl⟩ rfl (Nat.le_of_ble_eq_true rfl) (fun hA hM => ?_)
  refine e_iload1 dX9_by_0 ?_
  refine e_iconst dX9_by_1 rfl kc_m1 ?_
  refine e_icmp_eq (tgt := 23) dX9_by_2 (by decide) (fun h2 => ?_) (fun h2 => ?_)
  · refine e_aload0 dX9_by_23 ?_
    refine e_getR fl_X9_7 la_134 rfl dX9_by_24 ?_
    refine e_iconst dX9_by_27 rfl kc_3 ?_
    refine e_iload1 dX9_by_28 ?_
    refine e_iastK (k := 3) la_135 (by decide) (rfl) dX9_by_29 ?_
    refine e_iconst dX9_by_30 rfl kc_1 ?_
    refine e_zret dX9_by_31 (by decide) ?_
    first | (exfalso; omega) | exact ⟨_, rfl, Or.inl ⟨by omega, rfl, up_a _ _ _⟩⟩ | exact ⟨_, rfl, Or.inr ⟨by omega, rfl, rfl⟩⟩
  · refine e_iload1 dX9_by_5 ?_
    refine e_iconst dX9_by_6 rfl kc_0 ?_
    refine e_aload0 dX9_by_7 ?_
    refine e_getR fl_X9_7 la_134 rfl dX9_by_8 ?_
    refine e_iconst dX9_by_11 rfl kc_2 ?_
    refine e_ialdK (k := 2) la_135 (by decide) (rfl) dX9_by_12 ?_
    refine e_iconst dX9_by_13 rfl kc_1 ?_
    refine e_isub dX9_by_14 (⟨by omega, by omega⟩) ?_
    refine e_cSZ (ct_X9_in (d := d - 1)) cy_X9_in cs_X9_in ml_X9_120 rfl rfl (rok (by omega) (by decide)) (Nat.le_of_ble_eq_true rfl) dX9_by_15 (fun g15 => ?_) (fun g15 => ?_)
    · refine e_if_ne (tgt := 23) dX9_by_18 (by decide) (fun _ => ?_) (fun h => absurd h (by decide))
      refine e_aload0 dX9_by_23 ?_
      refine e_getR fl_X9_7 la_134 rfl dX9_by_24 ?_
      refine e_iconst dX9_by_27 rfl kc_3 ?_
      refine e_iload1 dX9_by_28 ?_
      refine e_iastK (k := 3) la_135 (by decide) (rfl) dX9_by_29 ?_
      refine e_iconst dX9_by_30 rfl kc_1 ?_
      refine e_zret dX9_by_31 (by decide) ?_
      first | (exfalso; omega) | exact ⟨_, rfl, Or.inl ⟨by omega, rfl, up_a _ _ _⟩⟩ | exact ⟨_, rfl, Or.inr ⟨by omega, rfl, rfl⟩⟩
    · refine e_if_ne (tgt := 23) dX9_by_18 (by decide) (fun h => absurd h (by decide)) (fun _ => ?_)
      refine e_iconst dX9_by_21 rfl kc_0 ?_
      refine e_zret dX9_by_22 (by decide) ?_
      first | (exfalso; omega) | exact ⟨_, rfl, Or.inl ⟨by omega, rfl, up_a _ _ _⟩⟩ | exact ⟨_, rfl, Or.inr ⟨by omega, rfl, rfl⟩⟩
theorem ct_X9_fault {k : Int} : PI l w yX9_fault cX9_fault 2 d [vR 134, vI k] M (if k = 0 then M 134 4 else if k = 1 then M 134 5 else -1) M := by
  refine MT.of [some (vR 134), some (vI k)] ⟨by decide, rfl⟩ rfl (Nat.le_of_ble_eq_true rfl) (fun hA hM => ?_)
  refine e_iload1 dX9_fault_0 ?_
  refine e_if_ne (tgt := 11) dX9_fault_1 (by decide) (fun h1 => ?_) (fun h1 => ?_)
  · refine e_iload1 dX9_fault_11 ?_
    refine e_iconst dX9_fault_12 rfl kc_1 ?_
    refine e_icmp_ne (tgt := 23) dX9_fault_13 (by decide) (fun h13 => ?_) (fun h13 => ?_)
    · refine e_iconst dX9_fault_23 rfl kc_m1 ?_
      refine e_iret dX9_fault_24 ?_
      first | (exfalso; omega) | exact ⟨rfl, by rw [if_pos (by omega)]⟩ | exact ⟨rfl, by rw [if_neg (by omega), if_pos (by omega)]⟩ | exact ⟨rfl, by rw [if_neg (by omega), if_neg (by omega)]⟩
    · refine e_aload0 dX9_fault_16 ?_
      refine e_getI fl_X9_24 la_134 rfl dX9_fault_17 ?_
      refine e_goto (tgt := 24) dX9_fault_20 (by decide) ?_
      refine e_iret dX9_fault_24 ?_
      first | (exfalso; omega) | exact ⟨rfl, by rw [if_pos (by omega)]⟩ | exact ⟨rfl, by rw [if_neg (by omega), if_pos (by omega)]⟩ | exact ⟨rfl, by rw [if_neg (by omega), if_neg (by omega)]⟩
  · refine e_aload0 dX9_fault_4 ?_
    refine e_getI fl_X9_20 la_134 rfl dX9_fault_5 ?_
    refine e_goto (tgt := 24) dX9_fault_8 (by decide) ?_
    refine e_iret dX9_fault_24 ?_
    first | (exfalso; omega) | exact ⟨rfl, by rw [if_pos (by omega)]⟩ | exact ⟨rfl, by rw [if_neg (by omega), if_pos (by omega)]⟩ | exact ⟨rfl, by rw [if_neg (by omega), if_neg (by omega)]⟩
end MTELL
