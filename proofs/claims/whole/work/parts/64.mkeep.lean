/-! THE MODEL'S ROWS: keeping, taking back, image, back -/
def setA (M : Mem) (A : Nat → Int) : Mem := fun o k => if o = 135 then A k else M o k
theorem setA_a (M : Mem) (A : Nat → Int) : setA M A 135 = A := by funext k; unfold setA; rw [if_pos rfl]
theorem setA_o {M : Mem} {A : Nat → Int} {o : Nat} (h : o ≠ 135) : setA M A o = M o := by funext k; unfold setA; rw [if_neg h]
theorem setA_m (M : Mem) : setA M (M 135) = M := by
  funext o k
  unfold setA
  split
  · rename_i h; rw [h]
  · rfl
theorem setA_u (M : Mem) (A : Nat → Int) (k : Nat) (v : Int) : up (setA M A) 135 k v = setA M (setN A k v) := by
  funext o q
  by_cases ho : o = 135
  · subst ho
    rw [setA_a]
    by_cases hq : q = k
    · subst hq
      rw [up_s]
      simp [setN]
    · rw [up_k hq, setA_a]
      simp [setN, hq]
  · rw [up_o ho, setA_o ho, setA_o ho]
theorem setA_s (M : Mem) (A B : Nat → Int) : setA (setA M A) B = setA M B := by
  funext o k
  unfold setA
  split <;> rfl
theorem up_a (M : Mem) (k : Nat) (v : Int) : up M 135 k v = setA M (setN (M 135) k v) := by rw [← setA_u, setA_m]
def shA (A : Nat → Int) (i : Nat) : Nat → Int := fun k => if 520 ≤ k ∧ k < i then A (k + 476) else A k
def cpA (A : Nat → Int) (t f i : Nat) : Nat → Int := fun k => if t ≤ k ∧ k < t + i then A (f + (k - t)) else A k
theorem shA_s (A : Nat → Int) {i : Nat} (h : 520 ≤ i) : setN (shA A i) i (shA A i (i + 476)) = shA A (i + 1) := by
  funext k
  by_cases hk : k = i
  · subst hk
    rw [setN_s]
    unfold shA
    rw [if_neg (by omega), if_pos (by omega)]
  · rw [setN_o hk]
    unfold shA
    by_cases q : 520 ≤ k ∧ k < i
    · rw [if_pos q, if_pos (by omega)]
    · rw [if_neg q, if_neg (by omega)]
theorem cpA_s (A : Nat → Int) {t f i : Nat} (h : f + i < t ∨ t + i ≤ f + i) : setN (cpA A t f i) (t + i) (cpA A t f i (f + i)) = cpA A t f (i + 1) := by
  funext k
  by_cases hk : k = t + i
  · subst hk
    rw [setN_s]
    unfold cpA
    rw [if_neg (by omega), if_pos (by omega), show t + i - t = i by omega]
  · rw [setN_o hk]
    unfold cpA
    by_cases q : t ≤ k ∧ k < t + i
    · rw [if_pos q, if_pos (by omega)]
    · rw [if_neg q, if_neg (by omega)]
theorem shA_0 (A : Nat → Int) : shA A 520 = A := by funext k; unfold shA; rw [if_neg (by omega)]
theorem cpA_0 (A : Nat → Int) (t f : Nat) : cpA A t f 0 = A := by funext k; unfold cpA; rw [if_neg (by omega)]
theorem cpA_lo {A : Nat → Int} {t f i k : Nat} (h : k < t ∨ t + i ≤ k) : cpA A t f i k = A k := by unfold cpA; rw [if_neg (by omega)]
theorem shA_lo {A : Nat → Int} {i k : Nat} (h : k < 520 ∨ i ≤ k) : shA A i k = A k := by unfold shA; rw [if_neg (by omega)]
section MKEEP
variable {l : Launch} {w : Wd} {d : Nat} {M : Mem} {Q : Option MV → Mem → Prop}
theorem ks_copy {A : Nat → Int} {n : Nat} (hn : n < 30) (h4 : A 4 = n) : ∀ q i : Nat, i + q = 476 → Q none (setA M (setN (cpA A (520 + 476 * n) 40 476) 4 ((n : Int) + 1))) → WM l w RX9 cX9_keepsStep 2 none d Q 54 [some (vR 134), some (vI (i : Int))] [] (setA M (cpA A (520 + 476 * n) 40 i))
  | 0, i, hi, hQ => by
    obtain rfl : i = 476 := by omega
    have e4 : setA M (cpA A (520 + 476 * n) 40 476) 135 4 = (n : Int) := by rw [setA_a, cpA_lo (by omega)]; exact h4
    rw [← setA_u] at hQ
    refine e_iload1 dX9_keepsStep_54 ?_
    refine e_sipush dX9_keepsStep_55 rfl ks_476 ?_
    refine e_icmp_ge (tgt := 97) dX9_keepsStep_58 (by decide) (fun h58 => ?_) (fun h => absurd h (by omega))
    refine e_aload0 dX9_keepsStep_97 ?_
    refine e_getR fl_X9_7 la_134 rfl dX9_keepsStep_98 ?_
    refine e_iconst dX9_keepsStep_101 rfl kc_4 ?_
    refine e_dup2 dX9_keepsStep_102 rfl rfl ?_
    refine e_ialdK (k := 4) la_135 (by decide) (rfl) dX9_keepsStep_103 ?_
    refine WW.ec (y := (n : Int)) (e4) ?_
    refine e_iconst dX9_keepsStep_104 rfl kc_1 ?_
    refine e_iadd dX9_keepsStep_105 (⟨by omega, by omega⟩) ?_
    refine e_iastK (k := 4) la_135 (by decide) (rfl) dX9_keepsStep_106 ?_
    refine e_vret dX9_keepsStep_107 ?_
    exact hQ
  | q + 1, i, hi, hQ => by
    have e4 : setA M (cpA A (520 + 476 * n) 40 i) 135 4 = (n : Int) := by rw [setA_a, cpA_lo (by omega)]; exact h4
    have ih := ks_copy hn h4 q (i + 1) (by omega) hQ
    refine e_iload1 dX9_keepsStep_54 ?_
    refine e_sipush dX9_keepsStep_55 rfl ks_476 ?_
    refine e_icmp_ge (tgt := 97) dX9_keepsStep_58 (by decide) (fun h => absurd h (by omega)) (fun h58 => ?_)
    refine e_aload0 dX9_keepsStep_61 ?_
    refine e_getR fl_X9_7 la_134 rfl dX9_keepsStep_62 ?_
    refine e_sipush dX9_keepsStep_65 rfl ks_520 ?_
    refine e_sipush dX9_keepsStep_68 rfl ks_476 ?_
    refine e_aload0 dX9_keepsStep_71 ?_
    refine e_getR fl_X9_7 la_134 rfl dX9_keepsStep_72 ?_
    refine e_iconst dX9_keepsStep_75 rfl kc_4 ?_
    refine e_ialdK (k := 4) la_135 (by decide) (rfl) dX9_keepsStep_76 ?_
    refine WW.ec (y := (n : Int)) (e4) ?_
    refine e_imul dX9_keepsStep_77 (⟨by omega, by omega⟩) ?_
    refine e_iadd dX9_keepsStep_78 (⟨by omega, by omega⟩) ?_
    refine e_iload1 dX9_keepsStep_79 ?_
    refine e_iadd dX9_keepsStep_80 (⟨by omega, by omega⟩) ?_
    refine e_aload0 dX9_keepsStep_81 ?_
    refine e_getR fl_X9_7 la_134 rfl dX9_keepsStep_82 ?_
    refine e_bipush dX9_keepsStep_85 rfl kb_40 ?_
    refine e_iload1 dX9_keepsStep_87 ?_
    refine e_iadd dX9_keepsStep_88 (⟨by omega, by omega⟩) ?_
    refine e_ialdK (k := 40 + i) la_135 (by omega) (by omega) dX9_keepsStep_89 ?_
    refine e_iastK (k := 520 + 476 * n + i) la_135 (by omega) (by omega) dX9_keepsStep_90 ?_
    refine e_iinc1 dX9_keepsStep_91 rfl (⟨by omega, by omega⟩) rfl ?_
    refine e_goto (tgt := 54) dX9_keepsStep_94 (by decide) ?_
    refine WW.cv rfl rfl ?_ ih
    rw [setA_u, setA_a, cpA_s _ (by omega)]
theorem ks_shift {A : Nat → Int} : ∀ q i : Nat, i + q = 14324 → 520 ≤ i → (WM l w RX9 cX9_keepsStep 2 none d Q 44 [some (vR 134), some (vI 14324)] [] (setA M (shA A 14324))) → WM l w RX9 cX9_keepsStep 2 none d Q 15 [some (vR 134), some (vI (i : Int))] [] (setA M (shA A i))
  | 0, i, hi, h5, hQ => by
    obtain rfl : i = 14324 := by omega
    refine e_iload1 dX9_keepsStep_15 ?_
    refine e_sipush dX9_keepsStep_16 rfl ks_14324 ?_
    refine e_icmp_ge (tgt := 44) dX9_keepsStep_19 (by decide) (fun h19 => ?_) (fun h => absurd h (by omega))
    exact hQ
  | q + 1, i, hi, h5, hQ => by
    have ih := ks_shift q (i + 1) (by omega) (by omega) hQ
    refine e_iload1 dX9_keepsStep_15 ?_
    refine e_sipush dX9_keepsStep_16 rfl ks_14324 ?_
    refine e_icmp_ge (tgt := 44) dX9_keepsStep_19 (by decide) (fun h => absurd h (by omega)) (fun h19 => ?_)
    refine e_aload0 dX9_keepsStep_22 ?_
    refine e_getR fl_X9_7 la_134 rfl dX9_keepsStep_23 ?_
    refine e_iload1 dX9_keepsStep_26 ?_
    refine e_aload0 dX9_keepsStep_27 ?_
    refine e_getR fl_X9_7 la_134 rfl dX9_keepsStep_28 ?_
    refine e_iload1 dX9_keepsStep_31 ?_
    refine e_sipush dX9_keepsStep_32 rfl ks_476 ?_
    refine e_iadd dX9_keepsStep_35 (⟨by omega, by omega⟩) ?_
    refine e_ialdK (k := i + 476) la_135 (by omega) (by omega) dX9_keepsStep_36 ?_
    refine e_iastK (k := i) la_135 (by omega) (by omega) dX9_keepsStep_37 ?_
    refine e_iinc1 dX9_keepsStep_38 rfl (⟨by omega, by omega⟩) rfl ?_
    refine e_goto (tgt := 15) dX9_keepsStep_41 (by decide) ?_
    refine WW.cv rfl rfl ?_ ih
    rw [setA_u, setA_a, shA_s _ h5]
theorem ct_X9_keepsStep (h4 : 0 ≤ M 135 4 ∧ M 135 4 ≤ 30) : PV l w yX9_keepsStep cX9_keepsStep 2 d [vR 134] M (setA M (keepA (M 135))) := by
  by_cases q : M 135 4 = 30
  · have hk : kpN (M 135) = 29 := by unfold kpN; rw [if_pos q]
    have e : setN (cpA (setN (shA (M 135) 14324) 4 29) (520 + 476 * 29) 40 476) 4 (((29 : Nat) : Int) + 1) = keepA (M 135) := by
      funext k
      unfold keepA
      rw [hk]
      by_cases k4 : k = 4
      · rw [if_pos k4, k4, setN_s]
      · rw [if_neg k4, setN_o k4]
        by_cases k5 : 520 + 476 * 29 ≤ k ∧ k < 996 + 476 * 29
        · rw [if_pos k5]
          unfold cpA
          rw [if_pos (by omega), setN_o (by omega), shA_lo (by omega)]
        · rw [if_neg k5, cpA_lo (by omega), setN_o k4]
          unfold shA
          by_cases k6 : 520 ≤ k ∧ k < 14324
          · rw [if_pos k6, if_pos ⟨q, k6⟩]
          · rw [if_neg k6, if_neg (fun z => k6 z.2)]
    have h := ks_copy (l := l) (w := w) (d := d) (M := M) (Q := fun r M' => M' = setA M (keepA (M 135)) ∧ r = none) (A := setN (shA (M 135) 14324) 4 29) (n := 29) (by decide) (setN_s _ _ _) 476 0 (by decide) ⟨by rw [e], rfl⟩
    rw [cpA_0] at h
    have h44 : WM l w RX9 cX9_keepsStep 2 none d (fun r M' => M' = setA M (keepA (M 135)) ∧ r = none) 44 [some (vR 134), some (vI 14324)] [] (setA M (shA (M 135) 14324)) := by
      refine e_aload0 dX9_keepsStep_44 ?_
      refine e_getR fl_X9_7 la_134 rfl dX9_keepsStep_45 ?_
      refine e_iconst dX9_keepsStep_48 rfl kc_4 ?_
      refine e_bipush dX9_keepsStep_49 rfl kb_29 ?_
      refine e_iastK (k := 4) la_135 (by decide) (rfl) dX9_keepsStep_51 ?_
      refine e_iconst dX9_keepsStep_52 rfl kc_0 ?_
      refine e_istore1 dX9_keepsStep_53 rfl ?_
      exact WW.cv rfl rfl (setA_u _ _ _ _) h
    have h15 := ks_shift 13804 520 (by decide) (by decide) h44
    rw [shA_0, setA_m] at h15
    refine MT.of [some (vR 134), none] ⟨by decide, rfl⟩ rfl (Nat.le_of_ble_eq_true rfl) (fun hA hM => ?_)
    refine e_aload0 dX9_keepsStep_0 ?_
    refine e_getR fl_X9_7 la_134 rfl dX9_keepsStep_1 ?_
    refine e_iconst dX9_keepsStep_4 rfl kc_4 ?_
    refine e_ialdK (k := 4) la_135 (by decide) (rfl) dX9_keepsStep_5 ?_
    refine e_bipush dX9_keepsStep_6 rfl kb_30 ?_
    refine e_icmp_ne (tgt := 52) dX9_keepsStep_8 (by decide) (fun h => absurd h (by omega)) (fun h8 => ?_)
    refine e_sipush dX9_keepsStep_11 rfl ks_520 ?_
    refine e_istore1 dX9_keepsStep_14 rfl ?_
    exact h15
  · have hk : kpN (M 135) = (M 135 4).toNat := by unfold kpN; rw [if_neg q]
    have e : setN (cpA (M 135) (520 + 476 * (M 135 4).toNat) 40 476) 4 (((M 135 4).toNat : Int) + 1) = keepA (M 135) := by
      funext k
      unfold keepA
      rw [hk]
      by_cases k4 : k = 4
      · rw [if_pos k4, k4, setN_s]
      · rw [if_neg k4, setN_o k4]
        by_cases k5 : 520 + 476 * (M 135 4).toNat ≤ k ∧ k < 996 + 476 * (M 135 4).toNat
        · rw [if_pos k5]
          unfold cpA
          rw [if_pos (by omega)]
        · rw [if_neg k5, cpA_lo (by omega), if_neg (fun z => q z.1)]
    have h := ks_copy (l := l) (w := w) (d := d) (M := M) (Q := fun r M' => M' = setA M (keepA (M 135)) ∧ r = none) (A := M 135) (n := (M 135 4).toNat) (by omega) (by omega) 476 0 (by decide) ⟨by rw [e], rfl⟩
    rw [cpA_0, setA_m] at h
    refine MT.of [some (vR 134), none] ⟨by decide, rfl⟩ rfl (Nat.le_of_ble_eq_true rfl) (fun hA hM => ?_)
    refine e_aload0 dX9_keepsStep_0 ?_
    refine e_getR fl_X9_7 la_134 rfl dX9_keepsStep_1 ?_
    refine e_iconst dX9_keepsStep_4 rfl kc_4 ?_
    refine e_ialdK (k := 4) la_135 (by decide) (rfl) dX9_keepsStep_5 ?_
    refine e_bipush dX9_keepsStep_6 rfl kb_30 ?_
    refine e_icmp_ne (tgt := 52) dX9_keepsStep_8 (by decide) (fun h8 => ?_) (fun h => absurd h (by omega))
    refine e_iconst dX9_keepsStep_52 rfl kc_0 ?_
    refine e_istore1 dX9_keepsStep_53 rfl ?_
    exact h
def unA (A : Nat → Int) : Nat → Int := cpA (setN A 4 (A 4 - 1)) 40 (520 + 476 * (A 4 - 1).toNat) 476
theorem ud_copy {A : Nat → Int} {n : Nat} (hn : n < 30) (h4 : A 4 = n) : ∀ q i : Nat, i + q = 476 → Q (some (vI (n : Int))) (setA M (cpA A 40 (520 + 476 * n) 476)) → WM l w RX9 cX9_undo 2 (some .int) d Q 23 [some (vR 134), some (vI (i : Int))] [] (setA M (cpA A 40 (520 + 476 * n) i))
  | 0, i, hi, hQ => by
    obtain rfl : i = 476 := by omega
    have e4 : setA M (cpA A 40 (520 + 476 * n) 476) 135 4 = (n : Int) := by rw [setA_a, cpA_lo (by omega)]; exact h4
    refine e_iload1 dX9_undo_23 ?_
    refine e_sipush dX9_undo_24 rfl ks_476 ?_
    refine e_icmp_ge (tgt := 66) dX9_undo_27 (by decide) (fun h27 => ?_) (fun h => absurd h (by omega))
    refine e_aload0 dX9_undo_66 ?_
    refine e_getR fl_X9_7 la_134 rfl dX9_undo_67 ?_
    refine e_iconst dX9_undo_70 rfl kc_4 ?_
    refine e_ialdK (k := 4) la_135 (by decide) (rfl) dX9_undo_71 ?_
    refine WW.ec (y := (n : Int)) (e4) ?_
    refine e_iret dX9_undo_72 ?_
    exact hQ
  | q + 1, i, hi, hQ => by
    have e4 : setA M (cpA A 40 (520 + 476 * n) i) 135 4 = (n : Int) := by rw [setA_a, cpA_lo (by omega)]; exact h4
    have ih := ud_copy hn h4 q (i + 1) (by omega) hQ
    refine e_iload1 dX9_undo_23 ?_
    refine e_sipush dX9_undo_24 rfl ks_476 ?_
    refine e_icmp_ge (tgt := 66) dX9_undo_27 (by decide) (fun h => absurd h (by omega)) (fun h27 => ?_)
    refine e_aload0 dX9_undo_30 ?_
    refine e_getR fl_X9_7 la_134 rfl dX9_undo_31 ?_
    refine e_bipush dX9_undo_34 rfl kb_40 ?_
    refine e_iload1 dX9_undo_36 ?_
    refine e_iadd dX9_undo_37 (⟨by omega, by omega⟩) ?_
    refine e_aload0 dX9_undo_38 ?_
    refine e_getR fl_X9_7 la_134 rfl dX9_undo_39 ?_
    refine e_sipush dX9_undo_42 rfl ks_520 ?_
    refine e_sipush dX9_undo_45 rfl ks_476 ?_
    refine e_aload0 dX9_undo_48 ?_
    refine e_getR fl_X9_7 la_134 rfl dX9_undo_49 ?_
    refine e_iconst dX9_undo_52 rfl kc_4 ?_
    refine e_ialdK (k := 4) la_135 (by decide) (rfl) dX9_undo_53 ?_
    refine WW.ec (y := (n : Int)) (e4) ?_
    refine e_imul dX9_undo_54 (⟨by omega, by omega⟩) ?_
    refine e_iadd dX9_undo_55 (⟨by omega, by omega⟩) ?_
    refine e_iload1 dX9_undo_56 ?_
    refine e_iadd dX9_undo_57 (⟨by omega, by omega⟩) ?_
    refine e_ialdK (k := 520 + 476 * n + i) la_135 (by omega) (by omega) dX9_undo_58 ?_
    refine e_iastK (k := 40 + i) la_135 (by omega) (by omega) dX9_undo_59 ?_
    refine e_iinc1 dX9_undo_60 rfl (⟨by omega, by omega⟩) rfl ?_
    refine e_goto (tgt := 23) dX9_undo_63 (by decide) ?_
    refine WW.cv rfl rfl ?_ ih
    rw [setA_u, setA_a, cpA_s _ (by omega)]
theorem ct_X9_undo (h4 : 0 ≤ M 135 4 ∧ M 135 4 ≤ 30) : PI l w yX9_undo cX9_undo 2 d [vR 134] M (if M 135 4 = 0 then -1 else M 135 4 - 1) (if M 135 4 = 0 then M else setA M (unA (M 135))) := by
  by_cases q : M 135 4 = 0
  · rw [if_pos q, if_pos q]
    refine MT.of [some (vR 134), none] ⟨by decide, rfl⟩ rfl (Nat.le_of_ble_eq_true rfl) (fun hA hM => ?_)
    refine e_aload0 dX9_undo_0 ?_
    refine e_getR fl_X9_7 la_134 rfl dX9_undo_1 ?_
    refine e_iconst dX9_undo_4 rfl kc_4 ?_
    refine e_ialdK (k := 4) la_135 (by decide) (rfl) dX9_undo_5 ?_
    refine e_if_ne (tgt := 11) dX9_undo_6 (by decide) (fun h => absurd h (by omega)) (fun h6 => ?_)
    refine e_iconst dX9_undo_9 rfl kc_m1 ?_
    refine e_iret dX9_undo_10 ?_
    exact ⟨rfl, rfl⟩
  · rw [if_neg q, if_neg q]
    have h := ud_copy (l := l) (w := w) (d := d) (M := M) (Q := fun r M' => M' = setA M (unA (M 135)) ∧ r = some (vI (M 135 4 - 1))) (A := setN (M 135) 4 (M 135 4 - 1)) (n := (M 135 4 - 1).toNat) (by omega) (by rw [setN_s]; omega) 476 0 (by decide) ⟨rfl, by rw [show (((M 135 4 - 1).toNat : Nat) : Int) = M 135 4 - 1 by omega]⟩
    rw [cpA_0, ← up_a] at h
    refine MT.of [some (vR 134), none] ⟨by decide, rfl⟩ rfl (Nat.le_of_ble_eq_true rfl) (fun hA hM => ?_)
    refine e_aload0 dX9_undo_0 ?_
    refine e_getR fl_X9_7 la_134 rfl dX9_undo_1 ?_
    refine e_iconst dX9_undo_4 rfl kc_4 ?_
    refine e_ialdK (k := 4) la_135 (by decide) (rfl) dX9_undo_5 ?_
    refine e_if_ne (tgt := 11) dX9_undo_6 (by decide) (fun h6 => ?_) (fun h => absurd h (by omega))
    refine e_aload0 dX9_undo_11 ?_
    refine e_getR fl_X9_7 la_134 rfl dX9_undo_12 ?_
    refine e_iconst dX9_undo_15 rfl kc_4 ?_
    refine e_dup2 dX9_undo_16 rfl rfl ?_
    refine e_ialdK (k := 4) la_135 (by decide) (rfl) dX9_undo_17 ?_
    refine e_iconst dX9_undo_18 rfl kc_1 ?_
    refine e_isub dX9_undo_19 (⟨by omega, by omega⟩) ?_
    refine e_iastK (k := 4) la_135 (by decide) (rfl) dX9_undo_20 ?_
    refine e_iconst dX9_undo_21 rfl kc_0 ?_
    refine e_istore1 dX9_undo_22 rfl ?_
    exact h
def cpO (M : Mem) (t f : Nat) (n : Nat) : Mem := fun o k => if o = t ∧ k < n then M f k else M o k
theorem cpO_s (M : Mem) {t f n : Nat} (h : f ≠ t) : up (cpO M t f n) t n (cpO M t f n f n) = cpO M t f (n + 1) := by
  funext o k
  simp only [up, cpO, if_neg (show ¬ (f = t ∧ n < n) from fun z => h z.1)]
  by_cases a : o = t
  · by_cases b : k = n
    · subst a; subst b
      rw [if_pos ⟨rfl, rfl⟩, if_pos ⟨rfl, by omega⟩]
    · rw [if_neg (fun z => b z.2)]
      by_cases e : k < n
      · rw [if_pos ⟨a, e⟩, if_pos ⟨a, by omega⟩]
      · rw [if_neg (fun z => e z.2), if_neg (fun z => e (by omega))]
  · rw [if_neg (fun z => a z.1), if_neg (fun z => a z.1), if_neg (fun z => a z.1)]
theorem cpO_0 (M : Mem) (t f : Nat) : cpO M t f 0 = M := by funext o k; unfold cpO; rw [if_neg (by omega)]
theorem cps_out : ∀ q i : Nat, i + q = 14800 → Q none (cpO M 136 135 14800) → WM l w RX9 cX9_copies 3 none d Q 2 [some (vR 134), some (vI 1), some (vI (i : Int))] [] (cpO M 136 135 i)
  | 0, i, hi, hQ => by
    obtain rfl : i = 14800 := by omega
    refine e_iload2 dX9_copies_2 ?_
    refine e_sipush dX9_copies_3 rfl ks_14800 ?_
    refine e_icmp_ge (tgt := 46) dX9_copies_6 (by decide) (fun h6 => ?_) (fun h => absurd h (by omega))
    refine e_vret dX9_copies_46 ?_
    exact hQ
  | q + 1, i, hi, hQ => by
    have ih := cps_out q (i + 1) (by omega) hQ
    refine e_iload2 dX9_copies_2 ?_
    refine e_sipush dX9_copies_3 rfl ks_14800 ?_
    refine e_icmp_ge (tgt := 46) dX9_copies_6 (by decide) (fun h => absurd h (by omega)) (fun h6 => ?_)
    refine e_iload1 dX9_copies_9 ?_
    refine e_if_eq (tgt := 28) dX9_copies_10 (by decide) (fun h => absurd h (by decide)) (fun _ => ?_)
    refine e_aload0 dX9_copies_13 ?_
    refine e_getR fl_X9_13 la_134 rfl dX9_copies_14 ?_
    refine e_iload2 dX9_copies_17 ?_
    refine e_aload0 dX9_copies_18 ?_
    refine e_getR fl_X9_7 la_134 rfl dX9_copies_19 ?_
    refine e_iload2 dX9_copies_22 ?_
    refine e_ialdK (k := i) la_135 (by omega) (by omega) dX9_copies_23 ?_
    refine e_iastK (k := i) la_136 (by omega) (by omega) dX9_copies_24 ?_
    refine e_goto (tgt := 40) dX9_copies_25 (by decide) ?_
    refine e_iinc2 dX9_copies_40 rfl (⟨by omega, by omega⟩) rfl ?_
    refine e_goto (tgt := 2) dX9_copies_43 (by decide) ?_
    refine WW.cv rfl rfl ?_ ih
    exact cpO_s M (by decide)
theorem cps_in : ∀ q i : Nat, i + q = 14800 → Q none (cpO M 135 136 14800) → WM l w RX9 cX9_copies 3 none d Q 2 [some (vR 134), some (vI 0), some (vI (i : Int))] [] (cpO M 135 136 i)
  | 0, i, hi, hQ => by
    obtain rfl : i = 14800 := by omega
    refine e_iload2 dX9_copies_2 ?_
    refine e_sipush dX9_copies_3 rfl ks_14800 ?_
    refine e_icmp_ge (tgt := 46) dX9_copies_6 (by decide) (fun h6 => ?_) (fun h => absurd h (by omega))
    refine e_vret dX9_copies_46 ?_
    exact hQ
  | q + 1, i, hi, hQ => by
    have ih := cps_in q (i + 1) (by omega) hQ
    refine e_iload2 dX9_copies_2 ?_
    refine e_sipush dX9_copies_3 rfl ks_14800 ?_
    refine e_icmp_ge (tgt := 46) dX9_copies_6 (by decide) (fun h => absurd h (by omega)) (fun h6 => ?_)
    refine e_iload1 dX9_copies_9 ?_
    refine e_if_eq (tgt := 28) dX9_copies_10 (by decide) (fun _ => ?_) (fun h => absurd h (by decide))
    refine e_aload0 dX9_copies_28 ?_
    refine e_getR fl_X9_7 la_134 rfl dX9_copies_29 ?_
    refine e_iload2 dX9_copies_32 ?_
    refine e_aload0 dX9_copies_33 ?_
    refine e_getR fl_X9_13 la_134 rfl dX9_copies_34 ?_
    refine e_iload2 dX9_copies_37 ?_
    refine e_ialdK (k := i) la_136 (by omega) (by omega) dX9_copies_38 ?_
    refine e_iastK (k := i) la_135 (by omega) (by omega) dX9_copies_39 ?_
    refine e_iinc2 dX9_copies_40 rfl (⟨by omega, by omega⟩) rfl ?_
    refine e_goto (tgt := 2) dX9_copies_43 (by decide) ?_
    refine WW.cv rfl rfl ?_ ih
    exact cpO_s M (by decide)
theorem ct_X9_copies1 : PV l w yX9_copies cX9_copies 3 d [vR 134, vI 1] M (cpO M 136 135 14800) := by
  have h := cps_out (l := l) (w := w) (d := d) (M := M) (Q := fun r M' => M' = cpO M 136 135 14800 ∧ r = none) 14800 0 (by decide) ⟨rfl, rfl⟩
  rw [cpO_0] at h
  refine MT.of [some (vR 134), some (vI 1), none] ⟨by decide, rfl⟩ rfl (Nat.le_of_ble_eq_true rfl) (fun hA hM => ?_)
  refine e_iconst dX9_copies_0 rfl kc_0 ?_
  refine e_istore2 dX9_copies_1 rfl ?_
  exact h
theorem ct_X9_copies0 : PV l w yX9_copies cX9_copies 3 d [vR 134, vI 0] M (cpO M 135 136 14800) := by
  have h := cps_in (l := l) (w := w) (d := d) (M := M) (Q := fun r M' => M' = cpO M 135 136 14800 ∧ r = none) 14800 0 (by decide) ⟨rfl, rfl⟩
  rw [cpO_0] at h
  refine MT.of [some (vR 134), some (vI 0), none] ⟨by decide, rfl⟩ rfl (Nat.le_of_ble_eq_true rfl) (fun hA hM => ?_)
  refine e_iconst dX9_copies_0 rfl kc_0 ?_
  refine e_istore2 dX9_copies_1 rfl ?_
  exact h
theorem ct_X9_image (hd : 1 ≤ d) : PI l w yX9_image cX9_image 1 d [vR 134] M (M 135 154) (cpO M 136 135 14800) := by
  refine MT.of [some (vR 134)] ⟨by decide, rfl⟩ rfl (Nat.le_of_ble_eq_true rfl) (fun hA hM => ?_)
  refine e_aload0 dX9_image_0 ?_
  refine e_iconst dX9_image_1 rfl kc_1 ?_
  refine e_cVV (ct_X9_copies1 (d := d - 1)) cy_X9_copies cv_X9_copies ml_X9_116 la_134 rfl rfl rfl (rok (by omega) (by decide)) (Nat.le_of_ble_eq_true rfl) dX9_image_2 ?_
  refine e_aload0 dX9_image_5 ?_
  refine e_getR fl_X9_7 la_134 rfl dX9_image_6 ?_
  refine e_sipush dX9_image_9 rfl ks_154 ?_
  refine e_ialdK (k := 154) la_135 (by decide) (rfl) dX9_image_12 ?_
  refine e_iret dX9_image_13 ?_
  exact ⟨rfl, rfl⟩
theorem ct_X9_back (hd : 1 ≤ d) : PI l w yX9_back cX9_back 1 d [vR 134] M (M 136 154) (cpO M 135 136 14800) := by
  refine MT.of [some (vR 134)] ⟨by decide, rfl⟩ rfl (Nat.le_of_ble_eq_true rfl) (fun hA hM => ?_)
  refine e_aload0 dX9_back_0 ?_
  refine e_iconst dX9_back_1 rfl kc_0 ?_
  refine e_cVV (ct_X9_copies0 (d := d - 1)) cy_X9_copies cv_X9_copies ml_X9_116 la_134 rfl rfl rfl (rok (by omega) (by decide)) (Nat.le_of_ble_eq_true rfl) dX9_back_2 ?_
  refine e_aload0 dX9_back_5 ?_
  refine e_getR fl_X9_7 la_134 rfl dX9_back_6 ?_
  refine e_sipush dX9_back_9 rfl ks_154 ?_
  refine e_ialdK (k := 154) la_135 (by decide) (rfl) dX9_back_12 ?_
  refine e_iret dX9_back_13 ?_
  exact ⟨rfl, rfl⟩
theorem ct_X9_seed (hd : 1 ≤ d) {a : Int} : GI l w yX9_seed cX9_seed 2 .boolean d [vR 134, vI a] M (fun x M1 => (0 ≤ a ∧ a ≤ 9999 ∧ x = 1 ∧ M1 = setA M (setN (M 135) 515 (a * 4 + 5))) ∨ (¬ (0 ≤ a ∧ a ≤ 9999) ∧ x = 0 ∧ M1 = M)) := by
  refine MT.of [some (vR 134), some (vI a)] ⟨by decide, rfl⟩ rfl (Nat.le_of_ble_eq_true rfl) (fun hA hM => ?_)
  refine e_iload1 dX9_seed_0 ?_
  refine e_iconst dX9_seed_1 rfl kc_0 ?_
  refine e_sipush dX9_seed_2 rfl ks_9999 ?_
  refine e_cSZ (ct_X9_in (d := d - 1)) cy_X9_in cs_X9_in ml_X9_120 rfl rfl (rok (by omega) (by decide)) (Nat.le_of_ble_eq_true rfl) dX9_seed_5 (fun g5 => ?_) (fun g5 => ?_)
  · refine e_if_ne (tgt := 13) dX9_seed_8 (by decide) (fun _ => ?_) (fun h => absurd h (by decide))
    refine e_aload0 dX9_seed_13 ?_
    refine e_getR fl_X9_7 la_134 rfl dX9_seed_14 ?_
    refine e_sipush dX9_seed_17 rfl ks_515 ?_
    refine e_iload1 dX9_seed_20 ?_
    refine e_iconst dX9_seed_21 rfl kc_4 ?_
    refine e_imul dX9_seed_22 (⟨by omega, by omega⟩) ?_
    refine e_iconst dX9_seed_23 rfl kc_5 ?_
    refine e_iadd dX9_seed_24 (⟨by omega, by omega⟩) ?_
    refine e_iastK (k := 515) la_135 (by decide) (rfl) dX9_seed_25 ?_
    refine e_iconst dX9_seed_26 rfl kc_1 ?_
    refine e_zret dX9_seed_27 (by decide) ?_
    exact ⟨_, rfl, Or.inl ⟨g5.1, g5.2, rfl, up_a _ _ _⟩⟩
  · refine e_if_ne (tgt := 13) dX9_seed_8 (by decide) (fun h => absurd h (by decide)) (fun _ => ?_)
    refine e_iconst dX9_seed_11 rfl kc_0 ?_
    refine e_zret dX9_seed_12 (by decide) ?_
    exact ⟨_, rfl, Or.inr ⟨g5, rfl, rfl⟩⟩
theorem ct_X9_draw {m : Int} (hm : 1 ≤ m) (hx : 0 ≤ M 135 515 ∧ M 135 515 ≤ 50000) : PI l w yX9_draw cX9_draw 3 d [vR 134, vI m] M (M 135 515 % m) (setA M (setN (M 135) 515 ((M 135 515 * 179 + 83) % 30011))) := by
  have h1 : (M 135 515).tmod m = M 135 515 % m := Int.tmod_eq_emod_of_nonneg hx.1
  have h2 : (M 135 515 * 179 + 83).tmod 30011 = (M 135 515 * 179 + 83) % 30011 := Int.tmod_eq_emod_of_nonneg (by omega)
  have b1 := Int.emod_nonneg (M 135 515) (show m ≠ 0 by omega)
  have b2 := Int.mul_ediv_add_emod (M 135 515) m
  have b3 : 0 ≤ m * (M 135 515 / m) := Int.mul_nonneg (by omega) (Int.ediv_nonneg hx.1 (by omega))
  refine MT.of [some (vR 134), some (vI m), none] ⟨by decide, rfl⟩ rfl (Nat.le_of_ble_eq_true rfl) (fun hA hM => ?_)
  refine e_aload0 dX9_draw_0 ?_
  refine e_getR fl_X9_7 la_134 rfl dX9_draw_1 ?_
  refine e_sipush dX9_draw_4 rfl ks_515 ?_
  refine e_ialdK (k := 515) la_135 (by decide) (rfl) dX9_draw_7 ?_
  refine e_iload1 dX9_draw_8 ?_
  refine e_irem dX9_draw_9 (by omega) (⟨by omega, by omega⟩) ?_
  refine WW.ec (y := M 135 515 % m) (h1) ?_
  refine e_istore2 dX9_draw_10 rfl ?_
  refine e_aload0 dX9_draw_11 ?_
  refine e_getR fl_X9_7 la_134 rfl dX9_draw_12 ?_
  refine e_sipush dX9_draw_15 rfl ks_515 ?_
  refine e_aload0 dX9_draw_18 ?_
  refine e_getR fl_X9_7 la_134 rfl dX9_draw_19 ?_
  refine e_sipush dX9_draw_22 rfl ks_515 ?_
  refine e_ialdK (k := 515) la_135 (by decide) (rfl) dX9_draw_25 ?_
  refine e_sipush dX9_draw_26 rfl ks_179 ?_
  refine e_imul dX9_draw_29 (⟨by omega, by omega⟩) ?_
  refine e_bipush dX9_draw_30 rfl kb_83 ?_
  refine e_iadd dX9_draw_32 (⟨by omega, by omega⟩) ?_
  refine e_sipush dX9_draw_33 rfl ks_30011 ?_
  refine e_irem dX9_draw_36 (by omega) (⟨by omega, by omega⟩) ?_
  refine WW.ec (y := (M 135 515 * 179 + 83) % 30011) (h2) ?_
  refine e_iastK (k := 515) la_135 (by decide) (rfl) dX9_draw_37 ?_
  refine e_iload2 dX9_draw_38 ?_
  refine e_iret dX9_draw_39 ?_
  exact ⟨up_a _ _ _, rfl⟩
end MKEEP
