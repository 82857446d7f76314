/-! STEPS (object 25: count 1, latest 2; rows 27 + q; the image's: 57, 59 + q) -/
def hsF (M : Mem) (R n : Nat) : Mem := fun o k => if o = R ∧ 8 ≤ k ∧ k < 8 + 3 * n then (if (k - 8) % 3 = 0 then M 3 ((k - 8) / 3) else if (k - 8) % 3 = 1 then M 4 ((k - 8) / 3) else M 5 ((k - 8) / 3)) else M o k
theorem hsF_0 (M : Mem) (R : Nat) : hsF M R 0 = M := by
  funext o k
  unfold hsF
  rw [if_neg (by omega)]
theorem hsF_s {M : Mem} {R n : Nat} (h : 27 ≤ R) : up (up (up (hsF M R n) R (8 + 3 * n) (M 3 n)) R (8 + 3 * n + 1) (M 4 n)) R (8 + 3 * n + 2) (M 5 n) = hsF M R (n + 1) := by
  funext o k
  simp only [up, hsF]
  by_cases ho : o = R
  · subst ho
    by_cases h1 : k = 8 + 3 * n + 2
    · subst h1
      rw [if_pos (show o = o ∧ 8 + 3 * n + 2 = 8 + 3 * n + 2 from ⟨rfl, rfl⟩), if_pos (show o = o ∧ 8 ≤ 8 + 3 * n + 2 ∧ 8 + 3 * n + 2 < 8 + 3 * (n + 1) from ⟨rfl, by omega, by omega⟩), if_neg (by omega), if_neg (by omega)]
      congr 1; omega
    · by_cases h2 : k = 8 + 3 * n + 1
      · subst h2
        rw [if_neg (fun z => h1 z.2), if_pos (show o = o ∧ 8 + 3 * n + 1 = 8 + 3 * n + 1 from ⟨rfl, rfl⟩), if_pos (show o = o ∧ 8 ≤ 8 + 3 * n + 1 ∧ 8 + 3 * n + 1 < 8 + 3 * (n + 1) from ⟨rfl, by omega, by omega⟩), if_neg (by omega), if_pos (by omega)]
        congr 1; omega
      · by_cases h3 : k = 8 + 3 * n
        · subst h3
          simp [show (3 * n) % 3 = 0 by omega, show 8 + 3 * n < 8 + 3 * (n + 1) by omega]
        · by_cases h4 : 8 ≤ k ∧ k < 8 + 3 * n
          · simp [h1, h2, h3, h4, show k < 8 + 3 * (n + 1) by omega]
          · have h5 : ¬ (8 ≤ k ∧ k < 8 + 3 * (n + 1)) := by omega
            simp [h1, h2, h3, h4, h5]
  · simp [ho]
theorem hsF_o {M : Mem} {R n o : Nat} (h : o ≠ R) : hsF M R n o = M o := by
  funext k
  unfold hsF
  rw [if_neg (fun q => h q.1)]
def kp1 (M : Mem) (q : Nat) (c i : Int) : Mem := up (up (up (up (up (up M 25 2 q) 25 1 (min 30 (M 25 1 + 1))) (27 + q) 0 (M 1 12)) (27 + q) 1 (M 1 13)) (27 + q) 2 c) (27 + q) 6 i
def kp2 (M : Mem) (q : Nat) (c i : Int) : Mem := if isC M c then up (up (up (kp1 M q c i) (27 + q) 3 (M 8 c.toNat)) (27 + q) 4 (M 9 c.toNat)) (27 + q) 5 (M 10 c.toNat) else kp1 M q c i
def kp3 (M : Mem) (q : Nat) (c i : Int) : Mem := up (kp2 M q c i) (27 + q) 7 (M 1 0)
def keepM (M : Mem) (q : Nat) (c i : Int) : Mem := hsF (kp3 M q c i) (27 + q) (M 1 0).toNat
theorem kp1_o {M : Mem} {q : Nat} {c i : Int} {o : Nat} (h : o ≠ 25) (h2 : o ≠ 27 + q) : kp1 M q c i o = M o := by
  unfold kp1
  rw [up_row h2, up_row h2, up_row h2, up_row h2, up_row h, up_row h]
theorem kp2_o {M : Mem} {q : Nat} {c i : Int} {o : Nat} (h : o ≠ 25) (h2 : o ≠ 27 + q) : kp2 M q c i o = M o := by
  unfold kp2
  split
  · rw [up_row h2, up_row h2, up_row h2, kp1_o h h2]
  · exact kp1_o h h2
theorem kp3_o {M : Mem} {q : Nat} {c i : Int} {o : Nat} (h : o ≠ 25) (h2 : o ≠ 27 + q) : kp3 M q c i o = M o := by
  unfold kp3
  rw [up_row h2, kp2_o h h2]
theorem keepM_o {M : Mem} {q : Nat} {c i : Int} {o : Nat} (h : o ≠ 25) (h2 : o ≠ 27 + q) : keepM M q c i o = M o := by
  unfold keepM
  rw [hsF_o h2, kp3_o h h2]
def tbF (M : Mem) (R n : Nat) : Mem := fun o k => if o = 3 ∧ k < n then M R (8 + 3 * k) else if o = 4 ∧ k < n then M R (8 + 3 * k + 1) else if o = 5 ∧ k < n then M R (8 + 3 * k + 2) else M o k
theorem tbF_0 (M : Mem) (R : Nat) : tbF M R 0 = M := by
  funext o k
  simp [tbF]
theorem tbF_s {M : Mem} {R n : Nat} (h : 27 ≤ R) : up (up (up (tbF M R n) 3 n (M R (8 + 3 * n))) 4 n (M R (8 + 3 * n + 1))) 5 n (M R (8 + 3 * n + 2)) = tbF M R (n + 1) := by
  funext o k
  simp only [up, tbF]
  by_cases hk : k = n
  · subst hk
    by_cases h3 : o = 3
    · subst h3; simp
    · by_cases h4 : o = 4
      · subst h4; simp
      · by_cases h5 : o = 5
        · subst h5; simp
        · simp [h3, h4, h5]
  · have e : (k < n + 1) = (k < n) := by apply propext; omega
    simp [hk, e]
theorem tbF_o {M : Mem} {R n o : Nat} (h3 : o ≠ 3) (h4 : o ≠ 4) (h5 : o ≠ 5) : tbF M R n o = M o := by
  funext k
  simp [tbF, h3, h4, h5]
def sO (M : Mem) (c i : Int) : Mem := if isIn M c i then up M 11 (c * 12 + i).toNat (-1) else M
def tb1 (M : Mem) (q : Nat) : Mem := up (up (up (up M 25 2 (((q : Int) + 29) % 30)) 25 1 (M 25 1 - 1)) 1 12 (M (27 + q) 0)) 1 13 (M (27 + q) 1)
def tb2 (M : Mem) (q : Nat) : Mem := if isC M (M (27 + q) 2) then sO (up (up (up (tb1 M q) 8 (M (27 + q) 2).toNat (M (27 + q) 3)) 9 (M (27 + q) 2).toNat (M (27 + q) 4)) 10 (M (27 + q) 2).toNat (M (27 + q) 5)) (M (27 + q) 2) (M (27 + q) 6) else tb1 M q
def tbM (M : Mem) (q : Nat) : Mem := tbF (tb2 M q) (27 + q) (min (M (27 + q) 7) (M 1 0)).toNat
theorem tb1_o {M : Mem} {q o : Nat} (h : o ≠ 25) (h2 : o ≠ 1) : tb1 M q o = M o := by
  unfold tb1
  rw [up_row h2, up_row h2, up_row h, up_row h]
theorem tb1_1 {M : Mem} {q k : Nat} (h : k ≠ 12) (h2 : k ≠ 13) : tb1 M q 1 k = M 1 k := by
  simp [tb1, up, h, h2]
theorem sO_o {M : Mem} {c i : Int} {o : Nat} (h : o ≠ 11) : sO M c i o = M o := by
  unfold sO
  split
  · exact up_row h
  · rfl
theorem tb2_o {M : Mem} {q o : Nat} (h : o ≠ 25) (h2 : o ≠ 1) (h8 : o ≠ 8) (h9 : o ≠ 9) (h10 : o ≠ 10) (h11 : o ≠ 11) : tb2 M q o = M o := by
  unfold tb2
  split
  · rw [sO_o h11, up_row h10, up_row h9, up_row h8, tb1_o h h2]
  · exact tb1_o h h2
theorem tb2_1 {M : Mem} {q : Nat} : tb2 M q 1 = tb1 M q 1 := by
  unfold tb2
  split
  · rw [sO_o (by decide), up_row (by decide), up_row (by decide), up_row (by decide)]
  · rfl
section STP
variable {l : Launch} {w : Wd} {d : Nat} {M : Mem} {Q : Option MV → Mem → Prop}
theorem lp_X4_keep (hd : 1 ≤ d) {q : Nat} (hq : q < 30) {B : Mem} (h0 : 0 ≤ B 1 0 ∧ B 1 0 ≤ 8) {c i : Int} (k : ∀ x5 x6 : Option MV, WM l w RX4 cX4_keep 7 none d Q 185 [some (vR 25), some (vR 1), some (vI c), some (vI i), some (vR (27 + q)), x5, x6] [] (hsF B (27 + q) (B 1 0).toNat)) :
    ∀ (n a : Nat) (x6 : Option MV), a + n = (B 1 0).toNat → WM l w RX4 cX4_keep 7 none d Q 121 [some (vR 25), some (vR 1), some (vI c), some (vI i), some (vR (27 + q)), some (vI a), x6] [] (hsF B (27 + q) a) := by
  have e1 : ∀ a, hsF B (27 + q) a 1 = B 1 := fun a => hsF_o (by omega)
  have e3 : ∀ a, hsF B (27 + q) a 3 = B 3 := fun a => hsF_o (by omega)
  have e4 : ∀ a, hsF B (27 + q) a 4 = B 4 := fun a => hsF_o (by omega)
  have e5 : ∀ a, hsF B (27 + q) a 5 = B 5 := fun a => hsF_o (by omega)
  intro n
  induction n with
  | zero =>
    intro a x6 ha
    have e : a = (B 1 0).toNat := by omega
    refine e_iload5 dX4_keep_121 ?_
    refine e_aload1 dX4_keep_123 ?_
    refine e_getI fl_X4_51 la_1 rfl dX4_keep_124 ?_
    refine WW.ec (y := B 1 0) (by rw [e1]) ?_
    refine e_icmp_ge (tgt := 185) dX4_keep_127 (by decide) (fun h127 => ?_) (fun h => absurd h (by omega))
    subst e
    exact k _ _
  | succ n ih =>
    intro a x6 ha
    refine e_iload5 dX4_keep_121 ?_
    refine e_aload1 dX4_keep_123 ?_
    refine e_getI fl_X4_51 la_1 rfl dX4_keep_124 ?_
    refine WW.ec (y := B 1 0) (by rw [e1]) ?_
    refine e_icmp_ge (tgt := 185) dX4_keep_127 (by decide) (fun h => absurd h (by omega)) (fun h127 => ?_)
    refine e_bipush dX4_keep_130 rfl kb_8 ?_
    refine e_iload5 dX4_keep_132 ?_
    refine e_iconst dX4_keep_134 rfl kc_3 ?_
    refine e_imul dX4_keep_135 (⟨by omega, by omega⟩) ?_
    refine e_iadd dX4_keep_136 (⟨by omega, by omega⟩) ?_
    refine e_istore6 dX4_keep_137 rfl ?_
    refine e_aload4 dX4_keep_139 ?_
    refine e_iload6 dX4_keep_141 ?_
    refine e_aload1 dX4_keep_143 ?_
    refine e_getR fl_X4_54 la_1 rfl dX4_keep_144 ?_
    refine e_iload5 dX4_keep_147 ?_
    refine e_iald la_3 (⟨by omega, by omega⟩) dX4_keep_149 ?_
    refine WW.ec (y := B 3 a) (by rw [e3, Int.toNat_natCast]) ?_
    refine e_iast (la_steps hq) (⟨by omega, by omega⟩) dX4_keep_150 ?_
    refine e_aload4 dX4_keep_151 ?_
    refine e_iload6 dX4_keep_153 ?_
    refine e_iconst dX4_keep_155 rfl kc_1 ?_
    refine e_iadd dX4_keep_156 (⟨by omega, by omega⟩) ?_
    refine e_aload1 dX4_keep_157 ?_
    refine e_getR fl_X4_57 la_1 rfl dX4_keep_158 ?_
    refine e_iload5 dX4_keep_161 ?_
    refine e_iald la_4 (⟨by omega, by omega⟩) dX4_keep_163 ?_
    refine WW.ec (y := B 4 a) (by rw [up_row (by omega), e4, Int.toNat_natCast]) ?_
    refine e_iast (la_steps hq) (⟨by omega, by omega⟩) dX4_keep_164 ?_
    refine e_aload4 dX4_keep_165 ?_
    refine e_iload6 dX4_keep_167 ?_
    refine e_iconst dX4_keep_169 rfl kc_2 ?_
    refine e_iadd dX4_keep_170 (⟨by omega, by omega⟩) ?_
    refine e_aload1 dX4_keep_171 ?_
    refine e_getR fl_X4_60 la_1 rfl dX4_keep_172 ?_
    refine e_iload5 dX4_keep_175 ?_
    refine e_iald la_5 (⟨by omega, by omega⟩) dX4_keep_177 ?_
    refine WW.ec (y := B 5 a) (by rw [up_row (by omega), up_row (by omega), e5, Int.toNat_natCast]) ?_
    refine e_iast (la_steps hq) (⟨by omega, by omega⟩) dX4_keep_178 ?_
    refine e_iinc5 dX4_keep_179 rfl (⟨by omega, by omega⟩) rfl ?_
    refine e_goto (tgt := 121) dX4_keep_182 (by decide) ?_
    refine WW.cv rfl rfl ?_ (ih (a + 1) _ (by omega))
    rw [← hsF_s (by omega), show (8 + (a : Int) * 3).toNat = 8 + 3 * a by omega, show (8 + (a : Int) * 3 + 1).toNat = 8 + 3 * a + 1 by omega, show (8 + (a : Int) * 3 + 2).toNat = 8 + 3 * a + 2 by omega]
theorem ct_X4_keep (hd : 2 ≤ d) (hI : IB M) {q : Nat} (hq : q < 30) (hl : 0 ≤ M 25 2 ∧ M 25 2 < 30) (hc : 0 ≤ M 25 1 ∧ M 25 1 ≤ 30) (hq1 : (M 25 2 + 1) % 30 = q) {c i : Int} : PV l w yX4_keep cX4_keep 7 d [vR 25, vR 1, vI c, vI i] M (keepM M q c i) := by
  have hb := hI.2.1
  have hend : ∀ (M1 : Mem), M1 = kp2 M q c i → WM l w RX4 cX4_keep 7 none d (fun r M' => M' = keepM M q c i ∧ r = none) 109 [some (vR 25), some (vR 1), some (vI c), some (vI i), some (vR (27 + q)), none, none] [] M1 := by
    intro M1 hM1
    subst hM1
    have e1 : kp2 M q c i 1 0 = M 1 0 := by rw [kp2_o (by decide) (by omega)]
    have e2 : kp3 M q c i 1 0 = M 1 0 := by rw [kp3_o (by decide) (by omega)]
    refine e_aload4 dX4_keep_109 ?_
    refine e_bipush dX4_keep_111 rfl kb_7 ?_
    refine e_aload1 dX4_keep_113 ?_
    refine e_getI fl_X4_51 la_1 rfl dX4_keep_114 ?_
    refine WW.ec (y := M 1 0) (e1) ?_
    refine e_iast (la_steps hq) (⟨by omega, by omega⟩) dX4_keep_117 ?_
    refine e_iconst dX4_keep_118 rfl kc_0 ?_
    refine e_istore5 dX4_keep_119 rfl ?_
    refine WW.cv rfl rfl (M' := hsF (kp3 M q c i) (27 + q) 0) (by rw [hsF_0]; rfl) (lp_X4_keep (by omega) hq (by rw [e2]; exact hI.1) (fun x5 x6 => ?_) (M 1 0).toNat 0 _ (by rw [e2]; omega))
    refine e_vret dX4_keep_185 ⟨?_, rfl⟩
    rw [e2]; rfl
  refine MT.of [some (vR 25), some (vR 1), some (vI c), some (vI i), none, none, none] ⟨by decide, rfl⟩ rfl (Nat.le_of_ble_eq_true rfl) (fun hA hM => ?_)
  refine e_aload1 dX4_keep_0 ?_
  refine e_ifnonnull (tgt := 5) dX4_keep_1 (by decide) ?_
  refine e_aload0 dX4_keep_5 ?_
  refine e_aload0 dX4_keep_6 ?_
  refine e_getI fl_X4_20 la_25 rfl dX4_keep_7 ?_
  refine e_iconst dX4_keep_10 rfl kc_1 ?_
  refine e_iadd dX4_keep_11 (⟨by omega, by omega⟩) ?_
  refine e_bipush dX4_keep_12 rfl kb_30 ?_
  refine e_irem dX4_keep_14 (by omega) (tmodR (by omega) (by omega) (by omega)) ?_
  refine WW.ec (y := (q : Int)) (by rw [Int.tmod_eq_emod_of_nonneg (by omega)]; exact hq1) ?_
  refine e_putI fp_X4_20 la_25 rfl dX4_keep_15 ?_
  refine e_aload0 dX4_keep_18 ?_
  refine e_bipush dX4_keep_19 rfl kb_30 ?_
  refine e_aload0 dX4_keep_21 ?_
  refine e_getI fl_X4_16 la_25 rfl dX4_keep_22 ?_
  refine WW.ec (y := M 25 1) (by simp [up]) ?_
  refine e_iconst dX4_keep_25 rfl kc_1 ?_
  refine e_iadd dX4_keep_26 (⟨by omega, by omega⟩) ?_
  refine e_mmin ml9_X4_23 (rok1 (by omega)) rfl dX4_keep_27 ?_
  refine e_putI fp_X4_16 la_25 rfl dX4_keep_30 ?_
  refine e_aload0 dX4_keep_33 ?_
  refine e_getR fl_X4_13 la_25 rfl dX4_keep_34 ?_
  refine e_aload0 dX4_keep_37 ?_
  refine e_getI fl_X4_20 la_25 rfl dX4_keep_38 ?_
  refine WW.ec (y := (q : Int)) (by simp [up]) ?_
  refine e_aaldR la_26 (⟨by omega, by omega⟩) dX4_keep_41 ?_
  refine e_astore4 dX4_keep_42 rfl ?_
  refine WW.cv (L' := [some (vR 25), some (vR 1), some (vI c), some (vI i), some (vR (27 + q)), none, none]) (by simp) rfl rfl ?_
  refine e_aload4 dX4_keep_44 ?_
  refine e_iconst dX4_keep_46 rfl kc_0 ?_
  refine e_aload1 dX4_keep_47 ?_
  refine e_getI fl_X4_29 la_1 rfl dX4_keep_48 ?_
  refine WW.ec (y := M 1 12) (by simp [up]) ?_
  refine e_iast (la_steps hq) (⟨by omega, by omega⟩) dX4_keep_51 ?_
  refine e_aload4 dX4_keep_52 ?_
  refine e_iconst dX4_keep_54 rfl kc_1 ?_
  refine e_aload1 dX4_keep_55 ?_
  refine e_getI fl_X4_34 la_1 rfl dX4_keep_56 ?_
  refine WW.ec (y := M 1 13) (by rw [up_row (by omega)]; simp [up]) ?_
  refine e_iast (la_steps hq) (⟨by omega, by omega⟩) dX4_keep_59 ?_
  refine e_aload4 dX4_keep_60 ?_
  refine e_iconst dX4_keep_62 rfl kc_2 ?_
  refine e_iload2 dX4_keep_63 ?_
  refine e_iast (la_steps hq) (⟨by omega, by omega⟩) dX4_keep_64 ?_
  refine e_aload4 dX4_keep_65 ?_
  refine e_bipush dX4_keep_67 rfl kb_6 ?_
  refine e_iload3 dX4_keep_69 ?_
  refine e_iast (la_steps hq) (⟨by omega, by omega⟩) dX4_keep_70 ?_
  refine e_aload1 dX4_keep_71 ?_
  refine e_iload2 dX4_keep_72 ?_
  refine e_cVZ (ct_X0_isCandle (d := d - 1) (by omega)) cy_X0_isCandle cv_X0_isCandle ml_X4_37 la_1 rfl rfl rfl (rok (by omega) (by decide)) (Nat.le_of_ble_eq_true rfl) dX4_keep_73 (fun g73 => ?_) (fun g73 => ?_)
  · have hcc : isC (kp1 M q c i) c ↔ isC M c := by unfold isC; rw [kp1_o (by decide) (by omega)]
    first | replace g73 : isC M c := hcc.mp g73 | replace g73 : ¬ isC M c := fun z => g73 (hcc.mpr z)
    refine WW.cv (M' := kp1 M q c i) rfl rfl rfl ?_
    refine e_if_eq (tgt := 109) dX4_keep_76 (by decide) (fun h => absurd h (by decide)) (fun _ => ?_)
    refine e_aload4 dX4_keep_79 ?_
    refine e_iconst dX4_keep_81 rfl kc_3 ?_
    refine e_aload1 dX4_keep_82 ?_
    refine e_getR fl_X4_41 la_1 rfl dX4_keep_83 ?_
    refine e_iload2 dX4_keep_86 ?_
    refine e_iald la_8 (⟨by omega, by omega⟩) dX4_keep_87 ?_
    refine WW.ec (y := M 8 c.toNat) (by rw [kp1_o (by decide) (by omega)]) ?_
    refine e_iast (la_steps hq) (⟨by omega, by omega⟩) dX4_keep_88 ?_
    refine e_aload4 dX4_keep_89 ?_
    refine e_iconst dX4_keep_91 rfl kc_4 ?_
    refine e_aload1 dX4_keep_92 ?_
    refine e_getR fl_X4_45 la_1 rfl dX4_keep_93 ?_
    refine e_iload2 dX4_keep_96 ?_
    refine e_iald la_9 (⟨by omega, by omega⟩) dX4_keep_97 ?_
    refine WW.ec (y := M 9 c.toNat) (by rw [up_row (by omega), kp1_o (by decide) (by omega)]) ?_
    refine e_iast (la_steps hq) (⟨by omega, by omega⟩) dX4_keep_98 ?_
    refine e_aload4 dX4_keep_99 ?_
    refine e_iconst dX4_keep_101 rfl kc_5 ?_
    refine e_aload1 dX4_keep_102 ?_
    refine e_getR fl_X4_48 la_1 rfl dX4_keep_103 ?_
    refine e_iload2 dX4_keep_106 ?_
    refine e_iald la_10 (⟨by omega, by omega⟩) dX4_keep_107 ?_
    refine WW.ec (y := M 10 c.toNat) (by rw [up_row (by omega), up_row (by omega), kp1_o (by decide) (by omega)]) ?_
    refine e_iast (la_steps hq) (⟨by omega, by omega⟩) dX4_keep_108 ?_
    refine hend _ ?_
    first | (rw [kp2, if_pos g73]; rfl) | (rw [kp2, if_neg g73])
  · have hcc : isC (kp1 M q c i) c ↔ isC M c := by unfold isC; rw [kp1_o (by decide) (by omega)]
    first | replace g73 : isC M c := hcc.mp g73 | replace g73 : ¬ isC M c := fun z => g73 (hcc.mpr z)
    refine WW.cv (M' := kp1 M q c i) rfl rfl rfl ?_
    refine e_if_eq (tgt := 109) dX4_keep_76 (by decide) (fun _ => ?_) (fun h => absurd h (by decide))
    refine hend _ ?_
    first | (rw [kp2, if_pos g73]; rfl) | (rw [kp2, if_neg g73])
end STP
