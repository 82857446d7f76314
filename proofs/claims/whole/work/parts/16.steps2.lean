section STP2
variable {l : Launch} {w : Wd} {d : Nat} {M : Mem} {Q : Option MV → Mem → Prop}
theorem lp_X4_takeBack (hd : 2 ≤ d) {q : Nat} (hq : q < 30) {B : Mem} (h0 : 0 ≤ B 1 0 ∧ B 1 0 ≤ 8) {c : Int} (k : ∀ x4 x5 : Option MV, WM l w RX4 cX4_takeBack 6 (some .boolean) d Q 202 [some (vR 25), some (vR 1), some (vR (27 + q)), some (vI c), x4, x5] [] (tbF B (27 + q) (min (B (27 + q) 7) (B 1 0)).toNat)) :
    ∀ (n a : Nat) (x5 : Option MV), a + n = (min (B (27 + q) 7) (B 1 0)).toNat → WM l w RX4 cX4_takeBack 6 (some .boolean) d Q 132 [some (vR 25), some (vR 1), some (vR (27 + q)), some (vI c), some (vI a), x5] [] (tbF B (27 + q) a) := by
  have e1 : ∀ a, tbF B (27 + q) a 1 = B 1 := fun a => tbF_o (by decide) (by decide) (by decide)
  have eR : ∀ a, tbF B (27 + q) a (27 + q) = B (27 + q) := fun a => tbF_o (by omega) (by omega) (by omega)
  have hcv : ∀ (a : Nat), isH (tbF B (27 + q) a) a ↔ (a : Int) < B 1 0 := fun a => by unfold isH; rw [e1]; omega
  intro n
  induction n with
  | zero =>
    intro a x5 ha
    have e : a = (min (B (27 + q) 7) (B 1 0)).toNat := by omega
    refine e_iload4 dX4_takeBack_132 ?_
    refine e_aload2 dX4_takeBack_134 ?_
    refine e_bipush dX4_takeBack_135 rfl kb_7 ?_
    refine e_iald (la_steps hq) (⟨by omega, by omega⟩) dX4_takeBack_137 ?_
    refine WW.ec (y := B (27 + q) 7) (by rw [eR]; rfl) ?_
    refine e_icmp_ge (tgt := 202) dX4_takeBack_138 (by decide) (fun h138 => ?_) (fun h138 => ?_)
    · subst e
      exact k _ _
    · refine e_aload1 dX4_takeBack_141 ?_
      refine e_iload4 dX4_takeBack_142 ?_
      refine e_cVZ (ct_X0_isHouse (d := d - 1) (by omega)) cy_X0_isHouse cv_X0_isHouse ml_X4_67 la_1 rfl rfl rfl (rok (by omega) (by decide)) (Nat.le_of_ble_eq_true rfl) dX4_takeBack_144 (fun g144 => ?_) (fun g144 => ?_)
      · refine e_if_eq (tgt := 202) dX4_takeBack_147 (by decide) (fun h => absurd h (by decide)) (fun _ => ?_)
        exfalso
        have := (hcv a).mp g144
        omega
      · refine e_if_eq (tgt := 202) dX4_takeBack_147 (by decide) (fun _ => ?_) (fun h => absurd h (by decide))
        subst e
        exact k _ _
  | succ n ih =>
    intro a x5 ha
    refine e_iload4 dX4_takeBack_132 ?_
    refine e_aload2 dX4_takeBack_134 ?_
    refine e_bipush dX4_takeBack_135 rfl kb_7 ?_
    refine e_iald (la_steps hq) (⟨by omega, by omega⟩) dX4_takeBack_137 ?_
    refine WW.ec (y := B (27 + q) 7) (by rw [eR]; rfl) ?_
    refine e_icmp_ge (tgt := 202) dX4_takeBack_138 (by decide) (fun h => absurd h (by omega)) (fun h138 => ?_)
    refine e_aload1 dX4_takeBack_141 ?_
    refine e_iload4 dX4_takeBack_142 ?_
    refine e_cVZ (ct_X0_isHouse (d := d - 1) (by omega)) cy_X0_isHouse cv_X0_isHouse ml_X4_67 la_1 rfl rfl rfl (rok (by omega) (by decide)) (Nat.le_of_ble_eq_true rfl) dX4_takeBack_144 (fun g144 => ?_) (fun g144 => ?_)
    · refine e_if_eq (tgt := 202) dX4_takeBack_147 (by decide) (fun h => absurd h (by decide)) (fun _ => ?_)
      refine e_bipush dX4_takeBack_150 rfl kb_8 ?_
      refine e_iload4 dX4_takeBack_152 ?_
      refine e_iconst dX4_takeBack_154 rfl kc_3 ?_
      refine e_imul dX4_takeBack_155 (⟨by omega, by omega⟩) ?_
      refine e_iadd dX4_takeBack_156 (⟨by omega, by omega⟩) ?_
      refine e_istore5 dX4_takeBack_157 rfl ?_
      refine e_aload1 dX4_takeBack_159 ?_
      refine e_getR fl_X4_54 la_1 rfl dX4_takeBack_160 ?_
      refine e_iload4 dX4_takeBack_163 ?_
      refine e_aload2 dX4_takeBack_165 ?_
      refine e_iload5 dX4_takeBack_166 ?_
      refine e_iald (la_steps hq) (⟨by omega, by omega⟩) dX4_takeBack_168 ?_
      refine WW.ec (y := B (27 + q) (8 + 3 * a)) (by rw [eR, show (8 + (a : Int) * 3).toNat = 8 + 3 * a by omega]) ?_
      refine e_iast la_3 (⟨by omega, by omega⟩) dX4_takeBack_169 ?_
      refine e_aload1 dX4_takeBack_170 ?_
      refine e_getR fl_X4_57 la_1 rfl dX4_takeBack_171 ?_
      refine e_iload4 dX4_takeBack_174 ?_
      refine e_aload2 dX4_takeBack_176 ?_
      refine e_iload5 dX4_takeBack_177 ?_
      refine e_iconst dX4_takeBack_179 rfl kc_1 ?_
      refine e_iadd dX4_takeBack_180 (⟨by omega, by omega⟩) ?_
      refine e_iald (la_steps hq) (⟨by omega, by omega⟩) dX4_takeBack_181 ?_
      refine WW.ec (y := B (27 + q) (8 + 3 * a + 1)) (by rw [up_row (by omega), eR, show (8 + (a : Int) * 3 + 1).toNat = 8 + 3 * a + 1 by omega]) ?_
      refine e_iast la_4 (⟨by omega, by omega⟩) dX4_takeBack_182 ?_
      refine e_aload1 dX4_takeBack_183 ?_
      refine e_getR fl_X4_60 la_1 rfl dX4_takeBack_184 ?_
      refine e_iload4 dX4_takeBack_187 ?_
      refine e_aload2 dX4_takeBack_189 ?_
      refine e_iload5 dX4_takeBack_190 ?_
      refine e_iconst dX4_takeBack_192 rfl kc_2 ?_
      refine e_iadd dX4_takeBack_193 (⟨by omega, by omega⟩) ?_
      refine e_iald (la_steps hq) (⟨by omega, by omega⟩) dX4_takeBack_194 ?_
      refine WW.ec (y := B (27 + q) (8 + 3 * a + 2)) (by rw [up_row (by omega), up_row (by omega), eR, show (8 + (a : Int) * 3 + 2).toNat = 8 + 3 * a + 2 by omega]) ?_
      refine e_iast la_5 (⟨by omega, by omega⟩) dX4_takeBack_195 ?_
      refine e_iinc4 dX4_takeBack_196 rfl (⟨by omega, by omega⟩) rfl ?_
      refine e_goto (tgt := 132) dX4_takeBack_199 (by decide) ?_
      refine WW.cv rfl rfl ?_ (ih (a + 1) _ (by omega))
      rw [← tbF_s (by omega), Int.toNat_natCast]
    · refine e_if_eq (tgt := 202) dX4_takeBack_147 (by decide) (fun _ => ?_) (fun h => absurd h (by decide))
      exfalso
      exact g144 ((hcv a).mpr (by omega))
theorem ct_X4_takeBack0 (hd : 1 ≤ d) (hc : M 25 1 < 1) : PZ l w yX4_takeBack cX4_takeBack 6 d [vR 25, vR 1] M False := by
  refine MT.of [some (vR 25), some (vR 1), none, none, none, none] ⟨by decide, rfl⟩ rfl (Nat.le_of_ble_eq_true rfl) (fun hA hM => ?_)
  refine e_aload1 dX4_takeBack_0 ?_
  refine e_ifnull dX4_takeBack_1 ?_
  refine e_aload0 dX4_takeBack_4 ?_
  refine e_getI fl_X4_16 la_25 rfl dX4_takeBack_5 ?_
  refine e_iconst dX4_takeBack_8 rfl kc_1 ?_
  refine e_icmp_lt (tgt := 28) dX4_takeBack_9 (by decide) (fun h9 => ?_) (fun h => absurd h (by omega))
  refine e_iconst dX4_takeBack_28 rfl kc_0 ?_
  refine e_zret dX4_takeBack_29 (by decide) ?_
  exact ⟨rfl, Or.inr ⟨rfl, (fun h => h)⟩⟩
theorem ct_X4_takeBack1 (hd : 4 ≤ d) (hI : IB M) {q : Nat} (hq : q < 30) (hl : M 25 2 = q) (hc : 1 ≤ M 25 1 ∧ M 25 1 ≤ 30) : GI l w yX4_takeBack cX4_takeBack 6 .boolean d [vR 25, vR 1] M (fun x M1 => x = 1 ∧ M1 = tbM M q) := by
  have hb := hI.2.1
  have hend : ∀ (M1 : Mem) (c : Int), M1 = tb2 M q → WM l w RX4 cX4_takeBack 6 (some .boolean) d (fun r M' => ∃ x, r = some (vI x) ∧ x = 1 ∧ M' = tbM M q) 129 [some (vR 25), some (vR 1), some (vR (27 + q)), some (vI c), none, none] [] M1 := by
    intro M1 c hM1
    subst hM1
    have e1 : tb2 M q 1 0 = M 1 0 := by rw [tb2_1, tb1_1 (by decide) (by decide)]
    have eR : tb2 M q (27 + q) 7 = M (27 + q) 7 := by rw [tb2_o (by omega) (by omega) (by omega) (by omega) (by omega) (by omega)]
    refine e_iconst dX4_takeBack_129 rfl kc_0 ?_
    refine e_istore4 dX4_takeBack_130 rfl ?_
    refine WW.cv rfl rfl (M' := tbF (tb2 M q) (27 + q) 0) (by rw [tbF_0]) (lp_X4_takeBack (by omega) hq (by rw [e1]; exact hI.1) (fun x4 x5 => ?_) (min (M (27 + q) 7) (M 1 0)).toNat 0 _ (by rw [e1, eR]; omega))
    refine e_iconst dX4_takeBack_202 rfl kc_1 ?_
    refine e_zret dX4_takeBack_203 (Or.inr rfl) ⟨_, rfl, rfl, ?_⟩
    rw [e1, eR]; rfl
  refine MT.of [some (vR 25), some (vR 1), none, none, none, none] ⟨by decide, rfl⟩ rfl (Nat.le_of_ble_eq_true rfl) (fun hA hM => ?_)
  refine e_aload1 dX4_takeBack_0 ?_
  refine e_ifnull dX4_takeBack_1 ?_
  refine e_aload0 dX4_takeBack_4 ?_
  refine e_getI fl_X4_16 la_25 rfl dX4_takeBack_5 ?_
  refine e_iconst dX4_takeBack_8 rfl kc_1 ?_
  refine e_icmp_lt (tgt := 28) dX4_takeBack_9 (by decide) (fun h => absurd h (by omega)) (fun h9 => ?_)
  refine e_aload0 dX4_takeBack_12 ?_
  refine e_getI fl_X4_20 la_25 rfl dX4_takeBack_13 ?_
  refine e_if_lt (tgt := 28) dX4_takeBack_16 (by decide) (fun h => absurd h (by omega)) (fun h16 => ?_)
  refine e_aload0 dX4_takeBack_19 ?_
  refine e_getI fl_X4_20 la_25 rfl dX4_takeBack_20 ?_
  refine e_bipush dX4_takeBack_23 rfl kb_30 ?_
  refine e_icmp_lt (tgt := 30) dX4_takeBack_25 (by decide) (fun h25 => ?_) (fun h => absurd h (by omega))
  refine e_aload0 dX4_takeBack_30 ?_
  refine e_getR fl_X4_13 la_25 rfl dX4_takeBack_31 ?_
  refine e_aload0 dX4_takeBack_34 ?_
  refine e_getI fl_X4_20 la_25 rfl dX4_takeBack_35 ?_
  refine WW.ec (y := (q : Int)) (hl) ?_
  refine e_aaldR la_26 (⟨by omega, by omega⟩) dX4_takeBack_38 ?_
  refine e_astore2 dX4_takeBack_39 rfl ?_
  refine WW.cv (L' := [some (vR 25), some (vR 1), some (vR (27 + q)), none, none, none]) (by simp) rfl rfl ?_
  refine e_aload0 dX4_takeBack_40 ?_
  refine e_aload0 dX4_takeBack_41 ?_
  refine e_getI fl_X4_20 la_25 rfl dX4_takeBack_42 ?_
  refine WW.ec (y := (q : Int)) (hl) ?_
  refine e_bipush dX4_takeBack_45 rfl kb_30 ?_
  refine e_iadd dX4_takeBack_47 (⟨by omega, by omega⟩) ?_
  refine e_iconst dX4_takeBack_48 rfl kc_1 ?_
  refine e_isub dX4_takeBack_49 (⟨by omega, by omega⟩) ?_
  refine e_bipush dX4_takeBack_50 rfl kb_30 ?_
  refine e_irem dX4_takeBack_52 (by omega) (tmodR (by omega) (by omega) (by omega)) ?_
  refine WW.ec (y := ((q : Int) + 29) % 30) (by rw [Int.tmod_eq_emod_of_nonneg (by omega)]; congr 1; omega) ?_
  refine e_putI fp_X4_20 la_25 rfl dX4_takeBack_53 ?_
  refine e_aload0 dX4_takeBack_56 ?_
  refine e_dup dX4_takeBack_57 rfl ?_
  refine e_getI fl_X4_16 la_25 rfl dX4_takeBack_58 ?_
  refine WW.ec (y := M 25 1) (by simp [up]) ?_
  refine e_iconst dX4_takeBack_61 rfl kc_1 ?_
  refine e_isub dX4_takeBack_62 (⟨by omega, by omega⟩) ?_
  refine e_putI fp_X4_16 la_25 rfl dX4_takeBack_63 ?_
  refine e_aload1 dX4_takeBack_66 ?_
  refine e_aload2 dX4_takeBack_67 ?_
  refine e_iconst dX4_takeBack_68 rfl kc_0 ?_
  refine e_iald (la_steps hq) (⟨by omega, by omega⟩) dX4_takeBack_69 ?_
  refine WW.ec (y := M (27 + q) 0) (by rw [up_row (by omega), up_row (by omega)]; rfl) ?_
  refine e_putI fp_X4_29 la_1 rfl dX4_takeBack_70 ?_
  refine e_aload1 dX4_takeBack_73 ?_
  refine e_aload2 dX4_takeBack_74 ?_
  refine e_iconst dX4_takeBack_75 rfl kc_1 ?_
  refine e_iald (la_steps hq) (⟨by omega, by omega⟩) dX4_takeBack_76 ?_
  refine WW.ec (y := M (27 + q) 1) (by rw [up_row (by omega), up_row (by omega), up_row (by omega)]; rfl) ?_
  refine e_putI fp_X4_34 la_1 rfl dX4_takeBack_77 ?_
  refine WW.cv (M' := tb1 M q) rfl rfl rfl ?_
  refine e_aload2 dX4_takeBack_80 ?_
  refine e_iconst dX4_takeBack_81 rfl kc_2 ?_
  refine e_iald (la_steps hq) (⟨by omega, by omega⟩) dX4_takeBack_82 ?_
  refine WW.ec (y := M (27 + q) 2) (by rw [tb1_o (by omega) (by omega)]; rfl) ?_
  refine e_istore3 dX4_takeBack_83 rfl ?_
  refine e_aload1 dX4_takeBack_84 ?_
  refine e_iload3 dX4_takeBack_85 ?_
  refine e_cVZ (ct_X0_isCandle (d := d - 1) (by omega)) cy_X0_isCandle cv_X0_isCandle ml_X4_37 la_1 rfl rfl rfl (rok (by omega) (by decide)) (Nat.le_of_ble_eq_true rfl) dX4_takeBack_86 (fun g86 => ?_) (fun g86 => ?_)
  · have hcc : isC (tb1 M q) (M (27 + q) 2) ↔ isC M (M (27 + q) 2) := by unfold isC; rw [tb1_1 (by decide) (by decide)]
    first | replace g86 : isC M (M (27 + q) 2) := hcc.mp g86 | replace g86 : ¬ isC M (M (27 + q) 2) := fun z => g86 (hcc.mpr z)
    refine e_if_eq (tgt := 129) dX4_takeBack_89 (by decide) (fun h => absurd h (by decide)) (fun _ => ?_)
    refine e_aload1 dX4_takeBack_92 ?_
    refine e_getR fl_X4_41 la_1 rfl dX4_takeBack_93 ?_
    refine e_iload3 dX4_takeBack_96 ?_
    refine e_aload2 dX4_takeBack_97 ?_
    refine e_iconst dX4_takeBack_98 rfl kc_3 ?_
    refine e_iald (la_steps hq) (⟨by omega, by omega⟩) dX4_takeBack_99 ?_
    refine WW.ec (y := M (27 + q) 3) (by rw [tb1_o (by omega) (by omega)]; rfl) ?_
    refine e_iast la_8 (⟨by omega, by omega⟩) dX4_takeBack_100 ?_
    refine e_aload1 dX4_takeBack_101 ?_
    refine e_getR fl_X4_45 la_1 rfl dX4_takeBack_102 ?_
    refine e_iload3 dX4_takeBack_105 ?_
    refine e_aload2 dX4_takeBack_106 ?_
    refine e_iconst dX4_takeBack_107 rfl kc_4 ?_
    refine e_iald (la_steps hq) (⟨by omega, by omega⟩) dX4_takeBack_108 ?_
    refine WW.ec (y := M (27 + q) 4) (by rw [up_row (by omega), tb1_o (by omega) (by omega)]; rfl) ?_
    refine e_iast la_9 (⟨by omega, by omega⟩) dX4_takeBack_109 ?_
    refine e_aload1 dX4_takeBack_110 ?_
    refine e_getR fl_X4_48 la_1 rfl dX4_takeBack_111 ?_
    refine e_iload3 dX4_takeBack_114 ?_
    refine e_aload2 dX4_takeBack_115 ?_
    refine e_iconst dX4_takeBack_116 rfl kc_5 ?_
    refine e_iald (la_steps hq) (⟨by omega, by omega⟩) dX4_takeBack_117 ?_
    refine WW.ec (y := M (27 + q) 5) (by rw [up_row (by omega), up_row (by omega), tb1_o (by omega) (by omega)]; rfl) ?_
    refine e_iast la_10 (⟨by omega, by omega⟩) dX4_takeBack_118 ?_
    have hI2 : IB (up (up (up (tb1 M q) 8 (M (27 + q) 2).toNat (M (27 + q) 3)) 9 (M (27 + q) 2).toNat (M (27 + q) 4)) 10 (M (27 + q) 2).toNat (M (27 + q) 5)) := by
      refine IB.up (IB.up (IB.up ?_ (by decide) (by decide)) (by decide) (by decide)) (by decide) (by decide)
      unfold IB
      rw [tb1_1 (by decide) (by decide), tb1_1 (by decide) (by decide), tb1_o (by decide) (by decide)]
      exact hI
    refine e_aload1 dX4_takeBack_119 ?_
    refine e_iload3 dX4_takeBack_120 ?_
    refine e_aload2 dX4_takeBack_121 ?_
    refine e_bipush dX4_takeBack_122 rfl kb_6 ?_
    refine e_iald (la_steps hq) (⟨by omega, by omega⟩) dX4_takeBack_124 ?_
    refine WW.ec (y := M (27 + q) 6) (by rw [up_row (by omega), up_row (by omega), up_row (by omega), tb1_o (by omega) (by omega)]; rfl) ?_
    refine e_iconst dX4_takeBack_125 rfl kc_m1 ?_
    refine e_cVV (ct_X0_setOwner (d := d - 1) (by omega) hI2) cy_X0_setOwner cv_X0_setOwner ml_X4_63 la_1 rfl rfl rfl (rok (by omega) (by decide)) (Nat.le_of_ble_eq_true rfl) dX4_takeBack_126 ?_
    refine hend _ _ ?_
    first | (rw [tb2, if_pos g86]; rfl) | (rw [tb2, if_neg g86])
  · have hcc : isC (tb1 M q) (M (27 + q) 2) ↔ isC M (M (27 + q) 2) := by unfold isC; rw [tb1_1 (by decide) (by decide)]
    first | replace g86 : isC M (M (27 + q) 2) := hcc.mp g86 | replace g86 : ¬ isC M (M (27 + q) 2) := fun z => g86 (hcc.mpr z)
    refine e_if_eq (tgt := 129) dX4_takeBack_89 (by decide) (fun _ => ?_) (fun h => absurd h (by decide))
    refine hend _ _ ?_
    first | (rw [tb2, if_pos g86]; rfl) | (rw [tb2, if_neg g86])
/-- all thirty rows of the one over the other's -/
def cpR (M : Mem) (f t n : Nat) : Mem := fun o k => if t ≤ o ∧ o < t + n ∧ k < 32 then M (o - t + f) k else M o k
def cpP (M : Mem) (f t n m : Nat) : Mem := fun o k => if (t ≤ o ∧ o < t + n ∧ k < 32) ∨ (o = t + n ∧ k < m) then M (o - t + f) k else M o k
def cpS (M : Mem) (t f : Nat) : Mem := cpR (up (up M t 1 (M f 1)) t 2 (M f 2)) (f + 2) (t + 2) 30
theorem cpP_s {M : Mem} {f t n m : Nat} (h : f + 30 ≤ t ∨ t + 30 ≤ f) (hn : n < 30) : up (cpP M f t n m) (t + n) m (cpP M f t n m (f + n) m) = cpP M f t n (m + 1) := by
  have e0 : cpP M f t n m (f + n) m = M (f + n) m := by
    unfold cpP
    rw [if_neg (by omega)]
  rw [e0]
  funext o k
  simp only [up, cpP]
  by_cases h1 : o = t + n ∧ k = m
  · rw [if_pos h1, if_pos (by omega), h1.1, h1.2, show t + n - t + f = f + n by omega]
  · rw [if_neg h1]
    by_cases h2 : (t ≤ o ∧ o < t + n ∧ k < 32) ∨ (o = t + n ∧ k < m)
    · rw [if_pos h2, if_pos (by omega)]
    · rw [if_neg h2, if_neg (by omega)]
theorem cpP_0 (M : Mem) (f t n : Nat) : cpP M f t n 0 = cpR M f t n := by
  funext o k
  simp only [cpP, cpR]
  by_cases h : t ≤ o ∧ o < t + n ∧ k < 32
  · rw [if_pos h, if_pos (Or.inl h)]
  · rw [if_neg h, if_neg (by omega)]
theorem cpP_32 (M : Mem) (f t n : Nat) : cpP M f t n 32 = cpR M f t (n + 1) := by
  funext o k
  simp only [cpP, cpR]
  by_cases h : t ≤ o ∧ o < t + (n + 1) ∧ k < 32
  · rw [if_pos h, if_pos (by omega)]
  · rw [if_neg h, if_neg (by omega)]
theorem cpR_0 (M : Mem) (f t : Nat) : cpR M f t 0 = M := by
  funext o k
  simp only [cpR]
  rw [if_neg (by omega)]
theorem ct_X4_copy25 (hd : 1 ≤ d) : PV l w yX4_copyFrom cX4_copyFrom 4 d [vR 25, vR 57] M (cpS M 25 57) := by
  have inner : ∀ (B : Mem) (a : Nat), a < 30 → (WM l w RX4 cX4_copyFrom 4 none d (fun r M' => M' = cpS M 25 57 ∧ r = none) 59 [some (vR 25), some (vR 57), some (vI a), some (vI 32)] [] (cpP B 59 27 a 32)) → ∀ (n j : Nat), j + n = 32 → WM l w RX4 cX4_copyFrom 4 none d (fun r M' => M' = cpS M 25 57 ∧ r = none) 31 [some (vR 25), some (vR 57), some (vI a), some (vI j)] [] (cpP B 59 27 a j) := by
    intro B a ha k n
    induction n with
    | zero =>
      intro j hj
      obtain rfl : j = 32 := by omega
      refine e_iload3 dX4_copyFrom_31 ?_
      refine e_bipush dX4_copyFrom_32 rfl kb_32 ?_
      refine e_icmp_ge (tgt := 59) dX4_copyFrom_34 (by decide) (fun h34 => ?_) (fun h => absurd h (by omega))
      exact k
    | succ n ih =>
      intro j hj
      refine e_iload3 dX4_copyFrom_31 ?_
      refine e_bipush dX4_copyFrom_32 rfl kb_32 ?_
      refine e_icmp_ge (tgt := 59) dX4_copyFrom_34 (by decide) (fun h => absurd h (by omega)) (fun h34 => ?_)
      refine e_aload0 dX4_copyFrom_37 ?_
      refine e_getR fl_X4_13 la_25 rfl dX4_copyFrom_38 ?_
      refine e_iload2 dX4_copyFrom_41 ?_
      refine e_aaldR la_26 (⟨by omega, by omega⟩) dX4_copyFrom_42 ?_
      refine e_iload3 dX4_copyFrom_43 ?_
      refine e_aload1 dX4_copyFrom_44 ?_
      refine e_getR fl_X4_13 la_57 rfl dX4_copyFrom_45 ?_
      refine e_iload2 dX4_copyFrom_48 ?_
      refine e_aaldR la_58 (⟨by omega, by omega⟩) dX4_copyFrom_49 ?_
      refine e_iload3 dX4_copyFrom_50 ?_
      refine e_iald (la_KR ha) (⟨by omega, by omega⟩) dX4_copyFrom_51 ?_
      refine e_iast (la_SR ha) (⟨by omega, by omega⟩) dX4_copyFrom_52 ?_
      refine e_iinc3 dX4_copyFrom_53 rfl (⟨by omega, by omega⟩) rfl ?_
      refine e_goto (tgt := 31) dX4_copyFrom_56 (by decide) ?_
      refine WW.cv rfl rfl ?_ (ih (j + 1) (by omega))
      rw [← cpP_s (by omega) ha, Int.toNat_natCast, Int.toNat_natCast, Nat.one_mul]
  have outer : ∀ (B : Mem), cpR B 59 27 30 = cpS M 25 57 → ∀ (n a : Nat) (x3 : Option MV), a + n = 30 → WM l w RX4 cX4_copyFrom 4 none d (fun r M' => M' = cpS M 25 57 ∧ r = none) 23 [some (vR 25), some (vR 57), some (vI a), x3] [] (cpR B 59 27 a) := by
    intro B hB n
    induction n with
    | zero =>
      intro a x3 ha
      obtain rfl : a = 30 := by omega
      refine e_iload2 dX4_copyFrom_23 ?_
      refine e_bipush dX4_copyFrom_24 rfl kb_30 ?_
      refine e_icmp_ge (tgt := 65) dX4_copyFrom_26 (by decide) (fun h26 => ?_) (fun h => absurd h (by omega))
      refine e_vret dX4_copyFrom_65 ?_
      exact ⟨hB, rfl⟩
    | succ n ih =>
      intro a x3 ha
      refine e_iload2 dX4_copyFrom_23 ?_
      refine e_bipush dX4_copyFrom_24 rfl kb_30 ?_
      refine e_icmp_ge (tgt := 65) dX4_copyFrom_26 (by decide) (fun h => absurd h (by omega)) (fun h26 => ?_)
      refine e_iconst dX4_copyFrom_29 rfl kc_0 ?_
      refine e_istore3 dX4_copyFrom_30 rfl ?_
      refine WW.cv rfl rfl (cpP_0 B 59 27 a).symm (inner B a (by omega) ?_ 32 0 (by omega))
      refine e_iinc2 dX4_copyFrom_59 rfl (⟨by omega, by omega⟩) rfl ?_
      refine e_goto (tgt := 23) dX4_copyFrom_62 (by decide) ?_
      refine WW.cv rfl rfl ?_ (ih (a + 1) _ (by omega))
      exact cpP_32 B 59 27 a
  refine MT.of [some (vR 25), some (vR 57), none, none] ⟨by decide, rfl⟩ rfl (Nat.le_of_ble_eq_true rfl) (fun hA hM => ?_)
  refine e_aload1 dX4_copyFrom_0 ?_
  refine e_ifnonnull (tgt := 5) dX4_copyFrom_1 (by decide) ?_
  refine e_aload0 dX4_copyFrom_5 ?_
  refine e_aload1 dX4_copyFrom_6 ?_
  refine e_getI fl_X4_16 la_57 rfl dX4_copyFrom_7 ?_
  refine e_putI fp_X4_16 la_25 rfl dX4_copyFrom_10 ?_
  refine e_aload0 dX4_copyFrom_13 ?_
  refine e_aload1 dX4_copyFrom_14 ?_
  refine e_getI fl_X4_20 la_57 rfl dX4_copyFrom_15 ?_
  refine WW.ec (y := M 57 2) (by simp [up]) ?_
  refine e_putI fp_X4_20 la_25 rfl dX4_copyFrom_18 ?_
  refine e_iconst dX4_copyFrom_21 rfl kc_0 ?_
  refine e_istore2 dX4_copyFrom_22 rfl ?_
  refine WW.cv rfl rfl (cpR_0 _ 59 27).symm (outer _ rfl 30 0 none (by omega))
theorem ct_X4_copy57 (hd : 1 ≤ d) : PV l w yX4_copyFrom cX4_copyFrom 4 d [vR 57, vR 25] M (cpS M 57 25) := by
  have inner : ∀ (B : Mem) (a : Nat), a < 30 → (WM l w RX4 cX4_copyFrom 4 none d (fun r M' => M' = cpS M 57 25 ∧ r = none) 59 [some (vR 57), some (vR 25), some (vI a), some (vI 32)] [] (cpP B 27 59 a 32)) → ∀ (n j : Nat), j + n = 32 → WM l w RX4 cX4_copyFrom 4 none d (fun r M' => M' = cpS M 57 25 ∧ r = none) 31 [some (vR 57), some (vR 25), some (vI a), some (vI j)] [] (cpP B 27 59 a j) := by
    intro B a ha k n
    induction n with
    | zero =>
      intro j hj
      obtain rfl : j = 32 := by omega
      refine e_iload3 dX4_copyFrom_31 ?_
      refine e_bipush dX4_copyFrom_32 rfl kb_32 ?_
      refine e_icmp_ge (tgt := 59) dX4_copyFrom_34 (by decide) (fun h34 => ?_) (fun h => absurd h (by omega))
      exact k
    | succ n ih =>
      intro j hj
      refine e_iload3 dX4_copyFrom_31 ?_
      refine e_bipush dX4_copyFrom_32 rfl kb_32 ?_
      refine e_icmp_ge (tgt := 59) dX4_copyFrom_34 (by decide) (fun h => absurd h (by omega)) (fun h34 => ?_)
      refine e_aload0 dX4_copyFrom_37 ?_
      refine e_getR fl_X4_13 la_57 rfl dX4_copyFrom_38 ?_
      refine e_iload2 dX4_copyFrom_41 ?_
      refine e_aaldR la_58 (⟨by omega, by omega⟩) dX4_copyFrom_42 ?_
      refine e_iload3 dX4_copyFrom_43 ?_
      refine e_aload1 dX4_copyFrom_44 ?_
      refine e_getR fl_X4_13 la_25 rfl dX4_copyFrom_45 ?_
      refine e_iload2 dX4_copyFrom_48 ?_
      refine e_aaldR la_26 (⟨by omega, by omega⟩) dX4_copyFrom_49 ?_
      refine e_iload3 dX4_copyFrom_50 ?_
      refine e_iald (la_SR ha) (⟨by omega, by omega⟩) dX4_copyFrom_51 ?_
      refine e_iast (la_KR ha) (⟨by omega, by omega⟩) dX4_copyFrom_52 ?_
      refine e_iinc3 dX4_copyFrom_53 rfl (⟨by omega, by omega⟩) rfl ?_
      refine e_goto (tgt := 31) dX4_copyFrom_56 (by decide) ?_
      refine WW.cv rfl rfl ?_ (ih (j + 1) (by omega))
      rw [← cpP_s (by omega) ha, Int.toNat_natCast, Int.toNat_natCast, Nat.one_mul]
  have outer : ∀ (B : Mem), cpR B 27 59 30 = cpS M 57 25 → ∀ (n a : Nat) (x3 : Option MV), a + n = 30 → WM l w RX4 cX4_copyFrom 4 none d (fun r M' => M' = cpS M 57 25 ∧ r = none) 23 [some (vR 57), some (vR 25), some (vI a), x3] [] (cpR B 27 59 a) := by
    intro B hB n
    induction n with
    | zero =>
      intro a x3 ha
      obtain rfl : a = 30 := by omega
      refine e_iload2 dX4_copyFrom_23 ?_
      refine e_bipush dX4_copyFrom_24 rfl kb_30 ?_
      refine e_icmp_ge (tgt := 65) dX4_copyFrom_26 (by decide) (fun h26 => ?_) (fun h => absurd h (by omega))
      refine e_vret dX4_copyFrom_65 ?_
      exact ⟨hB, rfl⟩
    | succ n ih =>
      intro a x3 ha
      refine e_iload2 dX4_copyFrom_23 ?_
      refine e_bipush dX4_copyFrom_24 rfl kb_30 ?_
      refine e_icmp_ge (tgt := 65) dX4_copyFrom_26 (by decide) (fun h => absurd h (by omega)) (fun h26 => ?_)
      refine e_iconst dX4_copyFrom_29 rfl kc_0 ?_
      refine e_istore3 dX4_copyFrom_30 rfl ?_
      refine WW.cv rfl rfl (cpP_0 B 27 59 a).symm (inner B a (by omega) ?_ 32 0 (by omega))
      refine e_iinc2 dX4_copyFrom_59 rfl (⟨by omega, by omega⟩) rfl ?_
      refine e_goto (tgt := 23) dX4_copyFrom_62 (by decide) ?_
      refine WW.cv rfl rfl ?_ (ih (a + 1) _ (by omega))
      exact cpP_32 B 27 59 a
  refine MT.of [some (vR 57), some (vR 25), none, none] ⟨by decide, rfl⟩ rfl (Nat.le_of_ble_eq_true rfl) (fun hA hM => ?_)
  refine e_aload1 dX4_copyFrom_0 ?_
  refine e_ifnonnull (tgt := 5) dX4_copyFrom_1 (by decide) ?_
  refine e_aload0 dX4_copyFrom_5 ?_
  refine e_aload1 dX4_copyFrom_6 ?_
  refine e_getI fl_X4_16 la_25 rfl dX4_copyFrom_7 ?_
  refine e_putI fp_X4_16 la_57 rfl dX4_copyFrom_10 ?_
  refine e_aload0 dX4_copyFrom_13 ?_
  refine e_aload1 dX4_copyFrom_14 ?_
  refine e_getI fl_X4_20 la_25 rfl dX4_copyFrom_15 ?_
  refine WW.ec (y := M 25 2) (by simp [up]) ?_
  refine e_putI fp_X4_20 la_57 rfl dX4_copyFrom_18 ?_
  refine e_iconst dX4_copyFrom_21 rfl kc_0 ?_
  refine e_istore2 dX4_copyFrom_22 rfl ?_
  refine WW.cv rfl rfl (cpR_0 _ 27 59).symm (outer _ rfl 30 0 none (by omega))
end STP2
