/-! MOTHS -/
def mHs (M : Mem) : Nat := (M 1 12 % M 1 0).toNat
abbrev mHit (M : Mem) : Prop := 0 < M 4 (mHs M) ∧ 0 < M 3 (mHs M)
def drw (M : Mem) : Mem := up M 1 12 ((M 1 12 * 179 + 83) % 30011)
def moth1 (M : Mem) : Mem := if mHit M then up (up (drw M) 4 (mHs M) (M 4 (mHs M) - 1)) 3 (mHs M) (M 3 (mHs M) - 1) else drw M
def mothM : Nat → Mem → Mem
  | 0, M => M
  | n + 1, M => moth1 (mothM n M)
def mothT : Nat → Mem → Int
  | 0, _ => 0
  | n + 1, M => mothT n M + (if mHit (mothM n M) then 1 else 0)
theorem mothT_b (M : Mem) : ∀ n, 0 ≤ mothT n M ∧ mothT n M ≤ n
  | 0 => by simp [mothT]
  | n + 1 => by
    have := mothT_b M n
    unfold mothT
    split <;> omega
def MI (M : Mem) : Prop := (1 ≤ M 1 0 ∧ M 1 0 ≤ 8) ∧ (0 ≤ M 1 12 ∧ M 1 12 ≤ 50000) ∧ ∀ h, h < 8 → (0 ≤ M 3 h ∧ M 3 h ≤ 999) ∧ (0 ≤ M 4 h ∧ M 4 h ≤ 999)
theorem MI.hs {M : Mem} (h : MI M) : (mHs M : Int) = M 1 12 % M 1 0 ∧ (mHs M : Int) < M 1 0 ∧ mHs M < 8 := by
  have h1 := h.1
  have := Int.emod_nonneg (M 1 12) (show M 1 0 ≠ 0 by omega)
  have := Int.emod_lt_of_pos (M 1 12) (show 0 < M 1 0 by omega)
  unfold mHs
  omega
theorem MI.m1 {M : Mem} (h : MI M) : MI (moth1 M) := by
  have h0 := h.1
  have h1 := h.2.1
  have h2 := h.2.2 (mHs M) h.hs.2.2
  unfold moth1 drw
  by_cases q : mHit M
  · rw [if_pos q]
    have q1 := q.1
    have q2 := q.2
    refine ⟨?_, ?_, fun k hk => ⟨?_, ?_⟩⟩
    · rw [up_o (by decide), up_o (by decide), up_k (by decide)]; exact h0
    · rw [up_o (by decide), up_o (by decide), up_s]; omega
    · by_cases e : k = mHs M
      · subst e; rw [up_s]; omega
      · rw [up_k e, up_o (by decide), up_o (by decide)]; exact (h.2.2 k hk).1
    · by_cases e : k = mHs M
      · subst e; rw [up_o (by decide), up_s]; omega
      · rw [up_o (by decide), up_k e, up_o (by decide)]; exact (h.2.2 k hk).2
  · rw [if_neg q]
    refine ⟨?_, ?_, fun k hk => ⟨?_, ?_⟩⟩
    · rw [up_k (by decide)]; exact h0
    · rw [up_s]; omega
    · rw [up_o (by decide)]; exact (h.2.2 k hk).1
    · rw [up_o (by decide)]; exact (h.2.2 k hk).2
theorem MI.mn {M : Mem} (h : MI M) : ∀ n, MI (mothM n M)
  | 0 => h
  | n + 1 => (MI.mn h n).m1
abbrev okMoths (M : Mem) (n : Int) : Prop := (1 ≤ n ∧ n ≤ 30) ∧ 1 ≤ M 1 0
section MOTHS
variable {l : Launch} {w : Wd} {d : Nat} {M : Mem} {Q : Option MV → Mem → Prop}
theorem moth_loop (hd : 2 ≤ d) {n : Nat} (hn : n ≤ 30) (hK : MI M) (hQ : Q (some (vI (mothT n M))) (mothM n M)) : ∀ (m i : Nat) (v4 : Option MV), i + m = n → WM l w RX8 cX8_moths 5 (some .int) d Q 41 [some (vR 0), some (vI (n : Int)), some (vI (mothT i M)), some (vI (i : Int)), v4] [] (mothM i M)
  | 0, i, v4, e => by
    have e1 : i = n := by omega
    subst e1
    refine e_iload3 dX8_moths_41 ?_
    refine e_iload1 dX8_moths_42 ?_
    refine e_icmp_ge (tgt := 137) dX8_moths_43 (by decide) (fun h43 => ?_) (fun h43 => ?_)
    · refine e_iload2 dX8_moths_137 ?_
      refine e_iret dX8_moths_138 ?_
      exact hQ
    · omega
  | m + 1, i, v4, e => by
    have hMI := hK.mn i
    have hb := mothT_b M i
    have h0 := hMI.1
    have h1 := hMI.2.1
    have hs := hMI.hs
    have h2 := hMI.2.2 _ hs.2.2
    have ih := fun v => moth_loop hd hn hK hQ m (i + 1) v (by omega)
    have hdraw := ct_X0_draw (l := l) (w := w) (d := d - 1) (M := mothM i M) (m := mothM i M 1 0) (by omega) (by omega) h1
    rw [← hs.1] at hdraw
    have hst : mothT (i + 1) M = mothT i M + (if mHit (mothM i M) then 1 else 0) := rfl
    have hsm : mothM (i + 1) M = moth1 (mothM i M) := rfl
    unfold moth1 at hsm
    have hend : WM l w RX8 cX8_moths 5 (some .int) d Q 131 [some (vR 0), some (vI (n : Int)), some (vI (mothT (i + 1) M)), some (vI (i : Int)), some (vI (mHs (mothM i M) : Int))] [] (mothM (i + 1) M) := by
      refine e_iinc3 dX8_moths_131 rfl (⟨by omega, by omega⟩) rfl ?_
      refine e_goto (tgt := 41) dX8_moths_134 (by decide) ?_
      exact ih (some (vI (mHs (mothM i M) : Int)))
    have hH : isH (up (mothM i M) 1 12 ((mothM i M 1 12 * 179 + 83) % 30011)) (mHs (mothM i M)) := by unfold isH; rw [up_k (by decide)]; omega
    by_cases hq : mHit (mothM i M)
    · rw [if_pos hq] at hst hsm
      rw [hst, hsm] at hend
      have q1 := hq.1
      have q2 := hq.2
      refine e_iload3 dX8_moths_41 ?_
      refine e_iload1 dX8_moths_42 ?_
      refine e_icmp_ge (tgt := 137) dX8_moths_43 (by decide) (fun h43 => ?_) (fun h43 => ?_)
      · refine e_iload2 dX8_moths_137 ?_
        omega
      · refine e_aload0 dX8_moths_46 ?_
        refine e_getR fl_X8_12 la_0 rfl dX8_moths_47 ?_
        refine e_aload0 dX8_moths_50 ?_
        refine e_getR fl_X8_12 la_0 rfl dX8_moths_51 ?_
        refine e_getI fl_X8_159 la_1 rfl dX8_moths_54 ?_
        refine e_cVI (hdraw) cy_X0_draw cv_X0_draw ml_X8_156 la_1 rfl rfl rfl (rok (by omega) (by decide)) (Nat.le_of_ble_eq_true rfl) dX8_moths_57 ?_
        refine e_istore4 dX8_moths_60 rfl ?_
        refine e_aload0 dX8_moths_62 ?_
        refine e_getR fl_X8_12 la_0 rfl dX8_moths_63 ?_
        refine e_iload4 dX8_moths_66 ?_
        refine e_cVZ (ct_X0_isHouse (d := d - 1) (by omega)) cy_X0_isHouse cv_X0_isHouse ml_X8_86 la_1 rfl rfl rfl (rok (by omega) (by decide)) (Nat.le_of_ble_eq_true rfl) dX8_moths_68 (fun g68 => ?_) (fun g68 => ?_)
        · refine e_if_eq (tgt := 131) dX8_moths_71 (by decide) (fun h => absurd h (by decide)) (fun _ => ?_)
          refine e_aload0 dX8_moths_74 ?_
          refine e_getR fl_X8_12 la_0 rfl dX8_moths_75 ?_
          refine e_getR fl_X8_146 la_1 rfl dX8_moths_78 ?_
          refine e_iload4 dX8_moths_81 ?_
          refine e_iald la_4 (⟨by omega, by omega⟩) dX8_moths_83 ?_
          refine WW.ec (y := mothM i M 4 (mHs (mothM i M))) (by rw [up_row (by decide)]; rfl) ?_
          refine e_if_le (tgt := 131) dX8_moths_84 (by decide) (fun h => absurd h (by omega)) (fun h84 => ?_)
          refine e_aload0 dX8_moths_87 ?_
          refine e_getR fl_X8_12 la_0 rfl dX8_moths_88 ?_
          refine e_getR fl_X8_105 la_1 rfl dX8_moths_91 ?_
          refine e_iload4 dX8_moths_94 ?_
          refine e_iald la_3 (⟨by omega, by omega⟩) dX8_moths_96 ?_
          refine WW.ec (y := mothM i M 3 (mHs (mothM i M))) (by rw [up_row (by decide)]; rfl) ?_
          refine e_if_le (tgt := 131) dX8_moths_97 (by decide) (fun h => absurd h (by omega)) (fun h97 => ?_)
          refine e_aload0 dX8_moths_100 ?_
          refine e_getR fl_X8_12 la_0 rfl dX8_moths_101 ?_
          refine e_getR fl_X8_146 la_1 rfl dX8_moths_104 ?_
          refine e_iload4 dX8_moths_107 ?_
          refine e_dup2 dX8_moths_109 rfl rfl ?_
          refine e_iald la_4 (⟨by omega, by omega⟩) dX8_moths_110 ?_
          refine WW.ec (y := mothM i M 4 (mHs (mothM i M))) (by rw [up_row (by decide)]; rfl) ?_
          refine e_iconst dX8_moths_111 rfl kc_1 ?_
          refine e_isub dX8_moths_112 (⟨by omega, by omega⟩) ?_
          refine e_iast la_4 (⟨by omega, by omega⟩) dX8_moths_113 ?_
          refine e_aload0 dX8_moths_114 ?_
          refine e_getR fl_X8_12 la_0 rfl dX8_moths_115 ?_
          refine e_getR fl_X8_105 la_1 rfl dX8_moths_118 ?_
          refine e_iload4 dX8_moths_121 ?_
          refine e_dup2 dX8_moths_123 rfl rfl ?_
          refine e_iald la_3 (⟨by omega, by omega⟩) dX8_moths_124 ?_
          refine WW.ec (y := mothM i M 3 (mHs (mothM i M))) (by rw [up_row (by decide), up_row (by decide)]; rfl) ?_
          refine e_iconst dX8_moths_125 rfl kc_1 ?_
          refine e_isub dX8_moths_126 (⟨by omega, by omega⟩) ?_
          refine e_iast la_3 (⟨by omega, by omega⟩) dX8_moths_127 ?_
          refine e_iinc2 dX8_moths_128 rfl (⟨by omega, by omega⟩) rfl ?_
          first | exact absurd hH g68 | exact hend
        · refine e_if_eq (tgt := 131) dX8_moths_71 (by decide) (fun _ => ?_) (fun h => absurd h (by decide))
          first | exact absurd hH g68 | exact hend
    · rw [if_neg hq, Int.add_zero] at hst
      rw [if_neg hq] at hsm
      rw [hst, hsm] at hend
      refine e_iload3 dX8_moths_41 ?_
      refine e_iload1 dX8_moths_42 ?_
      refine e_icmp_ge (tgt := 137) dX8_moths_43 (by decide) (fun h43 => ?_) (fun h43 => ?_)
      · refine e_iload2 dX8_moths_137 ?_
        omega
      · refine e_aload0 dX8_moths_46 ?_
        refine e_getR fl_X8_12 la_0 rfl dX8_moths_47 ?_
        refine e_aload0 dX8_moths_50 ?_
        refine e_getR fl_X8_12 la_0 rfl dX8_moths_51 ?_
        refine e_getI fl_X8_159 la_1 rfl dX8_moths_54 ?_
        refine e_cVI (hdraw) cy_X0_draw cv_X0_draw ml_X8_156 la_1 rfl rfl rfl (rok (by omega) (by decide)) (Nat.le_of_ble_eq_true rfl) dX8_moths_57 ?_
        refine e_istore4 dX8_moths_60 rfl ?_
        refine e_aload0 dX8_moths_62 ?_
        refine e_getR fl_X8_12 la_0 rfl dX8_moths_63 ?_
        refine e_iload4 dX8_moths_66 ?_
        refine e_cVZ (ct_X0_isHouse (d := d - 1) (by omega)) cy_X0_isHouse cv_X0_isHouse ml_X8_86 la_1 rfl rfl rfl (rok (by omega) (by decide)) (Nat.le_of_ble_eq_true rfl) dX8_moths_68 (fun g68 => ?_) (fun g68 => ?_)
        · refine e_if_eq (tgt := 131) dX8_moths_71 (by decide) (fun h => absurd h (by decide)) (fun _ => ?_)
          refine e_aload0 dX8_moths_74 ?_
          refine e_getR fl_X8_12 la_0 rfl dX8_moths_75 ?_
          refine e_getR fl_X8_146 la_1 rfl dX8_moths_78 ?_
          refine e_iload4 dX8_moths_81 ?_
          refine e_iald la_4 (⟨by omega, by omega⟩) dX8_moths_83 ?_
          refine WW.ec (y := mothM i M 4 (mHs (mothM i M))) (by rw [up_row (by decide)]; rfl) ?_
          refine e_if_le (tgt := 131) dX8_moths_84 (by decide) (fun h84 => ?_) (fun h84 => ?_)
          · first | exact absurd hH g68 | exact hend
          · refine e_aload0 dX8_moths_87 ?_
            refine e_getR fl_X8_12 la_0 rfl dX8_moths_88 ?_
            refine e_getR fl_X8_105 la_1 rfl dX8_moths_91 ?_
            refine e_iload4 dX8_moths_94 ?_
            refine e_iald la_3 (⟨by omega, by omega⟩) dX8_moths_96 ?_
            refine WW.ec (y := mothM i M 3 (mHs (mothM i M))) (by rw [up_row (by decide)]; rfl) ?_
            refine e_if_le (tgt := 131) dX8_moths_97 (by decide) (fun h97 => ?_) (fun h97 => ?_)
            · first | exact absurd hH g68 | exact hend
            · exact absurd ⟨by omega, by omega⟩ hq
        · refine e_if_eq (tgt := 131) dX8_moths_71 (by decide) (fun _ => ?_) (fun h => absurd h (by decide))
          first | exact absurd hH g68 | exact hend
theorem ct_X8_moths (hd : 3 ≤ d) (hL : LW M) (hS : SI M) (hx : 0 ≤ M 1 12 ∧ M 1 12 ≤ 50000) {n : Int} : GI l w yX8_moths cX8_moths 5 .int d [vR 0, vI n] M (fun x M1 => (okMoths M n ∧ x = mothT n.toNat (keepM M (nxt M) (-1) (-1)) ∧ M1 = mothM n.toNat (keepM M (nxt M) (-1) (-1))) ∨ (¬ okMoths M n ∧ x = -1 ∧ M1 = M)) := by
  have hI := hL.1
  have hb := hI.1
  obtain ⟨hq, hq1⟩ := nxt_ok hS
  refine MT.of [some (vR 0), some (vI n), none, none, none] ⟨by decide, rfl⟩ rfl (Nat.le_of_ble_eq_true rfl) (fun hA hM => ?_)
  refine e_iload1 dX8_moths_0 ?_
  refine e_iconst dX8_moths_1 rfl kc_1 ?_
  refine e_icmp_lt (tgt := 22) dX8_moths_2 (by decide) (fun h2 => ?_) (fun h2 => ?_)
  · refine e_iconst dX8_moths_22 rfl kc_m1 ?_
    refine e_iret dX8_moths_23 ?_
    exact ⟨_, rfl, Or.inr ⟨fun z => by have := z.1; have := z.2; omega, rfl, rfl⟩⟩
  · refine e_iload1 dX8_moths_5 ?_
    refine e_bipush dX8_moths_6 rfl kb_30 ?_
    refine e_icmp_gt (tgt := 22) dX8_moths_8 (by decide) (fun h8 => ?_) (fun h8 => ?_)
    · refine e_iconst dX8_moths_22 rfl kc_m1 ?_
      refine e_iret dX8_moths_23 ?_
      exact ⟨_, rfl, Or.inr ⟨fun z => by have := z.1; have := z.2; omega, rfl, rfl⟩⟩
    · refine e_aload0 dX8_moths_11 ?_
      refine e_getR fl_X8_12 la_0 rfl dX8_moths_12 ?_
      refine e_getI fl_X8_159 la_1 rfl dX8_moths_15 ?_
      refine e_iconst dX8_moths_18 rfl kc_1 ?_
      refine e_icmp_ge (tgt := 24) dX8_moths_19 (by decide) (fun h19 => ?_) (fun h19 => ?_)
      · refine e_aload0 dX8_moths_24 ?_
        refine e_getR fl_X8_22 la_0 rfl dX8_moths_25 ?_
        refine e_aload0 dX8_moths_28 ?_
        refine e_getR fl_X8_12 la_0 rfl dX8_moths_29 ?_
        refine e_iconst dX8_moths_32 rfl kc_m1 ?_
        refine e_iconst dX8_moths_33 rfl kc_m1 ?_
        refine e_cVV (ct_X4_keep (d := d - 1) (by omega) hI hq hS.1 hS.2 hq1) cy_X4_keep cv_X4_keep ml_X8_108 la_25 rfl rfl rfl (rok (by omega) (by decide)) (Nat.le_of_ble_eq_true rfl) dX8_moths_34 ?_
        refine e_iconst dX8_moths_37 rfl kc_0 ?_
        refine e_istore2 dX8_moths_38 rfl ?_
        refine e_iconst dX8_moths_39 rfl kc_0 ?_
        refine e_istore3 dX8_moths_40 rfl ?_
        have hK : MI (keepM M (nxt M) (-1) (-1)) := by
          unfold MI
          rw [keepM_o (by decide) (by omega), keepM_o (by decide) (by omega), keepM_o (by decide) (by omega)]
          exact ⟨⟨by omega, by omega⟩, hx, fun k hk => (hL.2.1 k hk).2⟩
        have := moth_loop (l := l) (w := w) (d := d) (n := n.toNat) (Q := fun r M' => ∃ x, r = some (vI x) ∧ ((okMoths M n ∧ x = mothT n.toNat (keepM M (nxt M) (-1) (-1)) ∧ M' = mothM n.toNat (keepM M (nxt M) (-1) (-1))) ∨ (¬ okMoths M n ∧ x = -1 ∧ M' = M))) (by omega) (by omega) hK ⟨_, rfl, Or.inl ⟨⟨by omega, by omega⟩, rfl, rfl⟩⟩ n.toNat 0 none (by omega)
        rw [show ((n.toNat : Nat) : Int) = n by omega] at this
        exact this
      · refine e_iconst dX8_moths_22 rfl kc_m1 ?_
        refine e_iret dX8_moths_23 ?_
        exact ⟨_, rfl, Or.inr ⟨fun z => by have := z.1; have := z.2; omega, rfl, rfl⟩⟩
end MOTHS
