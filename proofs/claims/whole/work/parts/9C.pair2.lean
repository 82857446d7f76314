/-! EACH CALL of both: what is told, taken back, played, fed, kept -/
section PAIR2
variable {l : Launch} {w : Wd} {d : Nat} {M : Mem}
theorem FD.sa (M : Mem) (A : Nat → Int) : FD M (setA M A) := (FD.rf M).a
theorem gs_nn {G M : Mem} (h : GS G M) : (0 ≤ M 135 2 ∧ M 135 2 ≤ 4) ∧ M 135 0 = G 1 0 ∧ M 135 1 = G 1 5 ∧ M 135 2 = G 1 15 ∧ M 135 4 = G 25 1 := by
  have h2 := h.2.2.1.1.1.2.2.1
  have h3 := h.2.2.2.1
  exact ⟨by omega, h.2.2.1.1.1.1, h.2.2.1.1.1.2.1, h2, h.2.2.1.2.1⟩
theorem pr_house (hd : 40 ≤ d) (hR : REL M) {a b : Int} : PAIR l w d yX8_house cX8_house 3 yX9_house cX9_house 5 .int vI [vI a, vI b] M := by
  have hG := hR.1.gm
  have hnn := hR.1.nn
  obtain ⟨_, n0, _, _, n4⟩ := gs_nn hR.1
  by_cases ok : (0 ≤ a ∧ a ≤ 9 ∧ 0 ≤ b ∧ b ≤ 999) ∧ M 1 0 < 8
  · have h8 := ct_X8_house (l := l) (w := w) (d := d) (M := M) (a := a) (b := b) (by omega) hG.1.1
    rw [if_pos ok, if_pos ok] at h8
    refine ⟨_, h8, fun r M1 hq => ?_⟩
    obtain ⟨rfl, rfl⟩ := hq
    have e5 : addH M a b 135 = M 135 := aH_o (by decide) (by decide)
    have h9 := ct_X9_house (l := l) (w := w) (d := d) (M := addH M a b) (a := a) (b := b) (by omega) (by rw [e5]; exact hnn.1) (by rw [e5]; exact hnn.2.2.1)
    rw [e5, if_pos (by rw [n0]; exact ok), if_pos (by rw [n0]; exact ok)] at h9
    refine ⟨_, rfl, _, h9, fun r2 M2 hq2 => ?_⟩
    obtain ⟨rfl, rfl⟩ := hq2
    refine ⟨by rw [n0], hR.dz (Z := addH M a b) (fun o ho => aH_o (by omega) (by omega)) (aH_1 (by decide)) (Fr2.rf _) (FD.sa _ _) ⟨hR.1.1.aH ok.1 ok.2, fun c hc => ?_, hR.1.2.2.1.aH hR.1.1 ok.2, ?_⟩⟩
    · rw [aH_o (o := 6) (by decide) (by decide), aH_o (o := 7) (by decide) (by decide)]; rw [aH_1 (by decide)] at hc; exact hR.1.2.1 c hc
    · exact hR.1.2.2.2.fr (aH_1 (by decide)) (aH_1 (by decide)) (fun o p q => aH_o (by omega) (by omega)) (fun o p q => by rw [setA_o (by omega)]; exact aH_o (by omega) (by omega))
  · have h8 := ct_X8_house (l := l) (w := w) (d := d) (M := M) (a := a) (b := b) (by omega) hG.1.1
    rw [if_neg ok, if_neg ok] at h8
    refine ⟨_, h8, fun r M1 hq => ?_⟩
    obtain ⟨h0, rfl⟩ := hq
    rw [h0]
    have h9 := ct_X9_house (l := l) (w := w) (d := d) (M := M) (a := a) (b := b) (by omega) hnn.1 hnn.2.2.1
    rw [if_neg (by rw [n0]; exact ok), if_neg (by rw [n0]; exact ok)] at h9
    refine ⟨_, rfl, _, h9, fun r2 M2 hq2 => ?_⟩
    obtain ⟨h0, rfl⟩ := hq2
    rw [h0]
    exact ⟨rfl, hR⟩
theorem pr_candle (hd : 40 ≤ d) (hR : REL M) {a b : Int} : PAIR l w d yX8_candle cX8_candle 3 yX9_candle cX9_candle 5 .int vI [vI a, vI b] M := by
  have hG := hR.1.gm
  have hnn := hR.1.nn
  obtain ⟨_, _, n0, _, n4⟩ := gs_nn hR.1
  by_cases ok : (1 ≤ a ∧ a ≤ 9 ∧ 1 ≤ b ∧ b ≤ 12) ∧ M 1 5 < 6
  · have h8 := ct_X8_candle (l := l) (w := w) (d := d) (M := M) (a := a) (b := b) (by omega) hG.1.1
    rw [if_pos ok, if_pos ok] at h8
    refine ⟨_, h8, fun r M1 hq => ?_⟩
    obtain ⟨rfl, rfl⟩ := hq
    have e5 : addC M a b 135 = M 135 := aC_o (by decide) (by decide)
    have h9 := ct_X9_candle (l := l) (w := w) (d := d) (M := addC M a b) (a := a) (b := b) (by omega) (by rw [e5]; exact hnn.2.1) (by rw [e5]; exact hnn.2.2.1)
    rw [e5, if_pos (by rw [n0]; exact ok), if_pos (by rw [n0]; exact ok)] at h9
    refine ⟨_, rfl, _, h9, fun r2 M2 hq2 => ?_⟩
    obtain ⟨rfl, rfl⟩ := hq2
    refine ⟨by rw [n0], hR.dz (Z := addC M a b) (fun o ho => aC_o (by omega) (by omega)) (aC_1 (by decide)) (Fr2.rf _) (FD.sa _ _) ⟨hR.1.1.aC ok.1 ok.2, fun c hc => ?_, hR.1.2.2.1.aC hR.1.1 ok.2, ?_⟩⟩
    · rw [aC_15] at hc
      have hcc := aC_c M a b
      have i5 := hG.1.1.2.1
      by_cases e : c = (M 1 5).toNat
      · rw [e, hcc.1, hcc.2.1]; exact ⟨ok.1.1, ok.1.2.2.1⟩
      · rw [aC_n (by decide) (by decide) e, aC_n (by decide) (by decide) e]
        exact hR.1.2.1 c (by omega)
    · exact hR.1.2.2.2.fr (aC_1 (by decide)) (aC_1 (by decide)) (fun o p q => aC_o (by omega) (by omega)) (fun o p q => by rw [setA_o (by omega)]; exact aC_o (by omega) (by omega))
  · have h8 := ct_X8_candle (l := l) (w := w) (d := d) (M := M) (a := a) (b := b) (by omega) hG.1.1
    rw [if_neg ok, if_neg ok] at h8
    refine ⟨_, h8, fun r M1 hq => ?_⟩
    obtain ⟨h0, rfl⟩ := hq
    rw [h0]
    have h9 := ct_X9_candle (l := l) (w := w) (d := d) (M := M) (a := a) (b := b) (by omega) hnn.2.1 hnn.2.2.1
    rw [if_neg (by rw [n0]; exact ok), if_neg (by rw [n0]; exact ok)] at h9
    refine ⟨_, rfl, _, h9, fun r2 M2 hq2 => ?_⟩
    obtain ⟨h0, rfl⟩ := hq2
    rw [h0]
    exact ⟨rfl, hR⟩
theorem pr_seed (hd : 40 ≤ d) (hR : REL M) {a : Int} : PAIR l w d yX8_seed cX8_seed 2 yX9_seed cX9_seed 2 .boolean vI [vI a] M := by
  refine ⟨_, ct_X8_seed (by omega), fun r M1 hq => ?_⟩
  obtain ⟨x, rfl, ⟨p1, p2, rfl, rfl⟩ | ⟨p1, rfl, rfl⟩⟩ := hq
  · refine ⟨_, rfl, _, ct_X9_seed (by omega), fun r2 M2 hq2 => ?_⟩
    obtain ⟨y, rfl, ⟨q1, q2, rfl, rfl⟩ | ⟨q1, rfl, rfl⟩⟩ := hq2
    · rw [up_row (o' := 135) (by decide)]
      refine ⟨rfl, hR.dz (Z := up M 1 12 (a * 4 + 5)) (fun o ho => up_row (by omega)) (up_k (by decide)) (Fr2.rf _) (FD.sa _ _) ⟨hR.1.1.sd ⟨by omega, by omega⟩, fun c hc => ?_, hR.1.2.2.1.sd hR.1.1, ?_⟩⟩
      · rw [up_row (o' := 6) (by decide), up_row (o' := 7) (by decide)]; rw [up_k (by decide)] at hc; exact hR.1.2.1 c hc
      · exact hR.1.2.2.2.fr (up_k (by decide)) (up_k (by decide)) (fun o p q => up_row (by omega)) (fun o p q => by rw [setA_o (by omega)]; exact up_row (by omega))
    · exact absurd ⟨p1, p2⟩ q1
  · refine ⟨_, rfl, _, ct_X9_seed (by omega), fun r2 M2 hq2 => ?_⟩
    obtain ⟨y, rfl, ⟨q1, q2, rfl, rfl⟩ | ⟨q1, rfl, rfl⟩⟩ := hq2
    · exact absurd ⟨q1, q2⟩ p1
    · exact ⟨rfl, hR⟩
theorem pr_by (hd : 40 ≤ d) (hR : REL M) {a : Int} : PAIR l w d yX8_by cX8_by 2 yX9_by cX9_by 2 .boolean vI [vI a] M := by
  obtain ⟨n2, _, _, e2, _⟩ := gs_nn hR.1
  refine ⟨_, ct_X8_by (by omega), fun r M1 hq => ?_⟩
  obtain ⟨x, rfl, ⟨p1, rfl, rfl⟩ | ⟨p1, rfl, rfl⟩⟩ := hq
  · have e5 : up M 1 16 a 135 = M 135 := up_row (by decide)
    have h9 := ct_X9_by (l := l) (w := w) (d := d) (M := up M 1 16 a) (a := a) (by omega) (by rw [e5]; exact n2)
    rw [e5] at h9
    refine ⟨_, rfl, _, h9, fun r2 M2 hq2 => ?_⟩
    obtain ⟨y, rfl, ⟨q1, rfl, rfl⟩ | ⟨q1, rfl, rfl⟩⟩ := hq2
    · have hag : AG M (up M 1 16 a) := ⟨fun k h1 h2 => up_k h2, fun o ho => up_row (by omega)⟩
      have hX : TXS (up M 1 16 a) (setA (up M 1 16 a) (setN (M 135) 3 a)) := by
        obtain ⟨x1, x2, x3⟩ := hR.1.2.2.2
        refine ⟨by rw [up_k (by decide)]; exact x1, ?_, fun t ht => ?_⟩
        · unfold isT
          rw [up_s, up_k (by decide)]
          exact p1
        · rw [up_k (by decide)] at ht
          obtain ⟨acc, ⟨y1, y2⟩, y3, y4⟩ := x3 t ht
          refine ⟨acc, ⟨?_, by rw [up_row (by omega)]; exact y2⟩, y3, ?_⟩
          · unfold SCR lwR at y1 ⊢
            rw [up_row (o' := 90 + 6 * t) (by omega), up_row (o' := 91 + 6 * t) (by omega), up_row (o' := 92 + 6 * t) (by omega), up_row (o' := 93 + 6 * t) (by omega), up_row (o' := 94 + 6 * t) (by omega), up_row (o' := 95 + 6 * t) (by omega)]
            exact y1
          · unfold MSC at y4 ⊢
            rw [setA_o (o := 138) (by decide), setA_o (o := 139) (by decide), setA_o (o := 140) (by decide), setA_o (o := 141) (by decide), setA_o (o := 142) (by decide), setA_o (o := 143) (by decide), setA_o (o := 144) (by decide), setA_o (o := 145) (by decide), up_row (o' := 138) (by decide), up_row (o' := 139) (by decide), up_row (o' := 140) (by decide), up_row (o' := 141) (by decide), up_row (o' := 142) (by decide), up_row (o' := 143) (by decide), up_row (o' := 144) (by decide), up_row (o' := 145) (by decide)]
            exact y4
      refine ⟨rfl, hR.dz (Z := up M 1 16 a) (fun o ho => up_row (by omega)) (up_k (by decide)) (Fr2.rf _) (FD.sa _ _) ⟨hR.1.1.ag hag (by rw [up_k (by decide)]; exact hR.1.gm.1.2.2.2.1) (fun ht => ?_), fun c hc => ?_, ?_, hX⟩⟩
      · obtain ⟨acc, ⟨y1, y2⟩, y3, _⟩ := hX.2.2 (up M 1 16 a 1 16).toNat (by have := ht.1; have := ht.2; omega)
        exact TxOk_of y1 y2 y3
      · rw [up_row (o' := 6) (by decide), up_row (o' := 7) (by decide)]; rw [up_k (by decide)] at hc; exact hR.1.2.1 c hc
      · exact hR.1.2.2.1.ag hR.1.1 hag (by show setN (M 135) 3 a 2 = _; rw [setN_o (by decide), up_k (by decide)]; exact e2) (by show setN (M 135) 3 a 3 = _; rw [setN_s, up_s]) (fun k h2 h3 => by show setN (M 135) 3 a k = _; rw [setN_o h3])
    · exact absurd (by unfold isT at p1; rw [e2]; exact p1) q1
  · refine ⟨_, rfl, _, ct_X9_by (by omega) n2, fun r2 M2 hq2 => ?_⟩
    obtain ⟨y, rfl, ⟨q1, rfl, rfl⟩ | ⟨q1, rfl, rfl⟩⟩ := hq2
    · exact absurd (by unfold isT; rw [e2] at q1; exact q1) p1
    · exact ⟨rfl, hR⟩
theorem pr_undo (hd : 40 ≤ d) (hR : REL M) : PAIR l w d yX8_undo cX8_undo 1 yX9_undo cX9_undo 2 .int vI [] M := by
  have hG := hR.1.gm
  obtain ⟨_, _, _, _, n4⟩ := gs_nn hR.1
  have hS := hG.2.1
  by_cases h0 : M 25 1 = 0
  · refine ⟨_, ct_X8_undo0 (by omega) (by omega), fun r M1 hq => ?_⟩
    obtain ⟨e, rfl⟩ := hq
    rw [e]
    have h9 := ct_X9_undo (l := l) (w := w) (d := d) (M := M) (by have := hS.2; omega)
    rw [if_pos (by rw [n4]; exact h0), if_pos (by rw [n4]; exact h0)] at h9
    refine ⟨_, rfl, _, h9, fun r2 M2 hq2 => ?_⟩
    obtain ⟨e, rfl⟩ := hq2
    rw [e]
    exact ⟨rfl, hR⟩
  · obtain ⟨q, hq⟩ : ∃ q : Nat, M 25 2 = q := ⟨(M 25 2).toNat, by have := hS.1; omega⟩
    have h8 := ct_X8_undo1 (l := l) (w := w) (d := d) (M := M) (q := q) (by omega) hG.1.1 (by have := hS.1; omega) hq ⟨by have := hS.2; omega, hS.2.2⟩
    rw [tb_un hq] at h8
    refine ⟨_, h8, fun r M1 hq => ?_⟩
    obtain ⟨rfl, rfl⟩ := hq
    have e5 : un M 135 = M 135 := un_o (by unfold unO; omega)
    have h9 := ct_X9_undo (l := l) (w := w) (d := d) (M := un M) (by rw [e5, n4]; exact hS.2)
    rw [e5, if_neg (by rw [n4]; exact h0), if_neg (by rw [n4]; exact h0)] at h9
    refine ⟨_, rfl, _, h9, fun r2 M2 hq2 => ?_⟩
    obtain ⟨rfl, rfl⟩ := hq2
    have h1 : 1 ≤ M 25 1 := by have := hS.2; omega
    refine ⟨by rw [n4, un_251], hR.dz (Z := un M) (fun o ho => un_o (by unfold unO; omega)) (by rw [un_1, if_neg (by decide), if_neg (by decide)]) (Fr2.rf _) (FD.sa _ _) ⟨hR.1.1.u1 h1, fun c hc => ?_, hR.1.2.2.1.u1 hR.1.1 h1, ?_⟩⟩
    · rw [un_o (o := 6) (by unfold unO; omega), un_o (o := 7) (by unfold unO; omega)]; rw [un_15] at hc; exact hR.1.2.1 c hc
    · exact hR.1.2.2.2.fr (by rw [un_1, if_neg (by decide), if_neg (by decide)]) (by rw [un_1, if_neg (by decide), if_neg (by decide)]) (fun o p q => un_o (by unfold unO; omega)) (fun o p q => by rw [setA_o (by omega)]; exact un_o (by unfold unO; omega))
theorem ct_X8_played2 {t : Int} (hd : 8 ≤ d) (hG : GM M) (hN : isT M t → 0 ≤ M (90 + 6 * t.toNat) 6 ∧ M (90 + 6 * t.toNat) 6 ≤ 24) : GI l w yX8_played cX8_played 6 .int d [vR 0, vI t] M (fun x M1 => (isT M t ∧ x = playX (M (94 + 6 * t.toNat)) (M (95 + 6 * t.toNat)) (M (90 + 6 * t.toNat) 6).toNat 0 M ∧ Fr2 (playZ (M (94 + 6 * t.toNat)) (M (95 + 6 * t.toNat)) (M (90 + 6 * t.toNat) 6).toNat 0 M) M1) ∨ (¬ isT M t ∧ x = -2 ∧ M1 = M)) := by
  have ht := hG.1.2.2.2.1
  by_cases hT : isT M t
  · obtain ⟨j, rfl⟩ : ∃ j : Nat, t = (j : Int) := ⟨t.toNat, by have := hT.1; omega⟩
    have hj : j < 4 := by have := hT.2; omega
    have hNj := hN hT
    rw [Int.toNat_natCast] at hNj ⊢
    have hl := play_loop (l := l) (w := w) (t := (j : Int)) (Q := fun r M1 => ∃ x, r = some (vI x) ∧ ((isT M (j : Int) ∧ x = playX (M (94 + 6 * j)) (M (95 + 6 * j)) (M (90 + 6 * j) 6).toNat 0 M ∧ Fr2 (playZ (M (94 + 6 * j)) (M (95 + 6 * j)) (M (90 + 6 * j) 6).toNat 0 M) M1) ∨ (¬ isT M (j : Int) ∧ x = -2 ∧ M1 = M))) (d := d) (N := (M (90 + 6 * j) 6).toNat) (by omega) hj (by omega) (M (90 + 6 * j) 6).toNat 0 M M none none (by omega) hG (Fr2.rf M) rfl rfl (by omega) (fun M' h' => ⟨_, rfl, Or.inl ⟨hT, rfl, h'⟩⟩)
    refine MT.of [some (vR 0), some (vI (j : Int)), none, none, none, none] ⟨by decide, rfl⟩ rfl (Nat.le_of_ble_eq_true rfl) (fun hA hM => ?_)
    refine e_aload0 dX8_played_0 ?_
    refine e_getR fl_X8_12 la_0 rfl dX8_played_1 ?_
    refine e_iload1 dX8_played_4 ?_
    refine e_cVZ (ct_X0_isText (d := d - 1) (by omega)) cy_X0_isText cv_X0_isText ml_X8_189 la_1 rfl rfl rfl (rok (by omega) (by decide)) (Nat.le_of_ble_eq_true rfl) dX8_played_5 (fun g5 => ?_) (fun g5 => ?_)
    · refine e_if_eq (tgt := 20) dX8_played_8 (by decide) (fun h => absurd h (by decide)) (fun _ => ?_)
      refine e_iload1 dX8_played_11 ?_
      refine e_aload0 dX8_played_12 ?_
      refine e_getR fl_X8_31 la_0 rfl dX8_played_13 ?_
      refine e_alen la_89 (by decide) (by decide) dX8_played_16 ?_
      refine e_icmp_lt (tgt := 23) dX8_played_17 (by decide) (fun h17 => ?_) (fun h17 => ?_)
      · refine e_aload0 dX8_played_23 ?_
        refine e_getR fl_X8_31 la_0 rfl dX8_played_24 ?_
        refine e_iload1 dX8_played_27 ?_
        refine e_aaldS la_89 (⟨by omega, by omega⟩) dX8_played_28 ?_
        refine e_astore2 dX8_played_29 rfl ?_
        refine e_aload2 dX8_played_30 ?_
        refine e_ifnonnull (tgt := 37) dX8_played_31 (by decide) ?_
        refine e_iconst dX8_played_37 rfl kc_0 ?_
        refine e_istore3 dX8_played_38 rfl ?_
        exact hl
      · refine e_bipush dX8_played_20 rfl kb_m2 ?_
        refine e_iret dX8_played_22 ?_
        first | exact absurd hT g5 | omega
    · refine e_if_eq (tgt := 20) dX8_played_8 (by decide) (fun _ => ?_) (fun h => absurd h (by decide))
      refine e_bipush dX8_played_20 rfl kb_m2 ?_
      refine e_iret dX8_played_22 ?_
      first | exact absurd hT g5 | omega
  · refine MT.of [some (vR 0), some (vI t), none, none, none, none] ⟨by decide, rfl⟩ rfl (Nat.le_of_ble_eq_true rfl) (fun hA hM => ?_)
    refine e_aload0 dX8_played_0 ?_
    refine e_getR fl_X8_12 la_0 rfl dX8_played_1 ?_
    refine e_iload1 dX8_played_4 ?_
    refine e_cVZ (ct_X0_isText (d := d - 1) (by omega)) cy_X0_isText cv_X0_isText ml_X8_189 la_1 rfl rfl rfl (rok (by omega) (by decide)) (Nat.le_of_ble_eq_true rfl) dX8_played_5 (fun g5 => ?_) (fun g5 => ?_)
    · refine e_if_eq (tgt := 20) dX8_played_8 (by decide) (fun h => absurd h (by decide)) (fun _ => ?_)
      refine e_iload1 dX8_played_11 ?_
      refine e_aload0 dX8_played_12 ?_
      refine e_getR fl_X8_31 la_0 rfl dX8_played_13 ?_
      refine e_alen la_89 (by decide) (by decide) dX8_played_16 ?_
      refine e_icmp_lt (tgt := 23) dX8_played_17 (by decide) (fun h17 => ?_) (fun h17 => ?_)
      · exact absurd g5 hT
      · refine e_bipush dX8_played_20 rfl kb_m2 ?_
        refine e_iret dX8_played_22 ?_
        exact ⟨_, rfl, Or.inr ⟨hT, rfl, rfl⟩⟩
    · refine e_if_eq (tgt := 20) dX8_played_8 (by decide) (fun _ => ?_) (fun h => absurd h (by decide))
      refine e_bipush dX8_played_20 rfl kb_m2 ?_
      refine e_iret dX8_played_22 ?_
      exact ⟨_, rfl, Or.inr ⟨hT, rfl, rfl⟩⟩
theorem pr_played (hd : 40 ≤ d) (hR : REL M) {a : Int} : PAIR l w d yX8_played cX8_played 6 yX9_played cX9_played 5 .int vI [vI a] M := by
  have hG := hR.1.gm
  refine ⟨_, ct_X8_played2 (by omega) hG (fun ht => ?_), fun r M1 hq => ?_⟩
  · obtain ⟨acc, ⟨y1, _⟩, y3, _⟩ := hR.1.2.2.2.2.2 a.toNat (by have := ht.1; have := ht.2; omega)
    have := y1.1.1
    have := y3.1
    omega
  · obtain ⟨x, rfl, ⟨p1, rfl, p2⟩ | ⟨p1, rfl, rfl⟩⟩ := hq
    · have hk := kz_play (kd := M (94 + 6 * a.toNat)) (nu := M (95 + 6 * a.toNat)) (M (90 + 6 * a.toNat) 6).toNat 0 M hG
      refine ⟨_, rfl, _, ct_X9_played (by omega) (zMd hR hk p2), fun r2 M2 hq2 => ?_⟩
      obtain ⟨y, rfl, hf, ⟨q1, rfl, q2⟩ | ⟨q1, rfl, q2⟩⟩ := hq2
      · exact ⟨rfl, hR.dz hk.1 hk.2 p2 hf q2⟩
      · exact absurd p1 q1
    · refine ⟨_, rfl, _, ct_X9_played (by omega) hR.1, fun r2 M2 hq2 => ?_⟩
      obtain ⟨y, rfl, hf, ⟨q1, rfl, q2⟩ | ⟨q1, rfl, q2⟩⟩ := hq2
      · exact absurd q1 p1
      · exact ⟨rfl, hR.dz (KPZ.rf _).1 (KPZ.rf _).2 (Fr2.rf _) hf q2⟩
/-- fed: only the tapes change -/
theorem REL.fe {M M1 M2 : Mem} (hR : REL M) (h1 : ∀ o, o ≠ 114 → o ≠ 115 → M1 o = M o) (h14 : ∀ k, k ≠ 1 → M1 114 k = M 114 k) (h2 : FT M1 M2) (ht : TAP M1 M2) : REL M2 := by
  obtain ⟨r1, r2, r3, r4, r5⟩ := hR
  have e1 : ∀ o, o ≠ 114 → o ≠ 115 → o ≠ 134 → o ≠ 137 → M2 o = M o := fun o a b c d => (h2.1 o c d).trans (h1 o a b)
  refine ⟨r1.cg (fun o ho => e1 o (by omega) (by omega) (by omega) (by omega)) (e1 135 (by omega) (by omega) (by omega) (by omega)) (fun o a b => e1 o (by omega) (by omega) (by omega) (by omega)), REL.im r2 (fun o ho => e1 o (by omega) (by omega) (by omega) (by omega)) (e1 136 (by omega) (by omega) (by omega) (by omega)) (fun o a b => e1 o (by omega) (by omega) (by omega) (by omega)), by rw [e1 13 (by omega) (by omega) (by omega) (by omega), e1 1 (by omega) (by omega) (by omega) (by omega)]; exact r3, ht.cg (h2.1 114 (by decide) (by decide)) (h2.1 115 (by decide) (by decide)) rfl rfl, ?_⟩
  unfold FLT at r5 ⊢
  rw [h2.1 114 (by decide) (by decide), h14 10 (by decide), h14 11 (by decide), h14 12 (by decide), h2.2 4 (by decide), h2.2 5 (by decide), h1 134 (by decide) (by decide)]
  exact r5
theorem put1_o {M : Mem} {x s : Int} {o k : Nat} (h : o ≠ 115) (h2 : o ≠ 114 ∨ k ≠ 1) : put1 M x s o k = M o k := by
  unfold put1
  rcases h2 with q | q
  · rw [up_o q, up_o h]
  · rw [up_k q, up_o h]
theorem put4_o {M : Mem} {x : Int} {o k : Nat} (h : o ≠ 115) (h2 : o ≠ 114 ∨ k ≠ 1) : put4 M x o k = M o k := by
  unfold put4
  rw [put1_o h h2, put1_o h h2, put1_o h h2, put1_o h h2]
theorem feedM_o {M : Mem} {a b c e f : Int} {o k : Nat} (h : o ≠ 115) (h2 : o ≠ 114 ∨ k ≠ 1) : feedM M a b c e f o k = M o k := by
  unfold feedM
  rw [put4_o h h2, put4_o h h2, put4_o h h2, put4_o h h2, put4_o h h2]
theorem pr_feed (hd : 40 ≤ d) (hR : REL M) {a b c e f : Int} : PAIR l w d yX8_feed cX8_feed 6 yX9_feed cX9_feed 6 .int vI [vI a, vI b, vI c, vI e, vI f] M := by
  have ht := hR.2.2.2.1
  have h8 := ct_X8_feed (l := l) (w := w) (d := d) (M := M) (a := a) (b := b) (c := c) (e := e) (f := f) (by omega) ht.1
  by_cases q : M 114 1 + 20 ≤ 300
  · rw [if_pos q, if_pos q] at h8
    refine ⟨_, h8, fun r M1 hq => ?_⟩
    obtain ⟨rfl, rfl⟩ := hq
    have hr : ∀ o, o ≠ 114 → o ≠ 115 → feedM M a b c e f o = M o := fun o h1 h2 => funext fun k => feedM_o h2 (Or.inl h1)
    refine ⟨_, rfl, _, ct_X9_feed (G := M) (by omega) (ht.cg rfl rfl (by rw [hr 134 (by decide) (by decide)]) (hr 137 (by decide) (by decide))), fun r2 M2 hq2 => ?_⟩
    obtain ⟨y, rfl, hf, ⟨_, rfl, q2⟩ | ⟨q1, rfl, q2⟩⟩ := hq2
    · exact ⟨rfl, hR.fe hr (fun k hk => feedM_o (by decide) (Or.inr hk)) hf q2⟩
    · exact absurd q q1
  · rw [if_neg q, if_neg q] at h8
    refine ⟨_, h8, fun r M1 hq => ?_⟩
    obtain ⟨h0, rfl⟩ := hq
    rw [h0]
    refine ⟨_, rfl, _, ct_X9_feed (G := M) (by omega) ht, fun r2 M2 hq2 => ?_⟩
    obtain ⟨y, rfl, hf, ⟨q1, rfl, q2⟩ | ⟨_, rfl, q2⟩⟩ := hq2
    · exact absurd q1 q
    · exact ⟨rfl, hR.fe (fun _ _ _ => rfl) (fun _ _ => rfl) hf q2⟩
theorem pr_end (hd : 40 ≤ d) (hR : REL M) {a : Int} : PAIR l w d yX8_end cX8_end 2 yX9_end cX9_end 2 .int vI [vI a] M := by
  have ht := hR.2.2.2.1
  have h8 := ct_X8_end (l := l) (w := w) (d := d) (M := M) (a := a) (by omega)
  by_cases q : 0 ≤ a ∧ a ≤ M 114 1
  · rw [if_pos q, if_pos q] at h8
    refine ⟨_, h8, fun r M1 hq => ?_⟩
    obtain ⟨rfl, rfl⟩ := hq
    refine ⟨_, rfl, _, ct_X9_end (G := M) (by omega) (ht.cg rfl rfl (by rw [up_o (by decide)]) (up_row (by decide))), fun r2 M2 hq2 => ?_⟩
    obtain ⟨y, rfl, hf, ⟨_, _, rfl, q2⟩ | ⟨q1, rfl, q2⟩⟩ := hq2
    · exact ⟨rfl, hR.fe (fun o h1 _ => up_row h1) (fun k hk => up_k hk) hf q2⟩
    · exact absurd q q1
  · rw [if_neg q, if_neg q] at h8
    refine ⟨_, h8, fun r M1 hq => ?_⟩
    obtain ⟨h0, rfl⟩ := hq
    rw [h0]
    refine ⟨_, rfl, _, ct_X9_end (G := M) (by omega) ht, fun r2 M2 hq2 => ?_⟩
    obtain ⟨y, rfl, hf, ⟨q1, q3, rfl, q2⟩ | ⟨_, rfl, q2⟩⟩ := hq2
    · exact absurd ⟨q1, q3⟩ q
    · exact ⟨rfl, hR.fe (fun _ _ _ => rfl) (fun _ _ => rfl) hf q2⟩
end PAIR2
