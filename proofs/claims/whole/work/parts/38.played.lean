/-! PLAYED -/
theorem buy_w {M M1 : Mem} {h c i x : Int} (hx : (okBuy M h c i ∧ x = M 3 h.toNat - tellV M 0 h c i ∧ Fr2 (buyM M h c i) M1) ∨ (¬ okBuy M h c i ∧ x = -1 ∧ Fr2 M M1)) : x = buyX M h c i ∧ Fr2 (buyZ M h c i) M1 := by
  unfold buyX buyZ
  rcases hx with ⟨a, b, e⟩ | ⟨a, b, e⟩
  · rw [if_pos a, if_pos a]; exact ⟨b, e⟩
  · rw [if_neg a, if_neg a]; exact ⟨b, e⟩
theorem light_w {M M1 : Mem} {c x : Int} (hx : (okL1 M c ∧ x = ownr M c 0 ∧ M1 = light1 M c) ∨ (okL2 M c ∧ x = M 9 c.toNat ∧ M1 = light2 M c) ∨ (¬ okL1 M c ∧ ¬ okL2 M c ∧ x = -1 ∧ M1 = M)) : x = lightX M c ∧ M1 = lightZ M c := by
  unfold lightX lightZ
  rcases hx with ⟨a, b, e⟩ | ⟨a, b, e⟩ | ⟨a, a2, b, e⟩
  · rw [if_pos a, if_pos a]; exact ⟨b, e⟩
  · have a1 : ¬ okL1 M c := fun z => by have := z.2.1; have := a.2.1; omega
    rw [if_neg a1, if_neg a1, if_pos a, if_pos a]; exact ⟨b, e⟩
  · rw [if_neg a, if_neg a, if_neg a2, if_neg a2]; exact ⟨b, e⟩
theorem burn_w {M M1 : Mem} {c x : Int} (hx : (okBurn M c ∧ x = burnM M c 8 c.toNat ∧ Fr2 (burnM M c) M1) ∨ (¬ okBurn M c ∧ x = -1 ∧ M1 = M)) : x = burnX M c ∧ Fr2 (burnZ M c) M1 := by
  unfold burnX burnZ
  rcases hx with ⟨a, b, e⟩ | ⟨a, b, e⟩
  · rw [if_pos a, if_pos a]; exact ⟨b, e⟩
  · rw [if_neg a, if_neg a, e]; exact ⟨b, Fr2.rf _⟩
theorem moth_w {M M1 : Mem} {n x : Int} (hx : (okMoths M n ∧ x = mothT n.toNat (keepM M (nxt M) (-1) (-1)) ∧ M1 = mothM n.toNat (keepM M (nxt M) (-1) (-1))) ∨ (¬ okMoths M n ∧ x = -1 ∧ M1 = M)) : x = mothX M n ∧ M1 = mothZ M n := by
  unfold mothX mothZ
  rcases hx with ⟨a, b, e⟩ | ⟨a, b, e⟩
  · rw [if_pos a, if_pos a]; exact ⟨b, e⟩
  · rw [if_neg a, if_neg a]; exact ⟨b, e⟩
section PLAYED
variable {l : Launch} {w : Wd} {d : Nat} {Q : Option MV → Mem → Prop} {j N : Nat} {t : Int} {kd nu : Nat → Int}
theorem play_loop (hd : 7 ≤ d) (hj : j < 4) (hN : N ≤ 24) : ∀ (m i : Nat) (A B : Mem) (v4 v5 : Option MV), i + m = N → GM A → Fr2 A B → A (94 + 6 * j) = kd → A (95 + 6 * j) = nu → A (90 + 6 * j) 6 = N → (∀ M', Fr2 (playZ kd nu m i A) M' → Q (some (vI (playX kd nu m i A))) M') → WM l w RX8 cX8_played 6 (some .int) d Q 39 [some (vR 0), some (vI t), some (vR (90 + 6 * j)), some (vI (i : Int)), v4, v5] [] B
  | 0, i, A, B, v4, v5, e, hG, hf, ek, en, eN, hQ => by
    have eB : B (90 + 6 * j) 6 = N := by rw [hf (90 + 6 * j) (by omega) (by omega)]; exact eN
    refine e_iload3 dX8_played_39 ?_
    refine e_aload2 dX8_played_40 ?_
    refine e_getI fl_X8_195 (la_S0 hj) rfl dX8_played_41 ?_
    refine WW.ec (y := (N : Int)) (eB) ?_
    refine e_icmp_ge (tgt := 197) dX8_played_44 (by decide) (fun h44 => ?_) (fun h44 => ?_)
    · refine e_iconst dX8_played_197 rfl kc_m1 ?_
      refine e_iret dX8_played_198 ?_
      exact hQ B hf
    · omega
  | m + 1, i, A, B, v4, v5, e, hG, hf, ek, en, eN, hQ => by
    have eB : B (90 + 6 * j) 6 = N := by rw [hf (90 + 6 * j) (by omega) (by omega)]; exact eN
    have ekB : B (94 + 6 * j) = kd := by rw [hf (94 + 6 * j) (by omega) (by omega)]; exact ek
    have enB : B (95 + 6 * j) = nu := by rw [hf (95 + 6 * j) (by omega) (by omega)]; exact en
    have hGB := hG.fr hf
    have hLB := hGB.1
    have hSB := hGB.2.1
    unfold playX playZ at hQ
    have h184 : ∀ (B2 : Mem) (b : Int), Fr2 (doZ A (kd i) (nu (i * 3)) (nu (i * 3 + 1)) (nu (i * 3 + 2))) B2 → b = (if doX A (kd i) (nu (i * 3)) (nu (i * 3 + 1)) (nu (i * 3 + 2)) = -1 then 0 else 1) → WM l w RX8 cX8_played 6 (some .int) d Q 184 [some (vR 0), some (vI t), some (vR (90 + 6 * j)), some (vI (i : Int)), some (vI (nu (i * 3))), some (vI b)] [] B2 := by
      intro B2 b hf2 hb
      by_cases hx : doX A (kd i) (nu (i * 3)) (nu (i * 3 + 1)) (nu (i * 3 + 2)) = -1
      · rw [if_pos hx] at hb
        rw [if_pos hx, if_pos hx] at hQ
        refine e_iload5 dX8_played_184 ?_
        refine e_if_ne (tgt := 191) dX8_played_186 (by decide) (fun h186 => ?_) (fun h186 => ?_)
        · omega
        · refine e_iload3 dX8_played_189 ?_
          refine e_iret dX8_played_190 ?_
          exact hQ B2 hf2
      · rw [if_neg hx] at hb
        rw [if_neg hx, if_neg hx] at hQ
        refine e_iload5 dX8_played_184 ?_
        refine e_if_ne (tgt := 191) dX8_played_186 (by decide) (fun h186 => ?_) (fun h186 => ?_)
        · refine e_iinc3 dX8_played_191 rfl (⟨by omega, by omega⟩) rfl ?_
          refine e_goto (tgt := 39) dX8_played_194 (by decide) ?_
          exact play_loop hd hj hN m (i + 1) _ B2 _ _ (by omega) (gm_doZ hG _ _ _ _) hf2 (by rw [doZ_o hG (by omega)]; exact ek) (by rw [doZ_o hG (by omega)]; exact en) (by rw [doZ_o hG (by omega)]; exact eN) hQ
        · omega
    have hn : ∀ k : Nat, k < 3 → PI l w yX3_number cX3_number 4 (d - 1) [vR (90 + 6 * j), vI (i : Int), vI (k : Int)] B (nu (i * 3 + k)) B := by
      intro k hk
      have := ct_X3_number (l := l) (w := w) (d := d - 1) (M := B) (by omega) hj (c := (i : Int)) (k := (k : Int)) (by omega) (by omega)
      rw [enB, show ((i : Int) * 3 + (k : Int)).toNat = i * 3 + k by omega] at this
      exact this
    have h92 : kd i = 4 → WM l w RX8 cX8_played 6 (some .int) d Q 92 [some (vR 0), some (vI t), some (vR (90 + 6 * j)), some (vI (i : Int)), some (vI (nu (i * 3))), some (vI 1)] [] B := by
      intro hk
      have e1 : doX A (kd i) (nu (i * 3)) (nu (i * 3 + 1)) (nu (i * 3 + 2)) = buyX A (nu (i * 3 + 2)) (nu (i * 3 + 1)) (nu (i * 3)) := by unfold doX; rw [if_pos hk]
      have e2 : doZ A (kd i) (nu (i * 3)) (nu (i * 3 + 1)) (nu (i * 3 + 2)) = buyZ A (nu (i * 3 + 2)) (nu (i * 3 + 1)) (nu (i * 3)) := by unfold doZ; rw [if_pos hk]
      rw [e1, e2] at h184
      have hc := buy_fr hG hf (nu (i * 3 + 2)) (nu (i * 3 + 1)) (nu (i * 3))
      refine e_aload0 dX8_played_92 ?_
      refine e_aload2 dX8_played_93 ?_
      refine e_iload3 dX8_played_94 ?_
      refine e_iconst dX8_played_95 rfl kc_2 ?_
      refine e_cVI (hn 2 (by decide)) cy_X3_number cv_X3_number ml_X8_198 (la_S0 hj) rfl rfl rfl (rok (by omega) (by decide)) (Nat.le_of_ble_eq_true rfl) dX8_played_96 ?_
      refine e_aload2 dX8_played_99 ?_
      refine e_iload3 dX8_played_100 ?_
      refine e_iconst dX8_played_101 rfl kc_1 ?_
      refine e_cVI (hn 1 (by decide)) cy_X3_number cv_X3_number ml_X8_198 (la_S0 hj) rfl rfl rfl (rok (by omega) (by decide)) (Nat.le_of_ble_eq_true rfl) dX8_played_102 ?_
      refine e_iload4 dX8_played_105 ?_
      refine e_cVGI (ct_X8_buy (d := d - 1) (by omega) hLB hSB) cy_X8_buy cv_X8_buy ml_X8_204 la_0 rfl rfl rfl (rok (by omega) (by decide)) (Nat.le_of_ble_eq_true rfl) dX8_played_107 (fun x M1 hx => ?_)
      obtain ⟨hx1, hx2⟩ := buy_w hx
      rw [hc.1] at hx1
      have hz := h184 M1
      refine e_iconst dX8_played_110 rfl kc_m1 ?_
      refine e_icmp_eq (tgt := 118) dX8_played_111 (by decide) (fun h111 => ?_) (fun h111 => ?_)
      · refine e_iconst dX8_played_118 rfl kc_0 ?_
        refine e_istore5 dX8_played_119 rfl ?_
        refine e_goto (tgt := 184) dX8_played_121 (by decide) ?_
        first | exact hz _ (hc.2.tr hx2) (by rw [if_pos (by omega)]) | exact hz _ (hc.2.tr hx2) (by rw [if_neg (by omega)])
      · refine e_iconst dX8_played_114 rfl kc_1 ?_
        refine e_goto (tgt := 119) dX8_played_115 (by decide) ?_
        refine e_istore5 dX8_played_119 rfl ?_
        refine e_goto (tgt := 184) dX8_played_121 (by decide) ?_
        first | exact hz _ (hc.2.tr hx2) (by rw [if_pos (by omega)]) | exact hz _ (hc.2.tr hx2) (by rw [if_neg (by omega)])
    have h124 : kd i = 5 → WM l w RX8 cX8_played 6 (some .int) d Q 124 [some (vR 0), some (vI t), some (vR (90 + 6 * j)), some (vI (i : Int)), some (vI (nu (i * 3))), some (vI 1)] [] B := by
      intro hk
      have e1 : doX A (kd i) (nu (i * 3)) (nu (i * 3 + 1)) (nu (i * 3 + 2)) = lightX A (nu (i * 3)) := by unfold doX; rw [if_neg (by omega), if_pos hk]
      have e2 : doZ A (kd i) (nu (i * 3)) (nu (i * 3 + 1)) (nu (i * 3 + 2)) = lightZ A (nu (i * 3)) := by unfold doZ; rw [if_neg (by omega), if_pos hk]
      rw [e1, e2] at h184
      have hc := light_fr hG hf (nu (i * 3))
      refine e_aload0 dX8_played_124 ?_
      refine e_iload4 dX8_played_125 ?_
      refine e_cVGI (ct_X8_light (d := d - 1) (by omega) hLB.1 hSB) cy_X8_light cv_X8_light ml_X8_208 la_0 rfl rfl rfl (rok (by omega) (by decide)) (Nat.le_of_ble_eq_true rfl) dX8_played_127 (fun x M1 hx => ?_)
      obtain ⟨hx1, hx2⟩ := light_w hx
      rw [hc.1] at hx1
      subst hx2
      have hz := h184 (lightZ B (nu (i * 3)))
      refine e_iconst dX8_played_130 rfl kc_m1 ?_
      refine e_icmp_eq (tgt := 138) dX8_played_131 (by decide) (fun h131 => ?_) (fun h131 => ?_)
      · refine e_iconst dX8_played_138 rfl kc_0 ?_
        refine e_istore5 dX8_played_139 rfl ?_
        refine e_goto (tgt := 184) dX8_played_141 (by decide) ?_
        first | exact hz _ hc.2 (by rw [if_pos (by omega)]) | exact hz _ hc.2 (by rw [if_neg (by omega)])
      · refine e_iconst dX8_played_134 rfl kc_1 ?_
        refine e_goto (tgt := 139) dX8_played_135 (by decide) ?_
        refine e_istore5 dX8_played_139 rfl ?_
        refine e_goto (tgt := 184) dX8_played_141 (by decide) ?_
        first | exact hz _ hc.2 (by rw [if_pos (by omega)]) | exact hz _ hc.2 (by rw [if_neg (by omega)])
    have h144 : kd i = 6 → WM l w RX8 cX8_played 6 (some .int) d Q 144 [some (vR 0), some (vI t), some (vR (90 + 6 * j)), some (vI (i : Int)), some (vI (nu (i * 3))), some (vI 1)] [] B := by
      intro hk
      have e1 : doX A (kd i) (nu (i * 3)) (nu (i * 3 + 1)) (nu (i * 3 + 2)) = burnX A (nu (i * 3)) := by unfold doX; rw [if_neg (by omega), if_neg (by omega), if_pos hk]
      have e2 : doZ A (kd i) (nu (i * 3)) (nu (i * 3 + 1)) (nu (i * 3 + 2)) = burnZ A (nu (i * 3)) := by unfold doZ; rw [if_neg (by omega), if_neg (by omega), if_pos hk]
      rw [e1, e2] at h184
      have hc := burn_fr hG hf (nu (i * 3))
      refine e_aload0 dX8_played_144 ?_
      refine e_iload4 dX8_played_145 ?_
      refine e_cVGI (ct_X8_burn (d := d - 1) (by omega) hLB hSB hGB.2.2.1 hGB.2.2.2.1 hGB.dr hGB.lt) cy_X8_burn cv_X8_burn ml_X8_210 la_0 rfl rfl rfl (rok (by omega) (by decide)) (Nat.le_of_ble_eq_true rfl) dX8_played_147 (fun x M1 hx => ?_)
      obtain ⟨hx1, hx2⟩ := burn_w hx
      rw [hc.1] at hx1
      have hz := h184 M1
      refine e_iconst dX8_played_150 rfl kc_m1 ?_
      refine e_icmp_eq (tgt := 158) dX8_played_151 (by decide) (fun h151 => ?_) (fun h151 => ?_)
      · refine e_iconst dX8_played_158 rfl kc_0 ?_
        refine e_istore5 dX8_played_159 rfl ?_
        refine e_goto (tgt := 184) dX8_played_161 (by decide) ?_
        first | exact hz _ (hc.2.tr hx2) (by rw [if_pos (by omega)]) | exact hz _ (hc.2.tr hx2) (by rw [if_neg (by omega)])
      · refine e_iconst dX8_played_154 rfl kc_1 ?_
        refine e_goto (tgt := 159) dX8_played_155 (by decide) ?_
        refine e_istore5 dX8_played_159 rfl ?_
        refine e_goto (tgt := 184) dX8_played_161 (by decide) ?_
        first | exact hz _ (hc.2.tr hx2) (by rw [if_pos (by omega)]) | exact hz _ (hc.2.tr hx2) (by rw [if_neg (by omega)])
    have h164 : kd i = 7 → WM l w RX8 cX8_played 6 (some .int) d Q 164 [some (vR 0), some (vI t), some (vR (90 + 6 * j)), some (vI (i : Int)), some (vI (nu (i * 3))), some (vI 1)] [] B := by
      intro hk
      have e1 : doX A (kd i) (nu (i * 3)) (nu (i * 3 + 1)) (nu (i * 3 + 2)) = mothX A (nu (i * 3)) := by unfold doX; rw [if_neg (by omega), if_neg (by omega), if_neg (by omega), if_pos hk]
      have e2 : doZ A (kd i) (nu (i * 3)) (nu (i * 3 + 1)) (nu (i * 3 + 2)) = mothZ A (nu (i * 3)) := by unfold doZ; rw [if_neg (by omega), if_neg (by omega), if_neg (by omega), if_pos hk]
      rw [e1, e2] at h184
      have hc := moth_fr hG hf (nu (i * 3))
      refine e_aload0 dX8_played_164 ?_
      refine e_iload4 dX8_played_165 ?_
      refine e_cVGI (ct_X8_moths (d := d - 1) (by omega) hLB hSB hGB.2.2.2.1) cy_X8_moths cv_X8_moths ml_X8_213 la_0 rfl rfl rfl (rok (by omega) (by decide)) (Nat.le_of_ble_eq_true rfl) dX8_played_167 (fun x M1 hx => ?_)
      obtain ⟨hx1, hx2⟩ := moth_w hx
      rw [hc.1] at hx1
      subst hx2
      have hz := h184 (mothZ B (nu (i * 3)))
      refine e_iconst dX8_played_170 rfl kc_m1 ?_
      refine e_icmp_eq (tgt := 178) dX8_played_171 (by decide) (fun h171 => ?_) (fun h171 => ?_)
      · refine e_iconst dX8_played_178 rfl kc_0 ?_
        refine e_istore5 dX8_played_179 rfl ?_
        refine e_goto (tgt := 184) dX8_played_181 (by decide) ?_
        first | exact hz _ hc.2 (by rw [if_pos (by omega)]) | exact hz _ hc.2 (by rw [if_neg (by omega)])
      · refine e_iconst dX8_played_174 rfl kc_1 ?_
        refine e_goto (tgt := 179) dX8_played_175 (by decide) ?_
        refine e_istore5 dX8_played_179 rfl ?_
        refine e_goto (tgt := 184) dX8_played_181 (by decide) ?_
        first | exact hz _ hc.2 (by rw [if_pos (by omega)]) | exact hz _ hc.2 (by rw [if_neg (by omega)])
    have hkd : PI l w yX3_kindOf cX3_kindOf 2 (d - 1) [vR (90 + 6 * j), vI (i : Int)] B (kd i) B := by
      have := ct_X3_kindOf (l := l) (w := w) (d := d - 1) (M := B) (by omega) hj (by omega) (k := (i : Int)) (by omega)
      rw [ekB] at this
      exact this
    refine e_iload3 dX8_played_39 ?_
    refine e_aload2 dX8_played_40 ?_
    refine e_getI fl_X8_195 (la_S0 hj) rfl dX8_played_41 ?_
    refine WW.ec (y := (N : Int)) (eB) ?_
    refine e_icmp_ge (tgt := 197) dX8_played_44 (by decide) (fun h44 => ?_) (fun h44 => ?_)
    · omega
    · refine e_aload2 dX8_played_47 ?_
      refine e_iload3 dX8_played_48 ?_
      refine e_iconst dX8_played_49 rfl kc_0 ?_
      refine e_cVI (hn 0 (by decide)) cy_X3_number cv_X3_number ml_X8_198 (la_S0 hj) rfl rfl rfl (rok (by omega) (by decide)) (Nat.le_of_ble_eq_true rfl) dX8_played_50 ?_
      refine e_istore4 dX8_played_53 rfl ?_
      refine e_iconst dX8_played_55 rfl kc_1 ?_
      refine e_istore5 dX8_played_56 rfl ?_
      refine e_aload2 dX8_played_58 ?_
      refine e_iload3 dX8_played_59 ?_
      refine e_cVI (hkd) cy_X3_kindOf cv_X3_kindOf ml_X8_201 (la_S0 hj) rfl rfl rfl (rok (by omega) (by decide)) (Nat.le_of_ble_eq_true rfl) dX8_played_60 ?_
      refine e_table (tgt := 184) dX8_played_63 (by decide) (fun hl63 hh63 => ?_) (fun h63 => ?_)
      · rcases (show kd i = 4 ∨ kd i = 5 ∨ kd i = 6 ∨ kd i = 7 by omega) with hs63 | hs63 | hs63 | hs63
        · refine ⟨29, 92, (by rw [hs63]; rfl), by decide, ?_⟩
          exact h92 hs63
        · refine ⟨61, 124, (by rw [hs63]; rfl), by decide, ?_⟩
          exact h124 hs63
        · refine ⟨81, 144, (by rw [hs63]; rfl), by decide, ?_⟩
          exact h144 hs63
        · refine ⟨101, 164, (by rw [hs63]; rfl), by decide, ?_⟩
          exact h164 hs63
      · refine h184 B 1 ?_ ?_
        · unfold doZ; rw [if_neg (by omega), if_neg (by omega), if_neg (by omega), if_neg (by omega)]; exact hf
        · rw [show doX A (kd i) (nu (i * 3)) (nu (i * 3 + 1)) (nu (i * 3 + 2)) = 0 by unfold doX; rw [if_neg (by omega), if_neg (by omega), if_neg (by omega), if_neg (by omega)]]; rfl
theorem ct_X8_played {M : Mem} (hd : 8 ≤ d) (hG : GM M) (hN : ∀ j, j < 4 → 0 ≤ M (90 + 6 * j) 6 ∧ M (90 + 6 * j) 6 ≤ 24) : GI l w yX8_played cX8_played 6 .int d [vR 0, vI t] M (fun x M1 => (isT M t ∧ x = playX (M (94 + 6 * t.toNat)) (M (95 + 6 * t.toNat)) (M (90 + 6 * t.toNat) 6).toNat 0 M ∧ Fr2 (playZ (M (94 + 6 * t.toNat)) (M (95 + 6 * t.toNat)) (M (90 + 6 * t.toNat) 6).toNat 0 M) M1) ∨ (¬ isT M t ∧ x = -2 ∧ M1 = M)) := by
  have ht := hG.1.2.2.2.1
  by_cases hT : isT M t
  · obtain ⟨j, rfl⟩ : ∃ j : Nat, t = (j : Int) := ⟨t.toNat, by have := hT.1; omega⟩
    have hj : j < 4 := by have := hT.2; omega
    have hNj := hN j hj
    rw [Int.toNat_natCast]
    have hl := play_loop (l := l) (w := w) (t := (j : Int)) (Q := fun r M1 => ∃ x, r = some (vI x) ∧ ((isT M (j : Int) ∧ x = playX (M (94 + 6 * j)) (M (95 + 6 * j)) (M (90 + 6 * j) 6).toNat 0 M ∧ Fr2 (playZ (M (94 + 6 * j)) (M (95 + 6 * j)) (M (90 + 6 * j) 6).toNat 0 M) M1) ∨ (¬ isT M (j : Int) ∧ x = -2 ∧ M1 = M))) (d := d) (N := (M (90 + 6 * j) 6).toNat) (by omega) hj (by omega) (M (90 + 6 * j) 6).toNat 0 M M none none (by omega) hG (Fr2.rf M) rfl rfl (by omega) (fun M' h' => ⟨_, rfl, Or.inl ⟨hT, rfl, h'⟩⟩)
    refine MT.of [some (vR 0), some (vI (j : Int)), none, none, none, none] ⟨by decide, rfl⟩ rfl (Nat.le_of_ble_eq_true rfl) (fun hA hM => ?_)
    refine e_aload0 dX8_played_0 ?_
    refine e_getR fl_X8_12 la_0 rfl dX8_played_1 ?_
    refine e_iload1 dX8_played_4 ?_
    refine e_cVZ (ct_X0_isText (d := d - 1) (by omega)) cy_X0_isText cv_X0_isText ml_X8_189 la_1 rfl rfl rfl (rok (by omega) (by decide)) (Nat.le_of_ble_eq_true rfl) dX8_played_5 (fun g5 => ?_) (fun g5 => ?_)
    · refine e_if_eq (tgt := 20) dX8_played_8 (by decide) (fun h => absurd h (by decide)) (fun _ => ?_)
      refine e_iload1 dX8_played_11 ?_
      refine e_aload0 dX8_played_12 ?_
      refine e_getR fl_X8_31 la_0 rfl dX8_played_13 ?_
      refine e_alen la_89 (by decide) (by decide) dX8_played_16 ?_
      refine e_icmp_lt (tgt := 23) dX8_played_17 (by decide) (fun h17 => ?_) (fun h17 => ?_)
      · refine e_aload0 dX8_played_23 ?_
        refine e_getR fl_X8_31 la_0 rfl dX8_played_24 ?_
        refine e_iload1 dX8_played_27 ?_
        refine e_aaldS la_89 (⟨by omega, by omega⟩) dX8_played_28 ?_
        refine e_astore2 dX8_played_29 rfl ?_
        refine e_aload2 dX8_played_30 ?_
        refine e_ifnonnull (tgt := 37) dX8_played_31 (by decide) ?_
        refine e_iconst dX8_played_37 rfl kc_0 ?_
        refine e_istore3 dX8_played_38 rfl ?_
        exact hl
      · refine e_bipush dX8_played_20 rfl kb_m2 ?_
        refine e_iret dX8_played_22 ?_
        first | exact absurd hT g5 | omega
    · refine e_if_eq (tgt := 20) dX8_played_8 (by decide) (fun _ => ?_) (fun h => absurd h (by decide))
      refine e_bipush dX8_played_20 rfl kb_m2 ?_
      refine e_iret dX8_played_22 ?_
      first | exact absurd hT g5 | omega
  · refine MT.of [some (vR 0), some (vI t), none, none, none, none] ⟨by decide, rfl⟩ rfl (Nat.le_of_ble_eq_true rfl) (fun hA hM => ?_)
    refine e_aload0 dX8_played_0 ?_
    refine e_getR fl_X8_12 la_0 rfl dX8_played_1 ?_
    refine e_iload1 dX8_played_4 ?_
    refine e_cVZ (ct_X0_isText (d := d - 1) (by omega)) cy_X0_isText cv_X0_isText ml_X8_189 la_1 rfl rfl rfl (rok (by omega) (by decide)) (Nat.le_of_ble_eq_true rfl) dX8_played_5 (fun g5 => ?_) (fun g5 => ?_)
    · refine e_if_eq (tgt := 20) dX8_played_8 (by decide) (fun h => absurd h (by decide)) (fun _ => ?_)
      refine e_iload1 dX8_played_11 ?_
      refine e_aload0 dX8_played_12 ?_
      refine e_getR fl_X8_31 la_0 rfl dX8_played_13 ?_
      refine e_alen la_89 (by decide) (by decide) dX8_played_16 ?_
      refine e_icmp_lt (tgt := 23) dX8_played_17 (by decide) (fun h17 => ?_) (fun h17 => ?_)
      · exact absurd g5 hT
      · refine e_bipush dX8_played_20 rfl kb_m2 ?_
        refine e_iret dX8_played_22 ?_
        exact ⟨_, rfl, Or.inr ⟨hT, rfl, rfl⟩⟩
    · refine e_if_eq (tgt := 20) dX8_played_8 (by decide) (fun _ => ?_) (fun h => absurd h (by decide))
      refine e_bipush dX8_played_20 rfl kb_m2 ?_
      refine e_iret dX8_played_22 ?_
      exact ⟨_, rfl, Or.inr ⟨hT, rfl, rfl⟩⟩
end PLAYED
