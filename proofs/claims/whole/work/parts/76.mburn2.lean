/-! THE MODEL BURNS, whole -/
section MBURN2
variable {l : Launch} {w : Wd} {d : Nat} {M : Mem} {Q : Option MV → Mem → Prop}
theorem ct_X9_burn {G : Mem} (hd : 6 ≤ d) (hg : GS G M) {c : Int} : GI l w yX9_burn cX9_burn 10 .int d [vR 134, vI c] M (fun x M1 => x = burnX G c ∧ FD M M1 ∧ GS (burnZ G c) M1) := by
  have nn := hg.nn
  have hA := hg.1
  have hR := hg.2.2.1
  have hG := hA.gm
  have e0 := hR.1.1.1
  have e1 := hR.1.1.2.1
  have hsz := hG.sz
  have hS := hG.2.1
  have hq := (nxt_ok hS).1
  have bad : ¬ okBurn G c → ∃ x, some (vI (-1)) = some (vI x) ∧ x = burnX G c ∧ FD M M ∧ GS (burnZ G c) M := by
    intro nk
    refine ⟨-1, rfl, ?_, FD.rf M, ?_⟩
    · unfold burnX; rw [if_neg nk]
    · unfold burnZ; rw [if_neg nk]; exact hg
  refine MT.of [some (vR 134), some (vI c), none, none, none, none, none, none, none, none] ⟨by decide, rfl⟩ rfl (Nat.le_of_ble_eq_true rfl) (fun hA hM => ?_)
  by_cases hc : isC G c ∧ G 8 c.toNat = 1
  · obtain ⟨c', rfl⟩ : ∃ n : Nat, c = n := ⟨c.toNat, by have := hc.1.1; omega⟩
    have hc1 := hc.1.2
    have hs1 := hc.2
    rw [toN] at hs1
    have hst := hG.2.2.2.2.2 c' hc.1
    rw [toN] at hst
    have hh := (hst.2.2 (Or.inl hs1)).1
    have hnl := (hst.2.2 (Or.inl hs1)).2
    have th := hg.2.1 c' hc1
    have h7 := hG.1.1.2.2 c' (by have := hG.1.1.2.1; omega)
    have h10 := hG.2.2.1.2 c' hc.1
    rw [toN] at h10
    have hc6 : c' < 6 := by have := hG.1.1.2.1; omega
    obtain ⟨h', eh⟩ : ∃ n : Nat, G 9 c' = n := ⟨(G 9 c').toNat, by have := hh.1; omega⟩
    obtain ⟨i', ei⟩ : ∃ n : Nat, G 10 c' = n := ⟨(G 10 c').toNat, by omega⟩
    have hh1 : (h' : Int) < G 1 0 := by rw [← eh]; exact hh.2
    have ok : okBurn G c' := ⟨hc.1, by rw [toN]; exact hs1, by rw [toN]; exact hh, hc.1, by rw [toN]; omega, by rw [toN]; omega⟩
    obtain ⟨chg, hdl⟩ := chg_burn hG ok
    have hdr := hG.dr
    have ac := hR.c0 hc1
    have aw := hR.h0 hh1
    have hw3 := hG.1.2.1 h' (by have := hG.1.1.1; omega)
    have hl5 := hG.lt h' (by have := hG.1.1.1; omega)
    have hin : isIn G c' i' := ⟨hc.1, by omega, by rw [toN]; omega⟩
    have eow : ownr G c' i' = G 11 (12 * c' + i') := by unfold ownr; rw [if_pos hin]; congr 1; omega
    have e11 := ac.2.2.2 i' (by omega)
    -- the class's memory behind the keeping
    have ko : ∀ o, (o < 25 ∨ 56 < o) → keepM G (nxt G) c' (-1) o = G o := fun o ho => keepM_o (by omega) (by omega)
    have k1 := ko 1 (by decide)
    have hLK : LW (keepM G (nxt G) c' (-1)) := LW.st (keepM_st hq) hG.1
    have hRK : LR (keepM G (nxt G) c' (-1)) (keepA (M 135)) := ⟨hR.1.fr hG.1.1 (fun k _ _ => by rw [k1]) (fun o ho => ko o (by omega)) (fun k a b => keepA_lo (by omega) b), (hR.2.2.1.ka hsz).kp hq⟩
    have eX := ko 3 (by decide)
    have etl : ∀ k : Int, tellV (keepM G (nxt G) c' (-1)) k h' c' i' = tellV G k h' c' i' := fun k => tellV_st (keepM_st hq) hG.1.2.2.2.1 k h' c' i'
    have eoK : ownr (keepM G (nxt G) c' (-1)) c' i' = ownr G c' i' := by unfold ownr isIn isC; rw [k1, ko 7 (by decide), ko 11 (by decide)]
    have hTK : ∀ N, FD M N → TXS (keepM G (nxt G) c' (-1)) N := fun N hf => hg.2.2.2.fr (by rw [k1]) (by rw [k1]) (fun o a b => ko o (by omega)) (fun o a b => hf o (by omega) (by omega) (by omega))
    have hlaw : ∀ (N : Mem) (u : Nat), u < 4 → FD M N → N 135 = keepA (M 135) → GI l w yX9_lawFor cX9_lawFor 5 .int (d - 1) [vR 134, vI (u : Int), vI (h' : Int), vI (c' : Int), vI (i' : Int)] N (fun x M1 => x = tellV (keepM G (nxt G) c' (-1)) u h' c' i' ∧ FM N M1) := fun N u hu hf h135 => ct_X9_lawFor (d := d - 1) (by omega) hu (by rw [k1]; exact hh1) (by rw [k1]; exact hc1) (by omega) hLK (by rw [ko 6 (by decide)]; exact th.1) (by rw [h135]; exact hRK) (hTK N hf)
    -- from the drip on
    have h234 : ∀ (N : Mem) (B : Nat → Int) (v4 v5 v6 v7 : Int), FD M N → LR (burnB G c') B → (∀ k, k < 40 ∨ 520 ≤ k → B k = keepA (M 135) k) → WM l w RX9 cX9_burn 10 (some .int) d (fun r M1 => ∃ x, r = some (vI x) ∧ x = burnX G c' ∧ FD M M1 ∧ GS (burnZ G c') M1) 234 [some (vR 134), some (vI (c' : Int)), some (vI (h' : Int)), some (vI ((i' + 1 : Nat) : Int)), some (vI v4), some (vI v5), some (vI v6), some (vI v7), none, none] [] (setA N B) := by
      intro N B v4 v5 v6 v7 hf hLR hout
      have bo : ∀ o, (o < 25 ∨ 56 < o) → o ≠ 1 → o ≠ 3 → o ≠ 4 → o ≠ 5 → o ≠ 10 → o ≠ 12 → burnB G c' o = G o := fun o a b c e f g h => burnB_o hS (by omega) (by omega) b c e f g h
      have b1 : ∀ k, k ≠ 13 → burnB G c' 1 k = G 1 k := fun k hk => burnB_1 hS hk
      have b13 : burnB G c' 1 13 = G 1 13 + 1 := by
        unfold burnB burnI
        have e13 : bI2 (keepM G (nxt G) c' (-1)) c' (G 10 c') (G 9 c') 1 13 = G 1 13 := by rw [bI2_o (by decide) (by decide) (by decide), k1]
        rw [toN, up_o (by omega), adD_13 (by rw [e13]; exact hdl), e13]
      have hLB : LW (burnB G c') := by
        have hI := burnI_LW (c := c') (i := G 10 c') (h := G 9 c') hLK (by unfold isH; rw [k1]; exact hh)
        unfold burnB
        rw [toN]
        exact hI.x (by rw [up_o (by decide)]) (by rw [up_o (by decide)]) (by rw [up_o (by decide)]) (by rw [up_o (by decide)]) (fun o ho => by rw [up_row (by omega)])
      refine mpass (by omega) hLB ⟨by rw [b1 0 (by decide)]; exact hsz.1, by rw [b1 5 (by decide)]; exact hsz.2.1, by rw [b13]; omega⟩ hLR (hg.2.2.2.fr (b1 15 (by decide)) (b1 16 (by decide)) (fun o a b => bo o (by omega) (by omega) (by omega) (by omega) (by omega) (by omega) (by omega)) (fun o a b => by rw [setA_o (by omega)]; exact hf o (by omega) (by omega) (by omega))) (by rw [b1 5 (by decide)]; exact hc1) (by rw [bo 7 (by decide) (by decide) (by decide) (by decide) (by decide) (by decide) (by decide)]; omega) (by rw [bo 6 (by decide) (by decide) (by decide) (by decide) (by decide) (by decide) (by decide)]; exact th.1) (fun hi => ?_) (by rw [b1 12 (by decide)]; exact hG.2.2.2.1) (fun N' B' hf' hrw hk' => ?_)
      · have b7 := bo 7 (by decide) (by decide) (by decide) (by decide) (by decide) (by decide) (by decide)
        have b11 := bo 11 (by decide) (by decide) (by decide) (by decide) (by decide) (by decide) (by decide)
        have hi2 : isIn G c' ((i' + 1 : Nat) : Int) := by unfold isIn isC at hi ⊢; rw [b1 5 (by decide), b7] at hi; exact hi
        have eo : ownr (burnB G c') c' ((i' + 1 : Nat) : Int) = ownr G c' ((i' + 1 : Nat) : Int) := by unfold ownr isIn isC; rw [b1 5 (by decide), b7, b11]
        rw [eo]
        unfold isH
        rw [b1 0 (by decide)]
        exact hG.2.2.1.1 c' _ hi2
      · have ebm : passM (burnB G c') c' ((i' + 1 : Nat) : Int) h' = burnM G c' := by unfold burnM; rw [toN, ei, eh]; rfl
        rw [ebm] at hrw ⊢
        refine ⟨_, rfl, ?_, ?_, ?_⟩
        · unfold burnX; rw [if_pos ok, toN]
        · exact (hf.tr hf').a
        · unfold burnZ
          rw [if_pos ok]
          refine hg.step chg hc1 (hG.burn ok) (by rw [setA_a]; exact hrw) (fun k hk => ?_) (fun k hk => ?_) (hf.tr hf').a
          · rw [setA_a, hk' k (Or.inl hk), hout k (Or.inl hk)]
          · rw [setA_a, hk' k (Or.inr hk), hout k (Or.inr hk)]
    have h146 : ∀ (N : Mem) (B : Nat → Int) (v6 : Int), FD M N → RW (bI2 (keepM G (nxt G) c' (-1)) c' i' h') B 40 → (∀ k, k < 40 ∨ 520 ≤ k → B k = keepA (M 135) k) → WM l w RX9 cX9_burn 10 (some .int) d (fun r M1 => ∃ x, r = some (vI x) ∧ x = burnX G c' ∧ FD M M1 ∧ GS (burnZ G c') M1) 146 [some (vR 134), some (vI (c' : Int)), some (vI (h' : Int)), some (vI (i' : Int)), some (vI (tellV G 1 h' c' i')), some (vI (tellV G 2 h' c' i')), some (vI v6), none, none, none] [] (setA N B) := by
      intro N B v6 hf hrw hout
      have eI : ∀ k, bI2 (keepM G (nxt G) c' (-1)) c' i' h' 1 k = G 1 k := fun k => by rw [bI2_o (by decide) (by decide) (by decide), k1]
      have eBI : burnB G c' = up (addD (bI2 (keepM G (nxt G) c' (-1)) c' i' h') c' i' h' (tellV G 1 h' c' i') (tellV G 2 h' c' i')) 10 c' ((i' : Int) + 1) := by
        unfold burnB burnI adD
        rw [toN, ei, eh, if_pos (by rw [eI]; exact hdl), etl, etl]
      have szb : szI (bI2 (keepM G (nxt G) c' (-1)) c' i' h') := ⟨by rw [eI]; exact hsz.1, by rw [eI]; exact hsz.2.1, by rw [eI]; omega⟩
      have hrd := hrw.d (c := c') (i := i') (h := h') (m := tellV G 1 h' c' i') (t := tellV G 2 h' c' i') (n := 155 + 5 * (G 1 13).toNat) szb (by rw [eI]; omega) (by rw [eI])
      rw [eI] at hrd
      have b154 : B 154 = G 1 13 := by rw [← eI 13]; exact hrw.2.2.2.1
      have hrc := hrd.c (o := 10) (k := c') (v := (i' : Int) + 1) (n := 64 + 15 * c' + 2) (szb.fr (aD_1 (by decide)) (aD_1 (by decide)) (by unfold addD; rw [up_s, eI]; omega)) (Or.inr (Or.inr rfl)) (by rw [aD_1 (by decide), eI]; exact hc1) (by omega)
      rw [← eBI] at hrc
      have hLR : LR (burnB G c') (setN (setN (setN (setN (setN (setN (setN B (155 + 5 * (G 1 13).toNat) c') (155 + 5 * (G 1 13).toNat + 1) i') (155 + 5 * (G 1 13).toNat + 2) h') (155 + 5 * (G 1 13).toNat + 3) (tellV G 1 h' c' i')) (155 + 5 * (G 1 13).toNat + 4) (tellV G 2 h' c' i')) (40 + 114) (G 1 13 + 1)) (64 + 15 * c' + 2) ((i' : Int) + 1)) := by
        refine ⟨hR.1.fr hG.1.1 (fun k a b => burnB_1 hS b) (fun o ho => burnB_o hS (by omega) (by omega) (by omega) (by omega) (by omega) (by omega) (by omega) (by omega)) (fun k a b => ?_), hrc⟩
        rw [setN_o (by omega), setN_o (by omega), setN_o (by omega), setN_o (by omega), setN_o (by omega), setN_o (by omega), setN_o (by omega), hout k (Or.inl a), keepA_lo (by omega) b]
      have hnx := h234 N _ (tellV G 1 h' c' i') (tellV G 2 h' c' i') v6 ((155 + 5 * (G 1 13).toNat : Nat) : Int) hf hLR (fun k hk => by rw [setN_o (by omega), setN_o (by omega), setN_o (by omega), setN_o (by omega), setN_o (by omega), setN_o (by omega), setN_o (by omega), hout k hk])
      rw [← setA_u, ← setA_u, ← setA_u, ← setA_u, ← setA_u, ← setA_u, ← setA_u] at hnx
      refine e_sipush dX9_burn_146 rfl ks_155 ?_
      refine e_iconst dX9_burn_149 rfl kc_5 ?_
      refine e_aload0 dX9_burn_150 ?_
      refine e_getR fl_X9_7 la_134 rfl dX9_burn_151 ?_
      refine e_sipush dX9_burn_154 rfl ks_154 ?_
      refine e_ialdK (k := 154) la_135 (by decide) (rfl) dX9_burn_157 ?_
      refine WW.ec (y := G 1 13) (by rw [setA_a]; exact b154) ?_
      refine e_imul dX9_burn_158 (⟨by omega, by omega⟩) ?_
      refine e_iadd dX9_burn_159 (⟨by omega, by omega⟩) ?_
      refine WW.ec (y := ((155 + 5 * (G 1 13).toNat : Nat) : Int)) (by omega) ?_
      refine e_istore7 dX9_burn_160 rfl ?_
      refine e_aload0 dX9_burn_162 ?_
      refine e_getR fl_X9_7 la_134 rfl dX9_burn_163 ?_
      refine e_iload7 dX9_burn_166 ?_
      refine e_iload1 dX9_burn_168 ?_
      refine e_iastK (k := 155 + 5 * (G 1 13).toNat) la_135 (by omega) (by omega) dX9_burn_169 ?_
      refine e_aload0 dX9_burn_170 ?_
      refine e_getR fl_X9_7 la_134 rfl dX9_burn_171 ?_
      refine e_iload7 dX9_burn_174 ?_
      refine e_iconst dX9_burn_176 rfl kc_1 ?_
      refine e_iadd dX9_burn_177 (⟨by omega, by omega⟩) ?_
      refine e_iload3 dX9_burn_178 ?_
      refine e_iastK (k := 155 + 5 * (G 1 13).toNat + 1) la_135 (by omega) (by omega) dX9_burn_179 ?_
      refine e_aload0 dX9_burn_180 ?_
      refine e_getR fl_X9_7 la_134 rfl dX9_burn_181 ?_
      refine e_iload7 dX9_burn_184 ?_
      refine e_iconst dX9_burn_186 rfl kc_2 ?_
      refine e_iadd dX9_burn_187 (⟨by omega, by omega⟩) ?_
      refine e_iload2 dX9_burn_188 ?_
      refine e_iastK (k := 155 + 5 * (G 1 13).toNat + 2) la_135 (by omega) (by omega) dX9_burn_189 ?_
      refine e_aload0 dX9_burn_190 ?_
      refine e_getR fl_X9_7 la_134 rfl dX9_burn_191 ?_
      refine e_iload7 dX9_burn_194 ?_
      refine e_iconst dX9_burn_196 rfl kc_3 ?_
      refine e_iadd dX9_burn_197 (⟨by omega, by omega⟩) ?_
      refine e_iload4 dX9_burn_198 ?_
      refine e_iastK (k := 155 + 5 * (G 1 13).toNat + 3) la_135 (by omega) (by omega) dX9_burn_200 ?_
      refine e_aload0 dX9_burn_201 ?_
      refine e_getR fl_X9_7 la_134 rfl dX9_burn_202 ?_
      refine e_iload7 dX9_burn_205 ?_
      refine e_iconst dX9_burn_207 rfl kc_4 ?_
      refine e_iadd dX9_burn_208 (⟨by omega, by omega⟩) ?_
      refine e_iload5 dX9_burn_209 ?_
      refine e_iastK (k := 155 + 5 * (G 1 13).toNat + 4) la_135 (by omega) (by omega) dX9_burn_211 ?_
      refine e_aload0 dX9_burn_212 ?_
      refine e_getR fl_X9_7 la_134 rfl dX9_burn_213 ?_
      refine e_sipush dX9_burn_216 rfl ks_154 ?_
      refine e_dup2 dX9_burn_219 rfl rfl ?_
      refine e_ialdK (k := 154) la_135 (by decide) (rfl) dX9_burn_220 ?_
      refine WW.ec (y := G 1 13) (by rw [up_k (by omega), up_k (by omega), up_k (by omega), up_k (by omega), up_k (by omega), setA_a]; exact b154) ?_
      refine e_iconst dX9_burn_221 rfl kc_1 ?_
      refine e_iadd dX9_burn_222 (⟨by omega, by omega⟩) ?_
      refine e_iastK (k := 154) la_135 (by decide) (rfl) dX9_burn_223 ?_
      refine e_iinc3 dX9_burn_224 rfl (⟨by omega, by omega⟩) rfl ?_
      refine e_aload0 dX9_burn_227 ?_
      refine e_iload1 dX9_burn_228 ?_
      refine e_iconst dX9_burn_229 rfl kc_2 ?_
      refine e_iload3 dX9_burn_230 ?_
      refine e_cVV (ct_X9_puts (d := d - 1) (k := 2) hc6 (by decide)) cy_X9_puts cv_X9_puts ml_X9_336 la_134 rfl rfl rfl (rok (by omega) (by decide)) (Nat.le_of_ble_eq_true rfl) dX9_burn_231 ?_
      exact hnx
    have h68 : ∀ (N : Mem), FD M N → N 135 = keepA (M 135) → WM l w RX9 cX9_burn 10 (some .int) d (fun r M1 => ∃ x, r = some (vI x) ∧ x = burnX G c' ∧ FD M M1 ∧ GS (burnZ G c') M1) 68 [some (vR 134), some (vI (c' : Int)), some (vI (h' : Int)), some (vI (i' : Int)), some (vI (tellV G 1 h' c' i')), some (vI (tellV G 2 h' c' i')), some (vI (tellV G 0 h' c' i')), none, none, none] [] N := by
      intro N hf h135
      have hk0 := tellV_b G 0 h' c' i'
      have hk1 := tellV_b G 1 h' c' i'
      have hk2 := tellV_b G 2 h' c' i'
      have szk := hsz.kp (c := c') (i := -1) hq
      have r1 := hRK.2.h (o := 5) (k := h') (v := G 5 h' + tellV G 1 h' c' i') (n := 56 + h') szk (Or.inr (Or.inr rfl)) (by rw [k1]; exact hh1) (by omega)
      have r2 := r1.h (o := 3) (k := h') (v := min 999 (G 3 h' + tellV G 2 h' c' i')) (n := 40 + h') (szk.u (by decide)) (Or.inl rfl) (by rw [up_o (by decide), k1]; exact hh1) (by omega)
      have r3 := r2.h (o := 4) (k := h') (v := min 999 (G 4 h' + tellV G 0 h' c' i')) (n := 48 + h') ((szk.u (by decide)).u (by decide)) (Or.inr (Or.inl rfl)) (by rw [up_o (by decide), up_o (by decide), k1]; exact hh1) (by omega)
      have ebi1 : bI1 (keepM G (nxt G) c' (-1)) c' i' h' = up (up (keepM G (nxt G) c' (-1)) 5 h' (G 5 h' + tellV G 1 h' c' i')) 3 h' (min 999 (G 3 h' + tellV G 2 h' c' i')) := by unfold bI1; rw [toN, etl, etl, ko 5 (by decide), ko 3 (by decide)]
      have f40 : keepA (M 135) (40 + h') = G 3 h' := by rw [keepA_lo (by omega) (by omega)]; exact aw.1
      have f48 : keepA (M 135) (48 + h') = G 4 h' := by rw [keepA_lo (by omega) (by omega)]; exact aw.2.1
      have f56 : keepA (M 135) (56 + h') = G 5 h' := by rw [keepA_lo (by omega) (by omega)]; exact aw.2.2
      have f11 : keepA (M 135) (67 + 15 * c' + i') = ownr G c' i' := by rw [keepA_lo (by omega) (by omega), e11, eow]
      by_cases how : ownr G c' i' = -1
      · have ebi2 : bI2 (keepM G (nxt G) c' (-1)) c' i' h' = up (up (up (keepM G (nxt G) c' (-1)) 5 h' (G 5 h' + tellV G 1 h' c' i')) 3 h' (min 999 (G 3 h' + tellV G 2 h' c' i'))) 4 h' (min 999 (G 4 h' + tellV G 0 h' c' i')) := by unfold bI2; rw [if_pos (by rw [eoK]; exact how), ebi1, toN, etl, ko 4 (by decide)]
        rw [← ebi2] at r3
        have hnx := h146 N _ (tellV G 0 h' c' i') hf r3 (fun k hk => by rw [setN_o (by omega), setN_o (by omega), setN_o (by omega)])
        rw [← setA_u, ← setA_u, ← setA_u, setA_me h135] at hnx
        refine e_aload0 dX9_burn_68 ?_
        refine e_getR fl_X9_7 la_134 rfl dX9_burn_69 ?_
        refine e_bipush dX9_burn_72 rfl kb_56 ?_
        refine e_iload2 dX9_burn_74 ?_
        refine e_iadd dX9_burn_75 (⟨by omega, by omega⟩) ?_
        refine e_dup2 dX9_burn_76 rfl rfl ?_
        refine e_ialdK (k := 56 + h') la_135 (by omega) (by omega) dX9_burn_77 ?_
        refine WW.ec (y := G 5 h') (by rw [h135, f56]) ?_
        refine e_iload4 dX9_burn_78 ?_
        refine e_iadd dX9_burn_80 (⟨by omega, by omega⟩) ?_
        refine e_iastK (k := 56 + h') la_135 (by omega) (by omega) dX9_burn_81 ?_
        refine e_aload0 dX9_burn_82 ?_
        refine e_getR fl_X9_7 la_134 rfl dX9_burn_83 ?_
        refine e_bipush dX9_burn_86 rfl kb_40 ?_
        refine e_iload2 dX9_burn_88 ?_
        refine e_iadd dX9_burn_89 (⟨by omega, by omega⟩) ?_
        refine e_sipush dX9_burn_90 rfl ks_999 ?_
        refine e_aload0 dX9_burn_93 ?_
        refine e_getR fl_X9_7 la_134 rfl dX9_burn_94 ?_
        refine e_bipush dX9_burn_97 rfl kb_40 ?_
        refine e_iload2 dX9_burn_99 ?_
        refine e_iadd dX9_burn_100 (⟨by omega, by omega⟩) ?_
        refine e_ialdK (k := 40 + h') la_135 (by omega) (by omega) dX9_burn_101 ?_
        refine WW.ec (y := G 3 h') (by rw [up_k (by omega), h135, f40]) ?_
        refine e_iload5 dX9_burn_102 ?_
        refine e_iadd dX9_burn_104 (⟨by omega, by omega⟩) ?_
        refine e_cSI (ct_X9_least (d := d - 1)) cy_X9_least cs_X9_least ml_X9_340 rfl rfl (rok (by omega) (by decide)) (Nat.le_of_ble_eq_true rfl) dX9_burn_105 ?_
        refine e_iastK (k := 40 + h') la_135 (by omega) (by omega) dX9_burn_108 ?_
        refine e_aload0 dX9_burn_109 ?_
        refine e_iload1 dX9_burn_110 ?_
        refine e_iload3 dX9_burn_111 ?_
        refine e_cVI (ct_X9_ownerOf (d := d - 1) hc6 (by omega)) cy_X9_ownerOf cv_X9_ownerOf ml_X9_330 la_134 rfl rfl rfl (rok (by omega) (by decide)) (Nat.le_of_ble_eq_true rfl) dX9_burn_112 ?_
        refine WW.ec (y := -1) (by rw [up_k (by omega), up_k (by omega), h135, f11, how]) ?_
        refine e_iconst dX9_burn_115 rfl kc_m1 ?_
        refine e_icmp_ne (tgt := 146) dX9_burn_116 (by decide) (fun h => absurd h (fun z => z rfl)) (fun h116 => ?_)
        refine e_aload0 dX9_burn_119 ?_
        refine e_getR fl_X9_7 la_134 rfl dX9_burn_120 ?_
        refine e_bipush dX9_burn_123 rfl kb_48 ?_
        refine e_iload2 dX9_burn_125 ?_
        refine e_iadd dX9_burn_126 (⟨by omega, by omega⟩) ?_
        refine e_sipush dX9_burn_127 rfl ks_999 ?_
        refine e_aload0 dX9_burn_130 ?_
        refine e_getR fl_X9_7 la_134 rfl dX9_burn_131 ?_
        refine e_bipush dX9_burn_134 rfl kb_48 ?_
        refine e_iload2 dX9_burn_136 ?_
        refine e_iadd dX9_burn_137 (⟨by omega, by omega⟩) ?_
        refine e_ialdK (k := 48 + h') la_135 (by omega) (by omega) dX9_burn_138 ?_
        refine WW.ec (y := G 4 h') (by rw [up_k (by omega), up_k (by omega), h135, f48]) ?_
        refine e_iload6 dX9_burn_139 ?_
        refine e_iadd dX9_burn_141 (⟨by omega, by omega⟩) ?_
        refine e_cSI (ct_X9_least (d := d - 1)) cy_X9_least cs_X9_least ml_X9_340 rfl rfl (rok (by omega) (by decide)) (Nat.le_of_ble_eq_true rfl) dX9_burn_142 ?_
        refine e_iastK (k := 48 + h') la_135 (by omega) (by omega) dX9_burn_145 ?_
        exact hnx
      · have ebi2 : bI2 (keepM G (nxt G) c' (-1)) c' i' h' = up (up (keepM G (nxt G) c' (-1)) 5 h' (G 5 h' + tellV G 1 h' c' i')) 3 h' (min 999 (G 3 h' + tellV G 2 h' c' i')) := by unfold bI2; rw [if_neg (by rw [eoK]; exact how), ebi1]
        rw [← ebi2] at r2
        have hnx := h146 N _ (tellV G 0 h' c' i') hf r2 (fun k hk => by rw [setN_o (by omega), setN_o (by omega)])
        rw [← setA_u, ← setA_u, setA_me h135] at hnx
        refine e_aload0 dX9_burn_68 ?_
        refine e_getR fl_X9_7 la_134 rfl dX9_burn_69 ?_
        refine e_bipush dX9_burn_72 rfl kb_56 ?_
        refine e_iload2 dX9_burn_74 ?_
        refine e_iadd dX9_burn_75 (⟨by omega, by omega⟩) ?_
        refine e_dup2 dX9_burn_76 rfl rfl ?_
        refine e_ialdK (k := 56 + h') la_135 (by omega) (by omega) dX9_burn_77 ?_
        refine WW.ec (y := G 5 h') (by rw [h135, f56]) ?_
        refine e_iload4 dX9_burn_78 ?_
        refine e_iadd dX9_burn_80 (⟨by omega, by omega⟩) ?_
        refine e_iastK (k := 56 + h') la_135 (by omega) (by omega) dX9_burn_81 ?_
        refine e_aload0 dX9_burn_82 ?_
        refine e_getR fl_X9_7 la_134 rfl dX9_burn_83 ?_
        refine e_bipush dX9_burn_86 rfl kb_40 ?_
        refine e_iload2 dX9_burn_88 ?_
        refine e_iadd dX9_burn_89 (⟨by omega, by omega⟩) ?_
        refine e_sipush dX9_burn_90 rfl ks_999 ?_
        refine e_aload0 dX9_burn_93 ?_
        refine e_getR fl_X9_7 la_134 rfl dX9_burn_94 ?_
        refine e_bipush dX9_burn_97 rfl kb_40 ?_
        refine e_iload2 dX9_burn_99 ?_
        refine e_iadd dX9_burn_100 (⟨by omega, by omega⟩) ?_
        refine e_ialdK (k := 40 + h') la_135 (by omega) (by omega) dX9_burn_101 ?_
        refine WW.ec (y := G 3 h') (by rw [up_k (by omega), h135, f40]) ?_
        refine e_iload5 dX9_burn_102 ?_
        refine e_iadd dX9_burn_104 (⟨by omega, by omega⟩) ?_
        refine e_cSI (ct_X9_least (d := d - 1)) cy_X9_least cs_X9_least ml_X9_340 rfl rfl (rok (by omega) (by decide)) (Nat.le_of_ble_eq_true rfl) dX9_burn_105 ?_
        refine e_iastK (k := 40 + h') la_135 (by omega) (by omega) dX9_burn_108 ?_
        refine e_aload0 dX9_burn_109 ?_
        refine e_iload1 dX9_burn_110 ?_
        refine e_iload3 dX9_burn_111 ?_
        refine e_cVI (ct_X9_ownerOf (d := d - 1) hc6 (by omega)) cy_X9_ownerOf cv_X9_ownerOf ml_X9_330 la_134 rfl rfl rfl (rok (by omega) (by decide)) (Nat.le_of_ble_eq_true rfl) dX9_burn_112 ?_
        refine WW.ec (y := ownr G c' i') (by rw [up_k (by omega), up_k (by omega), h135, f11]) ?_
        refine e_iconst dX9_burn_115 rfl kc_m1 ?_
        refine e_icmp_ne (tgt := 146) dX9_burn_116 (by decide) (fun h116 => ?_) (fun h => absurd h (by omega))
        exact hnx
    refine e_aload0 dX9_burn_0 ?_
    refine e_iload1 dX9_burn_1 ?_
    refine e_cVZ (ct_X9_isCandle (d := d - 1) (by omega) nn.2.1) cy_X9_isCandle cv_X9_isCandle ml_X9_320 la_134 rfl rfl rfl (rok (by omega) (by decide)) (Nat.le_of_ble_eq_true rfl) dX9_burn_2 (fun g2 => ?_) (fun g2 => ?_)
    · refine e_if_eq (tgt := 18) dX9_burn_5 (by decide) (fun h => absurd h (by decide)) (fun _ => ?_)
      refine e_aload0 dX9_burn_8 ?_
      refine e_iload1 dX9_burn_9 ?_
      refine e_iconst dX9_burn_10 rfl kc_0 ?_
      refine e_cVI (ct_X9_ofCandle (d := d - 1) (k := 0) hc6 (by decide)) cy_X9_ofCandle cv_X9_ofCandle ml_X9_327 la_134 rfl rfl rfl (rok (by omega) (by decide)) (Nat.le_of_ble_eq_true rfl) dX9_burn_11 ?_
      refine WW.ec (y := 1) (by rw [ac.1, hs1]) ?_
      refine e_iconst dX9_burn_14 rfl kc_1 ?_
      refine e_icmp_eq (tgt := 20) dX9_burn_15 (by decide) (fun h15 => ?_) (fun h => absurd h (fun z => z rfl))
      refine e_aload0 dX9_burn_20 ?_
      refine e_cVV (ct_X9_keepsStep (d := d - 1) nn.2.2.1) cy_X9_keepsStep cv_X9_keepsStep ml_X9_333 la_134 rfl rfl rfl (rok (by omega) (by decide)) (Nat.le_of_ble_eq_true rfl) dX9_burn_21 ?_
      refine e_aload0 dX9_burn_24 ?_
      refine e_iload1 dX9_burn_25 ?_
      refine e_iconst dX9_burn_26 rfl kc_1 ?_
      refine e_cVI (ct_X9_ofCandle (d := d - 1) (k := 1) hc6 (by decide)) cy_X9_ofCandle cv_X9_ofCandle ml_X9_327 la_134 rfl rfl rfl (rok (by omega) (by decide)) (Nat.le_of_ble_eq_true rfl) dX9_burn_27 ?_
      refine WW.ec (y := (h' : Int)) (by rw [setA_a, keepA_lo (by omega) (by omega), ac.2.1, eh]) ?_
      refine e_istore2 dX9_burn_30 rfl ?_
      refine e_aload0 dX9_burn_31 ?_
      refine e_iload1 dX9_burn_32 ?_
      refine e_iconst dX9_burn_33 rfl kc_2 ?_
      refine e_cVI (ct_X9_ofCandle (d := d - 1) (k := 2) hc6 (by decide)) cy_X9_ofCandle cv_X9_ofCandle ml_X9_327 la_134 rfl rfl rfl (rok (by omega) (by decide)) (Nat.le_of_ble_eq_true rfl) dX9_burn_34 ?_
      refine WW.ec (y := (i' : Int)) (by rw [setA_a, keepA_lo (by omega) (by omega), ac.2.2.1, ei]) ?_
      refine e_istore3 dX9_burn_37 rfl ?_
      refine e_aload0 dX9_burn_38 ?_
      refine e_iconst dX9_burn_39 rfl kc_1 ?_
      refine e_iload2 dX9_burn_40 ?_
      refine e_iload1 dX9_burn_41 ?_
      refine e_iload3 dX9_burn_42 ?_
      refine e_cVGI (hlaw _ 1 (by decide) (FD.rf M).a (setA_a _ _)) cy_X9_lawFor cv_X9_lawFor ml_X9_323 la_134 rfl rfl rfl (rok (by omega) (by decide)) (Nat.le_of_ble_eq_true rfl) dX9_burn_43 (fun x M1 hx => ?_)
      obtain ⟨hx0, hf1⟩ := hx
      obtain rfl : x = tellV G 1 h' c' i' := hx0.trans (etl 1)
      have g1 : FD M M1 := (FD.rf M).a.tr hf1.fd
      have a1 : M1 135 = keepA (M 135) := by rw [hf1 135 (by decide) (by decide), setA_a]
      refine e_istore4 dX9_burn_46 rfl ?_
      refine e_aload0 dX9_burn_48 ?_
      refine e_iconst dX9_burn_49 rfl kc_2 ?_
      refine e_iload2 dX9_burn_50 ?_
      refine e_iload1 dX9_burn_51 ?_
      refine e_iload3 dX9_burn_52 ?_
      refine e_cVGI (hlaw _ 2 (by decide) g1 a1) cy_X9_lawFor cv_X9_lawFor ml_X9_323 la_134 rfl rfl rfl (rok (by omega) (by decide)) (Nat.le_of_ble_eq_true rfl) dX9_burn_53 (fun x M2 hx => ?_)
      obtain ⟨hx0, hf2⟩ := hx
      obtain rfl : x = tellV G 2 h' c' i' := hx0.trans (etl 2)
      have g2 : FD M M2 := g1.tr hf2.fd
      have a2 : M2 135 = keepA (M 135) := by rw [hf2 135 (by decide) (by decide), a1]
      refine e_istore5 dX9_burn_56 rfl ?_
      refine e_aload0 dX9_burn_58 ?_
      refine e_iconst dX9_burn_59 rfl kc_0 ?_
      refine e_iload2 dX9_burn_60 ?_
      refine e_iload1 dX9_burn_61 ?_
      refine e_iload3 dX9_burn_62 ?_
      refine e_cVGI (hlaw _ 0 (by decide) g2 a2) cy_X9_lawFor cv_X9_lawFor ml_X9_323 la_134 rfl rfl rfl (rok (by omega) (by decide)) (Nat.le_of_ble_eq_true rfl) dX9_burn_63 (fun x M3 hx => ?_)
      obtain ⟨hx0, hf3⟩ := hx
      obtain rfl : x = tellV G 0 h' c' i' := hx0.trans (etl 0)
      have hnx := h68 M3 (g2.tr hf3.fd) (by rw [hf3 135 (by decide) (by decide), a2])
      refine e_istore6 dX9_burn_66 rfl ?_
      exact hnx
    · refine e_if_eq (tgt := 18) dX9_burn_5 (by decide) (fun _ => ?_) (fun h => absurd h (by decide))
      refine e_iconst dX9_burn_18 rfl kc_m1 ?_
      refine e_iret dX9_burn_19 ?_
      exact absurd ⟨hc.1.1, by omega⟩ g2
  · refine e_aload0 dX9_burn_0 ?_
    refine e_iload1 dX9_burn_1 ?_
    refine e_cVZ (ct_X9_isCandle (d := d - 1) (by omega) nn.2.1) cy_X9_isCandle cv_X9_isCandle ml_X9_320 la_134 rfl rfl rfl (rok (by omega) (by decide)) (Nat.le_of_ble_eq_true rfl) dX9_burn_2 (fun g2 => ?_) (fun g2 => ?_)
    · refine e_if_eq (tgt := 18) dX9_burn_5 (by decide) (fun h => absurd h (by decide)) (fun _ => ?_)
      refine e_aload0 dX9_burn_8 ?_
      refine e_iload1 dX9_burn_9 ?_
      refine e_iconst dX9_burn_10 rfl kc_0 ?_
      obtain ⟨c', rfl⟩ : ∃ n : Nat, c = n := ⟨c.toNat, by have := g2.1; omega⟩
      refine e_cVI (ct_X9_ofCandle (d := d - 1) (k := 0) (by omega) (by decide)) cy_X9_ofCandle cv_X9_ofCandle ml_X9_327 la_134 rfl rfl rfl (rok (by omega) (by decide)) (Nat.le_of_ble_eq_true rfl) dX9_burn_11 ?_
      refine e_iconst dX9_burn_14 rfl kc_1 ?_
      refine e_icmp_eq (tgt := 20) dX9_burn_15 (by decide) (fun h15 => ?_) (fun h15 => ?_)
      · exact absurd ⟨⟨g2.1, by omega⟩, by rw [toN, ← (hR.c0 (c := c') (by omega)).1]; exact h15⟩ hc
      · refine e_iconst dX9_burn_18 rfl kc_m1 ?_
        refine e_iret dX9_burn_19 ?_
        exact bad (fun z => hc ⟨z.1, z.2.1⟩)
    · refine e_if_eq (tgt := 18) dX9_burn_5 (by decide) (fun _ => ?_) (fun h => absurd h (by decide))
      refine e_iconst dX9_burn_18 rfl kc_m1 ?_
      refine e_iret dX9_burn_19 ?_
      exact bad (fun z => hc ⟨z.1, z.2.1⟩)
end MBURN2
