/-! THE MODEL REPAYS, LIGHTS -/
def payX (M : Mem) (h k : Int) : Int := if okPay M h k then M 4 h.toNat - k else -1
def payZ (M : Mem) (h k : Int) : Mem := if okPay M h k then payM M h k else M
theorem setN_id {A : Nat → Int} {k : Nat} {v : Int} (h : A k = v) : setN A k v = A := by
  funext q
  by_cases e : q = k
  · rw [e, setN_s, h]
  · rw [setN_o e]
theorem chg_pay {G : Mem} {h k : Int} (hG : GM G) (ok : okPay G h k) : CHG G (-1) (-1) (payM G h k) := by
  have hq := (nxt_ok hG.2.1).1
  have k1 : keepM G (nxt G) (-1) (-1) 1 = G 1 := keepM_o (by decide) (by omega)
  have ko : ∀ o, (o < 25 ∨ 56 < o) → keepM G (nxt G) (-1) (-1) o = G o := fun o ho => keepM_o (by omega) (by omega)
  have h1 := ok.1.2
  have h0 := ok.1.1
  unfold payM
  refine ⟨fun o a b e f g => ?_, ⟨fun k a b => ?_, ?_⟩, fun o ho k hk => ?_, fun o ho k hk => ?_, ⟨fun k hk => ?_, fun hi => absurd hi.1.1 (by decide)⟩, fun k hk => ?_, fun o a b => ?_⟩
  · rw [up_row (by omega), up_row (by omega), ko o g]
  · rw [up_o (by decide), up_o (by decide), k1]
  · rw [up_o (by decide), up_o (by decide), k1]; exact Int.le_refl _
  · rw [up_k (by omega), up_k (by omega), ko o (by omega)]
  · rw [up_o (by omega), up_o (by omega), ko o (by omega)]
  · rw [up_o (by decide), up_o (by decide), ko 11 (by decide)]
  · rw [up_o (by decide), up_o (by decide), ko 12 (by decide)]
  · rw [up_row (by omega), up_row (by omega)]
theorem chg_l1 {G : Mem} {c : Int} (hG : GM G) (hc : isC G c) : CHG G c (-1) (light1 G c) := by
  have hq := (nxt_ok hG.2.1).1
  have k1 : keepM G (nxt G) c (-1) 1 = G 1 := keepM_o (by decide) (by omega)
  have ko : ∀ o, (o < 25 ∨ 56 < o) → keepM G (nxt G) c (-1) o = G o := fun o ho => keepM_o (by omega) (by omega)
  unfold light1
  refine ⟨fun o a b e f g => ?_, ⟨fun k a b => ?_, ?_⟩, fun o ho k hk => ?_, fun o ho k hk => ?_, ⟨fun k hk => ?_, fun hi => absurd hi.2.1 (by decide)⟩, fun k hk => ?_, fun o a b => ?_⟩
  · rw [up_row (by omega), up_row (by omega), ko o g]
  · rw [up_o (by decide), up_o (by decide), k1]
  · rw [up_o (by decide), up_o (by decide), k1]; exact Int.le_refl _
  · rw [up_o (by omega), up_o (by omega), ko o (by omega)]
  · rw [up_k (fun z => hk ⟨hc, z⟩), up_k (fun z => hk ⟨hc, z⟩), ko o (by omega)]
  · rw [up_o (by decide), up_o (by decide), ko 11 (by decide)]
  · rw [up_o (by decide), up_o (by decide), ko 12 (by decide)]
  · rw [up_row (by omega), up_row (by omega)]
theorem chg_l2 {G : Mem} {c : Int} (hG : GM G) (ok : okL2 G c) : CHG G c (-1) (light2 G c) := by
  have hq := (nxt_ok hG.2.1).1
  have k1 : keepM G (nxt G) c (-1) 1 = G 1 := keepM_o (by decide) (by omega)
  have ko : ∀ o, (o < 25 ∨ 56 < o) → keepM G (nxt G) c (-1) o = G o := fun o ho => keepM_o (by omega) (by omega)
  have hh := ok.2.2.1
  have hh0 := hh.1
  have hh1 := hh.2
  unfold light2
  refine ⟨fun o a b e f g => ?_, ⟨fun k a b => ?_, ?_⟩, fun o ho k hk => ?_, fun o ho k hk => ?_, ⟨fun k hk => ?_, fun hi => absurd hi.2.1 (by decide)⟩, fun k hk => ?_, fun o a b => ?_⟩
  · rw [up_row (by omega), up_row (by omega), ko o g]
  · rw [up_o (by decide), up_o (by decide), k1]
  · rw [up_o (by decide), up_o (by decide), k1]; exact Int.le_refl _
  · rw [up_o (by omega), up_k (by omega), ko o (by omega)]
  · rw [up_k (fun z => hk ⟨ok.1, z⟩), up_o (by omega), ko o (by omega)]
  · rw [up_o (by decide), up_o (by decide), ko 11 (by decide)]
  · rw [up_o (by decide), up_o (by decide), ko 12 (by decide)]
  · rw [up_row (by omega), up_row (by omega)]
section MLIGHT
variable {l : Launch} {w : Wd} {d : Nat} {M : Mem} {Q : Option MV → Mem → Prop}
theorem ct_X9_repay {G : Mem} (hd : 2 ≤ d) (hg : GS G M) {h k : Int} : GI l w yX9_repay cX9_repay 3 .int d [vR 134, vI h, vI k] M (fun x M1 => x = payX G h k ∧ FD M M1 ∧ GS (payZ G h k) M1) := by
  have nn := hg.nn
  have hA := hg.1
  have hR := hg.2.2.1
  have hG := hA.gm
  have e0 := hR.1.1.1
  have hsz := hG.sz
  have hq := (nxt_ok hG.2.1).1
  have bad : ¬ okPay G h k → ∃ x, some (vI (-1)) = some (vI x) ∧ x = payX G h k ∧ FD M M ∧ GS (payZ G h k) M := by
    intro nk
    refine ⟨-1, rfl, ?_, FD.rf M, ?_⟩
    · unfold payX; rw [if_neg nk]
    · unfold payZ; rw [if_neg nk]; exact hg
  refine MT.of [some (vR 134), some (vI h), some (vI k)] ⟨by decide, rfl⟩ rfl (Nat.le_of_ble_eq_true rfl) (fun hA hM => ?_)
  by_cases hh : isH G h
  · obtain ⟨h', rfl⟩ : ∃ n : Nat, h = n := ⟨h.toNat, by have := hh.1; omega⟩
    have hh1 := hh.2
    have aw := hR.h0 hh1
    have hw3 := hG.1.2.1 h' (by omega)
    have good : okPay G h' k → GS (payZ G h' k) (up (up (setA M (keepA (M 135))) 135 (48 + h') (G 4 h' - k)) 135 (40 + h') (G 3 h' - k)) := by
      intro ok
      unfold payZ
      rw [if_pos ok, setA_u, setA_u]
      refine hg.step (chg_pay hG ok) (by have := hG.1.1.2.1; omega) (hG.pay ok) ?_ (fun k hk => ?_) (fun k hk => ?_) (FD.rf M).a
      · rw [setA_a]
        unfold payM
        rw [toN]
        have e1 : keepM G (nxt G) (-1) (-1) 1 = G 1 := keepM_o (by decide) (by omega)
        exact (((hR.2.2.1.ka hsz).kp hq).h (o := 4) (k := h') (hsz.kp hq) (Or.inr (Or.inl rfl)) (by rw [e1]; exact hh1) (by omega)).h (o := 3) (k := h') ((hsz.kp hq).u (by decide)) (Or.inl rfl) (by rw [up_o (by decide), e1]; exact hh1) (by omega)
      · rw [setA_a, setN_o (by omega), setN_o (by omega)]
      · rw [setA_a, setN_o (by omega), setN_o (by omega)]
    refine e_aload0 dX9_repay_0 ?_
    refine e_iload1 dX9_repay_1 ?_
    refine e_cVZ (ct_X9_isHouse (d := d - 1) (by omega) nn.1) cy_X9_isHouse cv_X9_isHouse ml_X9_317 la_134 rfl rfl rfl (rok (by omega) (by decide)) (Nat.le_of_ble_eq_true rfl) dX9_repay_2 (fun g2 => ?_) (fun g2 => ?_)
    · refine e_if_eq (tgt := 39) dX9_repay_5 (by decide) (fun h => absurd h (by decide)) (fun _ => ?_)
      refine e_iload2 dX9_repay_8 ?_
      refine e_iconst dX9_repay_9 rfl kc_1 ?_
      refine e_icmp_lt (tgt := 39) dX9_repay_10 (by decide) (fun h10 => ?_) (fun h10 => ?_)
      · refine e_iconst dX9_repay_39 rfl kc_m1 ?_
        refine e_iret dX9_repay_40 ?_
        first | (exfalso; omega) | exact bad (fun z => by have a := z.2; rw [toN] at a; omega)
      · refine e_iload2 dX9_repay_13 ?_
        refine e_aload0 dX9_repay_14 ?_
        refine e_getR fl_X9_7 la_134 rfl dX9_repay_15 ?_
        refine e_bipush dX9_repay_18 rfl kb_48 ?_
        refine e_iload1 dX9_repay_20 ?_
        refine e_iadd dX9_repay_21 (⟨by omega, by omega⟩) ?_
        refine e_ialdK (k := 48 + h') la_135 (by omega) (by omega) dX9_repay_22 ?_
        refine WW.ec (y := G 4 h') (aw.2.1) ?_
        refine e_icmp_gt (tgt := 39) dX9_repay_23 (by decide) (fun h23 => ?_) (fun h23 => ?_)
        · refine e_iconst dX9_repay_39 rfl kc_m1 ?_
          refine e_iret dX9_repay_40 ?_
          first | (exfalso; omega) | exact bad (fun z => by have a := z.2; rw [toN] at a; omega)
        · refine e_iload2 dX9_repay_26 ?_
          refine e_aload0 dX9_repay_27 ?_
          refine e_getR fl_X9_7 la_134 rfl dX9_repay_28 ?_
          refine e_bipush dX9_repay_31 rfl kb_40 ?_
          refine e_iload1 dX9_repay_33 ?_
          refine e_iadd dX9_repay_34 (⟨by omega, by omega⟩) ?_
          refine e_ialdK (k := 40 + h') la_135 (by omega) (by omega) dX9_repay_35 ?_
          refine WW.ec (y := G 3 h') (aw.1) ?_
          refine e_icmp_le (tgt := 41) dX9_repay_36 (by decide) (fun h36 => ?_) (fun h36 => ?_)
          · refine e_aload0 dX9_repay_41 ?_
            refine e_cVV (ct_X9_keepsStep (d := d - 1) nn.2.2.1) cy_X9_keepsStep cv_X9_keepsStep ml_X9_333 la_134 rfl rfl rfl (rok (by omega) (by decide)) (Nat.le_of_ble_eq_true rfl) dX9_repay_42 ?_
            refine e_aload0 dX9_repay_45 ?_
            refine e_getR fl_X9_7 la_134 rfl dX9_repay_46 ?_
            refine e_bipush dX9_repay_49 rfl kb_48 ?_
            refine e_iload1 dX9_repay_51 ?_
            refine e_iadd dX9_repay_52 (⟨by omega, by omega⟩) ?_
            refine e_dup2 dX9_repay_53 rfl rfl ?_
            refine e_ialdK (k := 48 + h') la_135 (by omega) (by omega) dX9_repay_54 ?_
            refine WW.ec (y := G 4 h') (by rw [setA_a, keepA_lo (by omega) (by omega)]; exact aw.2.1) ?_
            refine e_iload2 dX9_repay_55 ?_
            refine e_isub dX9_repay_56 (⟨by omega, by omega⟩) ?_
            refine e_iastK (k := 48 + h') la_135 (by omega) (by omega) dX9_repay_57 ?_
            refine e_aload0 dX9_repay_58 ?_
            refine e_getR fl_X9_7 la_134 rfl dX9_repay_59 ?_
            refine e_bipush dX9_repay_62 rfl kb_40 ?_
            refine e_iload1 dX9_repay_64 ?_
            refine e_iadd dX9_repay_65 (⟨by omega, by omega⟩) ?_
            refine e_dup2 dX9_repay_66 rfl rfl ?_
            refine e_ialdK (k := 40 + h') la_135 (by omega) (by omega) dX9_repay_67 ?_
            refine WW.ec (y := G 3 h') (by rw [up_k (by omega), setA_a, keepA_lo (by omega) (by omega)]; exact aw.1) ?_
            refine e_iload2 dX9_repay_68 ?_
            refine e_isub dX9_repay_69 (⟨by omega, by omega⟩) ?_
            refine e_iastK (k := 40 + h') la_135 (by omega) (by omega) dX9_repay_70 ?_
            refine e_aload0 dX9_repay_71 ?_
            refine e_getR fl_X9_7 la_134 rfl dX9_repay_72 ?_
            refine e_bipush dX9_repay_75 rfl kb_48 ?_
            refine e_iload1 dX9_repay_77 ?_
            refine e_iadd dX9_repay_78 (⟨by omega, by omega⟩) ?_
            refine e_ialdK (k := 48 + h') la_135 (by omega) (by omega) dX9_repay_79 ?_
            refine WW.ec (y := G 4 h' - k) (by rw [up_k (by omega), up_s]) ?_
            refine e_iret dX9_repay_80 ?_
            have ok : okPay G h' k := ⟨hh, by omega, by rw [toN]; omega, by rw [toN]; omega⟩
            refine ⟨_, rfl, ?_, ?_, good ok⟩
            · unfold payX; rw [if_pos ok, toN]
            · rw [setA_u, setA_u]; exact (FD.rf M).a
          · refine e_iconst dX9_repay_39 rfl kc_m1 ?_
            refine e_iret dX9_repay_40 ?_
            first | (exfalso; omega) | exact bad (fun z => by have a := z.2; rw [toN] at a; omega)
    · refine e_if_eq (tgt := 39) dX9_repay_5 (by decide) (fun _ => ?_) (fun h => absurd h (by decide))
      refine e_iconst dX9_repay_39 rfl kc_m1 ?_
      refine e_iret dX9_repay_40 ?_
      first | (exfalso; omega) | exact bad (fun z => by have a := z.2; rw [toN] at a; omega)
  · refine e_aload0 dX9_repay_0 ?_
    refine e_iload1 dX9_repay_1 ?_
    refine e_cVZ (ct_X9_isHouse (d := d - 1) (by omega) nn.1) cy_X9_isHouse cv_X9_isHouse ml_X9_317 la_134 rfl rfl rfl (rok (by omega) (by decide)) (Nat.le_of_ble_eq_true rfl) dX9_repay_2 (fun g2 => ?_) (fun g2 => ?_)
    · refine e_if_eq (tgt := 39) dX9_repay_5 (by decide) (fun h => absurd h (by decide)) (fun _ => ?_)
      exact absurd ⟨g2.1, by omega⟩ hh
    · refine e_if_eq (tgt := 39) dX9_repay_5 (by decide) (fun _ => ?_) (fun h => absurd h (by decide))
      refine e_iconst dX9_repay_39 rfl kc_m1 ?_
      refine e_iret dX9_repay_40 ?_
      exact bad (fun z => hh z.1)
theorem ct_X9_light {G : Mem} (hd : 2 ≤ d) (hg : GS G M) {c : Int} : GI l w yX9_light cX9_light 4 .int d [vR 134, vI c] M (fun x M1 => x = lightX G c ∧ FD M M1 ∧ GS (lightZ G c) M1) := by
  have nn := hg.nn
  have hA := hg.1
  have hR := hg.2.2.1
  have hG := hA.gm
  have e0 := hR.1.1.1
  have e1 := hR.1.1.2.1
  have hsz := hG.sz
  have hq := (nxt_ok hG.2.1).1
  have bad : ¬ okL1 G c → ¬ okL2 G c → ∃ x, some (vI (-1)) = some (vI x) ∧ x = lightX G c ∧ FD M M ∧ GS (lightZ G c) M := by
    intro n1 n2
    refine ⟨-1, rfl, ?_, FD.rf M, ?_⟩
    · unfold lightX; rw [if_neg n1, if_neg n2]
    · unfold lightZ; rw [if_neg n1, if_neg n2]; exact hg
  refine MT.of [some (vR 134), some (vI c), none, none] ⟨by decide, rfl⟩ rfl (Nat.le_of_ble_eq_true rfl) (fun hA hM => ?_)
  by_cases hc : isC G c
  · obtain ⟨c', rfl⟩ : ∃ n : Nat, c = n := ⟨c.toNat, by have := hc.1; omega⟩
    have hc1 := hc.2
    have ac := hR.c0 hc1
    have th := hg.2.1 c' hc1
    have hst := hG.2.2.2.2.2 c' hc
    rw [toN] at hst
    have hin : isIn G c' 0 := ⟨hc, by omega, by rw [toN]; omega⟩
    have eow : ownr G c' 0 = G 11 (12 * c') := by unfold ownr; rw [if_pos hin]; congr 1; omega
    have e11 := ac.2.2.2 0 (by decide)
    have ek1 : ∀ q c i, q < 30 → keepM G q c i 1 = G 1 := fun q c i hq => keepM_o (by decide) (by omega)
    have g1 : okL1 G c' → GS (lightZ G c') (up (up (setA M (keepA (M 135))) 135 (64 + 15 * c' + 0) 1) 135 (64 + 15 * c' + 1) (ownr G c' 0)) := by
      intro ok
      unfold lightZ
      rw [if_pos ok, setA_u, setA_u]
      refine hg.step (chg_l1 hG hc) hc1 (hG.l1 ok) ?_ (fun k hk => ?_) (fun k hk => ?_) (FD.rf M).a
      · rw [setA_a]
        unfold light1
        rw [toN]
        exact (((hR.2.2.1.ka hsz).kp hq).c (o := 8) (k := c') (hsz.kp hq) (Or.inl rfl) (by rw [ek1 _ _ _ hq]; exact hc1) (by omega)).c (o := 9) (k := c') ((hsz.kp hq).u (by decide)) (Or.inr (Or.inl rfl)) (by rw [up_o (by decide), ek1 _ _ _ hq]; exact hc1) (by omega)
      · rw [setA_a, setN_o (by omega), setN_o (by omega)]
      · rw [setA_a, setN_o (by omega), setN_o (by omega)]
    by_cases s0 : G 8 c' = 0
    · by_cases ho : ownr G c' 0 = -1
      · refine e_aload0 dX9_light_0 ?_
        refine e_iload1 dX9_light_1 ?_
        refine e_cVZ (ct_X9_isCandle (d := d - 1) (by omega) nn.2.1) cy_X9_isCandle cv_X9_isCandle ml_X9_320 la_134 rfl rfl rfl (rok (by omega) (by decide)) (Nat.le_of_ble_eq_true rfl) dX9_light_2 (fun g2 => ?_) (fun g2 => ?_)
        · refine e_if_ne (tgt := 10) dX9_light_5 (by decide) (fun _ => ?_) (fun h => absurd h (by decide))
          refine e_aload0 dX9_light_10 ?_
          refine e_iload1 dX9_light_11 ?_
          refine e_iconst dX9_light_12 rfl kc_0 ?_
          refine e_cVI (ct_X9_ofCandle (d := d - 1) (k := 0) (by omega) (by decide)) cy_X9_ofCandle cv_X9_ofCandle ml_X9_327 la_134 rfl rfl rfl (rok (by omega) (by decide)) (Nat.le_of_ble_eq_true rfl) dX9_light_13 ?_
          refine WW.ec (y := 0) (by rw [ac.1, s0]) ?_
          refine e_istore2 dX9_light_16 rfl ?_
          refine e_iload2 dX9_light_17 ?_
          refine e_if_ne (tgt := 30) dX9_light_18 (by decide) (fun h => absurd h (fun z => z rfl)) (fun h18 => ?_)
          refine e_aload0 dX9_light_21 ?_
          refine e_iload1 dX9_light_22 ?_
          refine e_iconst dX9_light_23 rfl kc_0 ?_
          refine e_cVI (ct_X9_ownerOf (d := d - 1) (i := 0) (by omega) (by decide)) cy_X9_ownerOf cv_X9_ownerOf ml_X9_330 la_134 rfl rfl rfl (rok (by omega) (by decide)) (Nat.le_of_ble_eq_true rfl) dX9_light_24 ?_
          refine WW.ec (y := -1) (by rw [e11, ← ho, eow, Nat.add_zero]) ?_
          refine e_goto (tgt := 36) dX9_light_27 (by decide) ?_
          refine e_istore3 dX9_light_36 rfl ?_
          refine e_iload2 dX9_light_37 ?_
          refine e_iconst dX9_light_38 rfl kc_1 ?_
          refine e_icmp_eq (tgt := 69) dX9_light_39 (by decide) (fun h => absurd h (by decide)) (fun h39 => ?_)
          refine e_iload2 dX9_light_42 ?_
          refine e_iconst dX9_light_43 rfl kc_3 ?_
          refine e_icmp_eq (tgt := 69) dX9_light_44 (by decide) (fun h => absurd h (by decide)) (fun h44 => ?_)
          refine e_iload3 dX9_light_47 ?_
          refine e_iconst dX9_light_48 rfl kc_m1 ?_
          refine e_icmp_eq (tgt := 69) dX9_light_49 (by decide) (fun h49 => ?_) (fun h => absurd h (fun z => z rfl))
          refine e_iconst dX9_light_69 rfl kc_m1 ?_
          refine e_iret dX9_light_70 ?_
          exact bad (fun z => z.2.2 ho) (fun z => by have a := z.2.1; rw [toN] at a; omega)
        · refine e_if_ne (tgt := 10) dX9_light_5 (by decide) (fun h => absurd h (by decide)) (fun _ => ?_)
          refine e_iconst dX9_light_8 rfl kc_m1 ?_
          refine e_iret dX9_light_9 ?_
          exact absurd ⟨hc.1, by omega⟩ g2
      · have ok : okL1 G c' := ⟨hc, by rw [toN]; exact s0, ho⟩
        have hgd := g1 ok
        refine e_aload0 dX9_light_0 ?_
        refine e_iload1 dX9_light_1 ?_
        refine e_cVZ (ct_X9_isCandle (d := d - 1) (by omega) nn.2.1) cy_X9_isCandle cv_X9_isCandle ml_X9_320 la_134 rfl rfl rfl (rok (by omega) (by decide)) (Nat.le_of_ble_eq_true rfl) dX9_light_2 (fun g2 => ?_) (fun g2 => ?_)
        · refine e_if_ne (tgt := 10) dX9_light_5 (by decide) (fun _ => ?_) (fun h => absurd h (by decide))
          refine e_aload0 dX9_light_10 ?_
          refine e_iload1 dX9_light_11 ?_
          refine e_iconst dX9_light_12 rfl kc_0 ?_
          refine e_cVI (ct_X9_ofCandle (d := d - 1) (k := 0) (by omega) (by decide)) cy_X9_ofCandle cv_X9_ofCandle ml_X9_327 la_134 rfl rfl rfl (rok (by omega) (by decide)) (Nat.le_of_ble_eq_true rfl) dX9_light_13 ?_
          refine WW.ec (y := 0) (by rw [ac.1, s0]) ?_
          refine e_istore2 dX9_light_16 rfl ?_
          refine e_iload2 dX9_light_17 ?_
          refine e_if_ne (tgt := 30) dX9_light_18 (by decide) (fun h => absurd h (fun z => z rfl)) (fun h18 => ?_)
          refine e_aload0 dX9_light_21 ?_
          refine e_iload1 dX9_light_22 ?_
          refine e_iconst dX9_light_23 rfl kc_0 ?_
          refine e_cVI (ct_X9_ownerOf (d := d - 1) (i := 0) (by omega) (by decide)) cy_X9_ownerOf cv_X9_ownerOf ml_X9_330 la_134 rfl rfl rfl (rok (by omega) (by decide)) (Nat.le_of_ble_eq_true rfl) dX9_light_24 ?_
          refine WW.ec (y := ownr G c' 0) (by rw [e11, eow, Nat.add_zero]) ?_
          refine e_goto (tgt := 36) dX9_light_27 (by decide) ?_
          refine e_istore3 dX9_light_36 rfl ?_
          refine e_iload2 dX9_light_37 ?_
          refine e_iconst dX9_light_38 rfl kc_1 ?_
          refine e_icmp_eq (tgt := 69) dX9_light_39 (by decide) (fun h => absurd h (by decide)) (fun h39 => ?_)
          refine e_iload2 dX9_light_42 ?_
          refine e_iconst dX9_light_43 rfl kc_3 ?_
          refine e_icmp_eq (tgt := 69) dX9_light_44 (by decide) (fun h => absurd h (by decide)) (fun h44 => ?_)
          refine e_iload3 dX9_light_47 ?_
          refine e_iconst dX9_light_48 rfl kc_m1 ?_
          refine e_icmp_eq (tgt := 69) dX9_light_49 (by decide) (fun h => absurd h (by omega)) (fun h49 => ?_)
          refine e_iload2 dX9_light_52 ?_
          refine e_iconst dX9_light_53 rfl kc_2 ?_
          refine e_icmp_ne (tgt := 71) dX9_light_54 (by decide) (fun h54 => ?_) (fun h => absurd h (by decide))
          refine e_aload0 dX9_light_71 ?_
          refine e_cVV (ct_X9_keepsStep (d := d - 1) nn.2.2.1) cy_X9_keepsStep cv_X9_keepsStep ml_X9_333 la_134 rfl rfl rfl (rok (by omega) (by decide)) (Nat.le_of_ble_eq_true rfl) dX9_light_72 ?_
          refine e_iload2 dX9_light_75 ?_
          refine e_iconst dX9_light_76 rfl kc_2 ?_
          refine e_icmp_ne (tgt := 93) dX9_light_77 (by decide) (fun h77 => ?_) (fun h => absurd h (by decide))
          refine e_aload0 dX9_light_93 ?_
          refine e_iload1 dX9_light_94 ?_
          refine e_iconst dX9_light_95 rfl kc_0 ?_
          refine e_iconst dX9_light_96 rfl kc_1 ?_
          refine e_cVV (ct_X9_puts (d := d - 1) (k := 0) (by omega) (by decide)) cy_X9_puts cv_X9_puts ml_X9_336 la_134 rfl rfl rfl (rok (by omega) (by decide)) (Nat.le_of_ble_eq_true rfl) dX9_light_97 ?_
          refine e_aload0 dX9_light_100 ?_
          refine e_iload1 dX9_light_101 ?_
          refine e_iconst dX9_light_102 rfl kc_1 ?_
          refine e_iload3 dX9_light_103 ?_
          refine e_cVV (ct_X9_puts (d := d - 1) (k := 1) (by omega) (by decide)) cy_X9_puts cv_X9_puts ml_X9_336 la_134 rfl rfl rfl (rok (by omega) (by decide)) (Nat.le_of_ble_eq_true rfl) dX9_light_104 ?_
          refine e_iload3 dX9_light_107 ?_
          refine e_iret dX9_light_108 ?_
          refine ⟨_, rfl, ?_, ?_, hgd⟩
          · unfold lightX; rw [if_pos ok]
          · rw [setA_u, setA_u]; exact (FD.rf M).a
        · refine e_if_ne (tgt := 10) dX9_light_5 (by decide) (fun h => absurd h (by decide)) (fun _ => ?_)
          refine e_iconst dX9_light_8 rfl kc_m1 ?_
          refine e_iret dX9_light_9 ?_
          exact absurd ⟨hc.1, by omega⟩ g2
    · have n1 : ¬ okL1 G c' := fun z => s0 (by have a := z.2.1; rw [toN] at a; exact a)
      by_cases s2 : G 8 c' = 2
      · have hh := (hst.2.2 (Or.inr s2)).1
        obtain ⟨h', eh⟩ : ∃ n : Nat, G 9 c' = n := ⟨(G 9 c').toNat, by have := hh.1; omega⟩
        have hh1 : (h' : Int) < G 1 0 := by rw [← eh]; exact hh.2
        have aw := hR.h0 hh1
        have hw3 := hG.1.2.1 h' (by omega)
        by_cases wx : G 3 h' = 0
        · have n2 : ¬ okL2 G c' := fun z => by have a := z.2.2.2; rw [toN, eh, toN] at a; omega
          refine e_aload0 dX9_light_0 ?_
          refine e_iload1 dX9_light_1 ?_
          refine e_cVZ (ct_X9_isCandle (d := d - 1) (by omega) nn.2.1) cy_X9_isCandle cv_X9_isCandle ml_X9_320 la_134 rfl rfl rfl (rok (by omega) (by decide)) (Nat.le_of_ble_eq_true rfl) dX9_light_2 (fun g2 => ?_) (fun g2 => ?_)
          · refine e_if_ne (tgt := 10) dX9_light_5 (by decide) (fun _ => ?_) (fun h => absurd h (by decide))
            refine e_aload0 dX9_light_10 ?_
            refine e_iload1 dX9_light_11 ?_
            refine e_iconst dX9_light_12 rfl kc_0 ?_
            refine e_cVI (ct_X9_ofCandle (d := d - 1) (k := 0) (by omega) (by decide)) cy_X9_ofCandle cv_X9_ofCandle ml_X9_327 la_134 rfl rfl rfl (rok (by omega) (by decide)) (Nat.le_of_ble_eq_true rfl) dX9_light_13 ?_
            refine WW.ec (y := 2) (by rw [ac.1, s2]) ?_
            refine e_istore2 dX9_light_16 rfl ?_
            refine e_iload2 dX9_light_17 ?_
            refine e_if_ne (tgt := 30) dX9_light_18 (by decide) (fun h18 => ?_) (fun h => absurd h (by decide))
            refine e_aload0 dX9_light_30 ?_
            refine e_iload1 dX9_light_31 ?_
            refine e_iconst dX9_light_32 rfl kc_1 ?_
            refine e_cVI (ct_X9_ofCandle (d := d - 1) (k := 1) (by omega) (by decide)) cy_X9_ofCandle cv_X9_ofCandle ml_X9_327 la_134 rfl rfl rfl (rok (by omega) (by decide)) (Nat.le_of_ble_eq_true rfl) dX9_light_33 ?_
            refine WW.ec (y := (h' : Int)) (by rw [ac.2.1, eh]) ?_
            refine e_istore3 dX9_light_36 rfl ?_
            refine e_iload2 dX9_light_37 ?_
            refine e_iconst dX9_light_38 rfl kc_1 ?_
            refine e_icmp_eq (tgt := 69) dX9_light_39 (by decide) (fun h => absurd h (by decide)) (fun h39 => ?_)
            refine e_iload2 dX9_light_42 ?_
            refine e_iconst dX9_light_43 rfl kc_3 ?_
            refine e_icmp_eq (tgt := 69) dX9_light_44 (by decide) (fun h => absurd h (by decide)) (fun h44 => ?_)
            refine e_iload3 dX9_light_47 ?_
            refine e_iconst dX9_light_48 rfl kc_m1 ?_
            refine e_icmp_eq (tgt := 69) dX9_light_49 (by decide) (fun h => absurd h (by omega)) (fun h49 => ?_)
            refine e_iload2 dX9_light_52 ?_
            refine e_iconst dX9_light_53 rfl kc_2 ?_
            refine e_icmp_ne (tgt := 71) dX9_light_54 (by decide) (fun h => absurd h (fun z => z rfl)) (fun h54 => ?_)
            refine e_aload0 dX9_light_57 ?_
            refine e_getR fl_X9_7 la_134 rfl dX9_light_58 ?_
            refine e_bipush dX9_light_61 rfl kb_40 ?_
            refine e_iload3 dX9_light_63 ?_
            refine e_iadd dX9_light_64 (⟨by omega, by omega⟩) ?_
            refine e_ialdK (k := 40 + h') la_135 (by omega) (by omega) dX9_light_65 ?_
            refine WW.ec (y := 0) (by rw [aw.1, wx]) ?_
            refine e_if_ne (tgt := 71) dX9_light_66 (by decide) (fun h => absurd h (fun z => z rfl)) (fun h66 => ?_)
            refine e_iconst dX9_light_69 rfl kc_m1 ?_
            refine e_iret dX9_light_70 ?_
            exact bad n1 n2
          · refine e_if_ne (tgt := 10) dX9_light_5 (by decide) (fun h => absurd h (by decide)) (fun _ => ?_)
            refine e_iconst dX9_light_8 rfl kc_m1 ?_
            refine e_iret dX9_light_9 ?_
            exact absurd ⟨hc.1, by omega⟩ g2
        · have ok : okL2 G c' := ⟨hc, by rw [toN]; exact s2, by rw [toN]; exact hh, by rw [toN, eh, toN]; omega⟩
          have hgd : GS (lightZ G c') (up (up (up (setA M (keepA (M 135))) 135 (40 + h') (G 3 h' - 1)) 135 (64 + 15 * c' + 0) 1) 135 (64 + 15 * c' + 1) h') := by
            have eid : setN (setN (setN (keepA (M 135)) (40 + h') (G 3 h' - 1)) (64 + 15 * c' + 0) 1) (64 + 15 * c' + 1) (h' : Int) = setN (setN (keepA (M 135)) (40 + h') (G 3 h' - 1)) (64 + 15 * c' + 0) 1 := setN_id (by rw [setN_o (by omega), setN_o (by omega), keepA_lo (by omega) (by omega), ac.2.1, eh])
            unfold lightZ
            rw [if_neg n1, if_pos ok, setA_u, setA_u, setA_u, eid]
            refine hg.step (chg_l2 hG ok) hc1 (hG.l2 ok) ?_ (fun k hk => ?_) (fun k hk => ?_) (FD.rf M).a
            · rw [setA_a]
              unfold light2
              rw [toN, eh, toN]
              exact (((hR.2.2.1.ka hsz).kp hq).h (o := 3) (k := h') (hsz.kp hq) (Or.inl rfl) (by rw [ek1 _ _ _ hq]; exact hh1) (by omega)).c (o := 8) (k := c') ((hsz.kp hq).u (by decide)) (Or.inl rfl) (by rw [up_o (by decide), ek1 _ _ _ hq]; exact hc1) (by omega)
            · rw [setA_a, setN_o (by omega), setN_o (by omega)]
            · rw [setA_a, setN_o (by omega), setN_o (by omega)]
          refine e_aload0 dX9_light_0 ?_
          refine e_iload1 dX9_light_1 ?_
          refine e_cVZ (ct_X9_isCandle (d := d - 1) (by omega) nn.2.1) cy_X9_isCandle cv_X9_isCandle ml_X9_320 la_134 rfl rfl rfl (rok (by omega) (by decide)) (Nat.le_of_ble_eq_true rfl) dX9_light_2 (fun g2 => ?_) (fun g2 => ?_)
          · refine e_if_ne (tgt := 10) dX9_light_5 (by decide) (fun _ => ?_) (fun h => absurd h (by decide))
            refine e_aload0 dX9_light_10 ?_
            refine e_iload1 dX9_light_11 ?_
            refine e_iconst dX9_light_12 rfl kc_0 ?_
            refine e_cVI (ct_X9_ofCandle (d := d - 1) (k := 0) (by omega) (by decide)) cy_X9_ofCandle cv_X9_ofCandle ml_X9_327 la_134 rfl rfl rfl (rok (by omega) (by decide)) (Nat.le_of_ble_eq_true rfl) dX9_light_13 ?_
            refine WW.ec (y := 2) (by rw [ac.1, s2]) ?_
            refine e_istore2 dX9_light_16 rfl ?_
            refine e_iload2 dX9_light_17 ?_
            refine e_if_ne (tgt := 30) dX9_light_18 (by decide) (fun h18 => ?_) (fun h => absurd h (by decide))
            refine e_aload0 dX9_light_30 ?_
            refine e_iload1 dX9_light_31 ?_
            refine e_iconst dX9_light_32 rfl kc_1 ?_
            refine e_cVI (ct_X9_ofCandle (d := d - 1) (k := 1) (by omega) (by decide)) cy_X9_ofCandle cv_X9_ofCandle ml_X9_327 la_134 rfl rfl rfl (rok (by omega) (by decide)) (Nat.le_of_ble_eq_true rfl) dX9_light_33 ?_
            refine WW.ec (y := (h' : Int)) (by rw [ac.2.1, eh]) ?_
            refine e_istore3 dX9_light_36 rfl ?_
            refine e_iload2 dX9_light_37 ?_
            refine e_iconst dX9_light_38 rfl kc_1 ?_
            refine e_icmp_eq (tgt := 69) dX9_light_39 (by decide) (fun h => absurd h (by decide)) (fun h39 => ?_)
            refine e_iload2 dX9_light_42 ?_
            refine e_iconst dX9_light_43 rfl kc_3 ?_
            refine e_icmp_eq (tgt := 69) dX9_light_44 (by decide) (fun h => absurd h (by decide)) (fun h44 => ?_)
            refine e_iload3 dX9_light_47 ?_
            refine e_iconst dX9_light_48 rfl kc_m1 ?_
            refine e_icmp_eq (tgt := 69) dX9_light_49 (by decide) (fun h => absurd h (by omega)) (fun h49 => ?_)
            refine e_iload2 dX9_light_52 ?_
            refine e_iconst dX9_light_53 rfl kc_2 ?_
            refine e_icmp_ne (tgt := 71) dX9_light_54 (by decide) (fun h => absurd h (fun z => z rfl)) (fun h54 => ?_)
            refine e_aload0 dX9_light_57 ?_
            refine e_getR fl_X9_7 la_134 rfl dX9_light_58 ?_
            refine e_bipush dX9_light_61 rfl kb_40 ?_
            refine e_iload3 dX9_light_63 ?_
            refine e_iadd dX9_light_64 (⟨by omega, by omega⟩) ?_
            refine e_ialdK (k := 40 + h') la_135 (by omega) (by omega) dX9_light_65 ?_
            refine WW.ec (y := G 3 h') (aw.1) ?_
            refine e_if_ne (tgt := 71) dX9_light_66 (by decide) (fun h66 => ?_) (fun h => absurd h (by omega))
            refine e_aload0 dX9_light_71 ?_
            refine e_cVV (ct_X9_keepsStep (d := d - 1) nn.2.2.1) cy_X9_keepsStep cv_X9_keepsStep ml_X9_333 la_134 rfl rfl rfl (rok (by omega) (by decide)) (Nat.le_of_ble_eq_true rfl) dX9_light_72 ?_
            refine e_iload2 dX9_light_75 ?_
            refine e_iconst dX9_light_76 rfl kc_2 ?_
            refine e_icmp_ne (tgt := 93) dX9_light_77 (by decide) (fun h => absurd h (fun z => z rfl)) (fun h77 => ?_)
            refine e_aload0 dX9_light_80 ?_
            refine e_getR fl_X9_7 la_134 rfl dX9_light_81 ?_
            refine e_bipush dX9_light_84 rfl kb_40 ?_
            refine e_iload3 dX9_light_86 ?_
            refine e_iadd dX9_light_87 (⟨by omega, by omega⟩) ?_
            refine e_dup2 dX9_light_88 rfl rfl ?_
            refine e_ialdK (k := 40 + h') la_135 (by omega) (by omega) dX9_light_89 ?_
            refine WW.ec (y := G 3 h') (by rw [setA_a, keepA_lo (by omega) (by omega)]; exact aw.1) ?_
            refine e_iconst dX9_light_90 rfl kc_1 ?_
            refine e_isub dX9_light_91 (⟨by omega, by omega⟩) ?_
            refine e_iastK (k := 40 + h') la_135 (by omega) (by omega) dX9_light_92 ?_
            refine e_aload0 dX9_light_93 ?_
            refine e_iload1 dX9_light_94 ?_
            refine e_iconst dX9_light_95 rfl kc_0 ?_
            refine e_iconst dX9_light_96 rfl kc_1 ?_
            refine e_cVV (ct_X9_puts (d := d - 1) (k := 0) (by omega) (by decide)) cy_X9_puts cv_X9_puts ml_X9_336 la_134 rfl rfl rfl (rok (by omega) (by decide)) (Nat.le_of_ble_eq_true rfl) dX9_light_97 ?_
            refine e_aload0 dX9_light_100 ?_
            refine e_iload1 dX9_light_101 ?_
            refine e_iconst dX9_light_102 rfl kc_1 ?_
            refine e_iload3 dX9_light_103 ?_
            refine e_cVV (ct_X9_puts (d := d - 1) (k := 1) (by omega) (by decide)) cy_X9_puts cv_X9_puts ml_X9_336 la_134 rfl rfl rfl (rok (by omega) (by decide)) (Nat.le_of_ble_eq_true rfl) dX9_light_104 ?_
            refine e_iload3 dX9_light_107 ?_
            refine e_iret dX9_light_108 ?_
            refine ⟨_, rfl, ?_, ?_, hgd⟩
            · unfold lightX; rw [if_neg n1, if_pos ok, toN, eh]
            · rw [setA_u, setA_u, setA_u]; exact (FD.rf M).a
          · refine e_if_ne (tgt := 10) dX9_light_5 (by decide) (fun h => absurd h (by decide)) (fun _ => ?_)
            refine e_iconst dX9_light_8 rfl kc_m1 ?_
            refine e_iret dX9_light_9 ?_
            exact absurd ⟨hc.1, by omega⟩ g2
      · have n2 : ¬ okL2 G c' := fun z => s2 (by have a := z.2.1; rw [toN] at a; exact a)
        refine e_aload0 dX9_light_0 ?_
        refine e_iload1 dX9_light_1 ?_
        refine e_cVZ (ct_X9_isCandle (d := d - 1) (by omega) nn.2.1) cy_X9_isCandle cv_X9_isCandle ml_X9_320 la_134 rfl rfl rfl (rok (by omega) (by decide)) (Nat.le_of_ble_eq_true rfl) dX9_light_2 (fun g2 => ?_) (fun g2 => ?_)
        · refine e_if_ne (tgt := 10) dX9_light_5 (by decide) (fun _ => ?_) (fun h => absurd h (by decide))
          refine e_aload0 dX9_light_10 ?_
          refine e_iload1 dX9_light_11 ?_
          refine e_iconst dX9_light_12 rfl kc_0 ?_
          refine e_cVI (ct_X9_ofCandle (d := d - 1) (k := 0) (by omega) (by decide)) cy_X9_ofCandle cv_X9_ofCandle ml_X9_327 la_134 rfl rfl rfl (rok (by omega) (by decide)) (Nat.le_of_ble_eq_true rfl) dX9_light_13 ?_
          refine WW.ec (y := G 8 c') (ac.1) ?_
          refine e_istore2 dX9_light_16 rfl ?_
          refine e_iload2 dX9_light_17 ?_
          refine e_if_ne (tgt := 30) dX9_light_18 (by decide) (fun h18 => ?_) (fun h => absurd h (by omega))
          refine e_aload0 dX9_light_30 ?_
          refine e_iload1 dX9_light_31 ?_
          refine e_iconst dX9_light_32 rfl kc_1 ?_
          refine e_cVI (ct_X9_ofCandle (d := d - 1) (k := 1) (by omega) (by decide)) cy_X9_ofCandle cv_X9_ofCandle ml_X9_327 la_134 rfl rfl rfl (rok (by omega) (by decide)) (Nat.le_of_ble_eq_true rfl) dX9_light_33 ?_
          refine e_istore3 dX9_light_36 rfl ?_
          refine e_iload2 dX9_light_37 ?_
          refine e_iconst dX9_light_38 rfl kc_1 ?_
          refine e_icmp_eq (tgt := 69) dX9_light_39 (by decide) (fun h39 => ?_) (fun h39 => ?_)
          · refine e_iconst dX9_light_69 rfl kc_m1 ?_
            refine e_iret dX9_light_70 ?_
            exact bad n1 n2
          · refine e_iload2 dX9_light_42 ?_
            refine e_iconst dX9_light_43 rfl kc_3 ?_
            refine e_icmp_eq (tgt := 69) dX9_light_44 (by decide) (fun h44 => ?_) (fun h44 => ?_)
            · refine e_iconst dX9_light_69 rfl kc_m1 ?_
              refine e_iret dX9_light_70 ?_
              exact bad n1 n2
            · exact absurd hst.1 (by omega)
        · refine e_if_ne (tgt := 10) dX9_light_5 (by decide) (fun h => absurd h (by decide)) (fun _ => ?_)
          refine e_iconst dX9_light_8 rfl kc_m1 ?_
          refine e_iret dX9_light_9 ?_
          exact absurd ⟨hc.1, by omega⟩ g2
  · refine e_aload0 dX9_light_0 ?_
    refine e_iload1 dX9_light_1 ?_
    refine e_cVZ (ct_X9_isCandle (d := d - 1) (by omega) nn.2.1) cy_X9_isCandle cv_X9_isCandle ml_X9_320 la_134 rfl rfl rfl (rok (by omega) (by decide)) (Nat.le_of_ble_eq_true rfl) dX9_light_2 (fun g2 => ?_) (fun g2 => ?_)
    · refine e_if_ne (tgt := 10) dX9_light_5 (by decide) (fun _ => ?_) (fun h => absurd h (by decide))
      exact absurd ⟨g2.1, by omega⟩ hc
    · refine e_if_ne (tgt := 10) dX9_light_5 (by decide) (fun h => absurd h (by decide)) (fun _ => ?_)
      refine e_iconst dX9_light_8 rfl kc_m1 ?_
      refine e_iret dX9_light_9 ?_
      exact bad (fun z => hc z.1) (fun z => hc z.1)
end MLIGHT
