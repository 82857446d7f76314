/-! THE MODEL BUYS, REPAYS, LIGHTS -/
theorem GS.nn {G M : Mem} (h : GS G M) : (0 ≤ M 135 0 ∧ M 135 0 ≤ 8) ∧ (0 ≤ M 135 1 ∧ M 135 1 ≤ 6) ∧ (0 ≤ M 135 4 ∧ M 135 4 ≤ 30) ∧ (0 ≤ M 135 515 ∧ M 135 515 ≤ 50000) ∧ (0 ≤ M 135 154 ∧ M 135 154 ≤ 72) := by
  obtain ⟨h1, _, h3, _⟩ := h
  have hG := h1.gm
  rw [h3.1.1.1, h3.1.1.2.1, h3.2.1, show M 135 515 = G 1 12 from h3.2.2.1.2.2.2.2.2, show M 135 154 = G 1 13 from h3.2.2.1.2.2.2.1]
  exact ⟨hG.1.1.1, hG.1.1.2.1, hG.2.1.2, hG.2.2.2.1, hG.dr⟩
theorem chg_buy {G : Mem} {h c i : Int} (hG : GM G) (ok : okBuy G h c i) : CHG G c i (buyM G h c i) := by
  have hq := (nxt_ok hG.2.1).1
  have k1 : keepM G (nxt G) c i 1 = G 1 := keepM_o (by decide) (by omega)
  have ko : ∀ o, (o < 25 ∨ 56 < o) → keepM G (nxt G) c i o = G o := fun o ho => keepM_o (by omega) (by omega)
  unfold buyM
  refine ⟨fun o a b e f g => ?_, ⟨fun k a b => ?_, ?_⟩, fun o ho k hk => ?_, fun o ho k hk => ?_, ⟨fun k hk => ?_, fun hi => ?_⟩, fun k hk => ?_, fun o a b => ?_⟩
  · rw [up_row (by omega), up_row (by omega), ko o g]
  · rw [up_o (by decide), up_o (by decide), k1]
  · rw [up_o (by decide), up_o (by decide), k1]; exact Int.le_refl _
  · have h1 := ok.1.2
    have h0 := ok.1.1
    rw [up_o (by omega), up_k (by omega), ko o (by omega)]
  · rw [up_o (by omega), up_o (by omega), ko o (by omega)]
  · rw [up_k (fun z => hk ⟨ok.2.1, z⟩), up_o (by decide), ko 11 (by decide)]
  · have := ok.2.2.2.1
    unfold ownr at this
    rw [if_pos hi] at this
    exact this
  · rw [up_o (by decide), up_o (by decide), ko 12 (by decide)]
  · rw [up_row (by omega), up_row (by omega)]
theorem szI.u {X : Mem} {o k : Nat} {v : Int} (h : szI X) (ho : o ≠ 1) : szI (up X o k v) := by unfold szI; rw [up_row (fun z => ho z.symm)]; exact h
theorem RW.ka {X : Mem} {A : Nat → Int} (h : RW X A 40) (hsz : szI X) : RW X (keepA A) 40 := h.sh hsz (fun k hk => keepA_lo (by omega) (by omega))
theorem toN (n : Nat) : ((n : Int)).toNat = n := Int.toNat_natCast n
theorem RA.c0 {G : Mem} {A : Nat → Int} (h : RA G A) {c : Nat} (hc : (c : Int) < G 1 5) : A (64 + 15 * c + 0) = G 8 c ∧ A (64 + 15 * c + 1) = G 9 c ∧ A (64 + 15 * c + 2) = G 10 c ∧ ∀ i, i < 12 → A (67 + 15 * c + i) = G 11 (12 * c + i) := by
  have q := h.2.2.1.2.2.1 c hc
  rw [show 64 + 15 * c + 0 = 40 + 24 + 15 * c by omega, show 64 + 15 * c + 1 = 40 + 25 + 15 * c by omega, show 64 + 15 * c + 2 = 40 + 26 + 15 * c by omega]
  exact q
theorem RA.h0 {G : Mem} {A : Nat → Int} (h : RA G A) {k : Nat} (hk : (k : Int) < G 1 0) : A (40 + k) = G 3 k ∧ A (48 + k) = G 4 k ∧ A (56 + k) = G 5 k := h.2.2.1.1 k hk
theorem RA.d0 {G : Mem} {A : Nat → Int} (h : RA G A) : A 154 = G 1 13 ∧ A 515 = G 1 12 := ⟨h.2.2.1.2.2.2.1, h.2.2.1.2.2.2.2.2⟩
section MBUY
variable {l : Launch} {w : Wd} {d : Nat} {M : Mem} {Q : Option MV → Mem → Prop}
theorem ct_X9_buy {G : Mem} (hd : 5 ≤ d) (hg : GS G M) {h c i : Int} : GI l w yX9_buy cX9_buy 5 .int d [vR 134, vI h, vI c, vI i] M (fun x M1 => x = buyX G h c i ∧ FD M M1 ∧ GS (buyZ G h c i) M1) := by
  have nn := hg.nn
  have hA := hg.1
  have hR := hg.2.2.1
  have hG := hA.gm
  have e0 := hR.1.1.1
  have e1 := hR.1.1.2.1
  have hsz := hG.sz
  have hq := (nxt_ok hG.2.1).1
  have bad : ¬ okBuy G h c i → ∀ M1, FM M M1 → ∃ x, some (vI (-1)) = some (vI x) ∧ x = buyX G h c i ∧ FD M M1 ∧ GS (buyZ G h c i) M1 := by
    intro nk M1 hf
    refine ⟨-1, rfl, ?_, hf.fd, ?_⟩
    · unfold buyX; rw [if_neg nk]
    · unfold buyZ; rw [if_neg nk]; exact hg.fm hf
  refine MT.of [some (vR 134), some (vI h), some (vI c), some (vI i), none] ⟨by decide, rfl⟩ rfl (Nat.le_of_ble_eq_true rfl) (fun hA hM => ?_)
  by_cases hh : isH G h ∧ isC G c
  · obtain ⟨h', rfl⟩ : ∃ n : Nat, h = n := ⟨h.toNat, by have := hh.1.1; omega⟩
    obtain ⟨c', rfl⟩ : ∃ n : Nat, c = n := ⟨c.toNat, by have := hh.2.1; omega⟩
    have hh1 := hh.1.2
    have hc1 := hh.2.2
    have a20 := hR.1.2.2 c' hc1
    have aw := hR.h0 hh1
    have ac := hR.c0 hc1
    have h7 := hG.1.1.2.2 c' (by omega)
    have h10 := hG.2.2.1.2 c' hh.2
    have hw3 := hG.1.2.1 h' (by omega)
    rw [toN] at h10
    by_cases hi : G 10 c' ≤ i ∧ i < G 7 c'
    · obtain ⟨i', rfl⟩ : ∃ n : Nat, i = n := ⟨i.toNat, by omega⟩
      have hin : isIn G c' i' := ⟨hh.2, by omega, by rw [toN]; exact hi.2⟩
      have eow : ownr G c' i' = G 11 (12 * c' + i') := by unfold ownr; rw [if_pos hin]; congr 1; omega
      have hlaw := ct_X9_lawFor (l := l) (w := w) (d := d - 1) (M := M) (u := 0) (h := h') (c := c') (i := i') (by omega) (by decide) hh1 hc1 (by omega) hG.1 (hg.2.1 c' hc1).1 hR.lr hg.2.2.2
      have hb0 := tellV_b G 0 h' c' i'
      have good : ∀ M1, FM M M1 → okBuy G h' c' i' → GS (buyZ G h' c' i') (up (up (setA M1 (keepA (M1 135))) 135 (40 + h') (G 3 h' - tellV G 0 h' c' i')) 135 (64 + 15 * c' + (3 + i')) h') := by
        intro M1 hf ok
        have e135 : M1 135 = M 135 := hf 135 (by decide) (by decide)
        unfold buyZ
        rw [if_pos ok, setA_u, setA_u, e135]
        refine hg.step (chg_buy hG ok) hc1 (hG.buy ok) ?_ (fun k hk => ?_) (fun k hk => ?_) hf.fd.a
        · rw [setA_a]
          unfold buyM
          rw [toN]
          exact ((hR.2.2.1.ka hsz).kp hq |>.h (hsz.kp hq) (Or.inl rfl) (by rw [show keepM G (nxt G) c' i' 1 = G 1 from keepM_o (by decide) (by omega)]; exact hh1) (by omega)).ow (c := c') (i := i') ((hsz.kp hq).u (by decide)) (by rw [up_o (by decide), show keepM G (nxt G) c' i' 1 = G 1 from keepM_o (by decide) (by omega)]; exact hc1) (by omega) (by omega) (by omega)
        · rw [setA_a, setN_o (by omega), setN_o (by omega)]
        · rw [setA_a, setN_o (by omega), setN_o (by omega)]
      refine e_aload0 dX9_buy_0 ?_
      refine e_iload1 dX9_buy_1 ?_
      refine e_cVZ (ct_X9_isHouse (d := d - 1) (by omega) nn.1) cy_X9_isHouse cv_X9_isHouse ml_X9_317 la_134 rfl rfl rfl (rok (by omega) (by decide)) (Nat.le_of_ble_eq_true rfl) dX9_buy_2 (fun g2 => ?_) (fun g2 => ?_)
      · refine e_if_eq (tgt := 46) dX9_buy_5 (by decide) (fun h => absurd h (by decide)) (fun _ => ?_)
        refine e_aload0 dX9_buy_8 ?_
        refine e_iload2 dX9_buy_9 ?_
        refine e_cVZ (ct_X9_isCandle (d := d - 1) (by omega) nn.2.1) cy_X9_isCandle cv_X9_isCandle ml_X9_320 la_134 rfl rfl rfl (rok (by omega) (by decide)) (Nat.le_of_ble_eq_true rfl) dX9_buy_10 (fun g10 => ?_) (fun g10 => ?_)
        · refine e_if_eq (tgt := 46) dX9_buy_13 (by decide) (fun h => absurd h (by decide)) (fun _ => ?_)
          refine e_iload3 dX9_buy_16 ?_
          refine e_aload0 dX9_buy_17 ?_
          refine e_iload2 dX9_buy_18 ?_
          refine e_iconst dX9_buy_19 rfl kc_2 ?_
          refine e_cVI (ct_X9_ofCandle (d := d - 1) (k := 2) (by omega) (by decide)) cy_X9_ofCandle cv_X9_ofCandle ml_X9_327 la_134 rfl rfl rfl (rok (by omega) (by decide)) (Nat.le_of_ble_eq_true rfl) dX9_buy_20 ?_
          refine WW.ec (y := G 10 c') (ac.2.2.1) ?_
          refine e_aload0 dX9_buy_23 ?_
          refine e_iload2 dX9_buy_24 ?_
          refine e_cVI (ct_X9_inchesOf (d := d - 1) (by omega)) cy_X9_inchesOf cv_X9_inchesOf ml_X9_310 la_134 rfl rfl rfl (rok (by omega) (by decide)) (Nat.le_of_ble_eq_true rfl) dX9_buy_25 ?_
          refine WW.ec (y := G 7 c') (a20.2) ?_
          refine e_iconst dX9_buy_28 rfl kc_1 ?_
          refine e_isub dX9_buy_29 (⟨by omega, by omega⟩) ?_
          refine e_cSZ (ct_X9_in (d := d - 1)) cy_X9_in cs_X9_in ml_X9_120 rfl rfl (rok (by omega) (by decide)) (Nat.le_of_ble_eq_true rfl) dX9_buy_30 (fun g30 => ?_) (fun g30 => ?_)
          · refine e_if_eq (tgt := 46) dX9_buy_33 (by decide) (fun h => absurd h (by decide)) (fun _ => ?_)
            refine e_aload0 dX9_buy_36 ?_
            refine e_iload2 dX9_buy_37 ?_
            refine e_iload3 dX9_buy_38 ?_
            refine e_cVI (ct_X9_ownerOf (d := d - 1) (by omega) (by omega)) cy_X9_ownerOf cv_X9_ownerOf ml_X9_330 la_134 rfl rfl rfl (rok (by omega) (by decide)) (Nat.le_of_ble_eq_true rfl) dX9_buy_39 ?_
            refine WW.ec (y := G 11 (12 * c' + i')) (ac.2.2.2 i' (by omega)) ?_
            refine e_iconst dX9_buy_42 rfl kc_m1 ?_
            refine e_icmp_eq (tgt := 48) dX9_buy_43 (by decide) (fun h43 => ?_) (fun h43 => ?_)
            · refine e_aload0 dX9_buy_48 ?_
              refine e_iconst dX9_buy_49 rfl kc_0 ?_
              refine e_iload1 dX9_buy_50 ?_
              refine e_iload2 dX9_buy_51 ?_
              refine e_iload3 dX9_buy_52 ?_
              refine e_cVGI (hlaw) cy_X9_lawFor cv_X9_lawFor ml_X9_323 la_134 rfl rfl rfl (rok (by omega) (by decide)) (Nat.le_of_ble_eq_true rfl) dX9_buy_53 (fun x M1 hx => ?_)
              obtain ⟨hx0, hf⟩ := hx
              obtain rfl : x = tellV G 0 h' c' i' := hx0
              have e135 : M1 135 = M 135 := hf 135 (by decide) (by decide)
              have ewx : M1 135 (40 + h') = G 3 h' := by rw [e135]; exact aw.1
              by_cases ok : okBuy G h' c' i'
              · have hle : tellV G 0 h' c' i' ≤ G 3 h' := by have := ok.2.2.2.2; rw [toN] at this; exact this
                have hgd := good M1 hf ok
                refine e_istore4 dX9_buy_56 rfl ?_
                refine e_iload4 dX9_buy_58 ?_
                refine e_aload0 dX9_buy_60 ?_
                refine e_getR fl_X9_7 la_134 rfl dX9_buy_61 ?_
                refine e_bipush dX9_buy_64 rfl kb_40 ?_
                refine e_iload1 dX9_buy_66 ?_
                refine e_iadd dX9_buy_67 (⟨by omega, by omega⟩) ?_
                refine e_ialdK (k := 40 + h') la_135 (by omega) (by omega) dX9_buy_68 ?_
                refine WW.ec (y := G 3 h') (ewx) ?_
                refine e_icmp_le (tgt := 74) dX9_buy_69 (by decide) (fun h69 => ?_) (fun h => absurd h (fun z => z hle))
                refine e_aload0 dX9_buy_74 ?_
                refine e_cVV (ct_X9_keepsStep (d := d - 1) (by rw [e135]; exact nn.2.2.1)) cy_X9_keepsStep cv_X9_keepsStep ml_X9_333 la_134 rfl rfl rfl (rok (by omega) (by decide)) (Nat.le_of_ble_eq_true rfl) dX9_buy_75 ?_
                refine e_aload0 dX9_buy_78 ?_
                refine e_getR fl_X9_7 la_134 rfl dX9_buy_79 ?_
                refine e_bipush dX9_buy_82 rfl kb_40 ?_
                refine e_iload1 dX9_buy_84 ?_
                refine e_iadd dX9_buy_85 (⟨by omega, by omega⟩) ?_
                refine e_dup2 dX9_buy_86 rfl rfl ?_
                refine e_ialdK (k := 40 + h') la_135 (by omega) (by omega) dX9_buy_87 ?_
                refine WW.ec (y := G 3 h') (by rw [setA_a, keepA_lo (by omega) (by omega)]; exact ewx) ?_
                refine e_iload4 dX9_buy_88 ?_
                refine e_isub dX9_buy_90 (⟨by omega, by omega⟩) ?_
                refine e_iastK (k := 40 + h') la_135 (by omega) (by omega) dX9_buy_91 ?_
                refine e_aload0 dX9_buy_92 ?_
                refine e_iload2 dX9_buy_93 ?_
                refine e_iconst dX9_buy_94 rfl kc_3 ?_
                refine e_iload3 dX9_buy_95 ?_
                refine e_iadd dX9_buy_96 (⟨by omega, by omega⟩) ?_
                refine WW.ec (y := ((3 + i' : Nat) : Int)) (by omega) ?_
                refine e_iload1 dX9_buy_97 ?_
                refine e_cVV (ct_X9_puts (d := d - 1) (by omega) (by omega)) cy_X9_puts cv_X9_puts ml_X9_336 la_134 rfl rfl rfl (rok (by omega) (by decide)) (Nat.le_of_ble_eq_true rfl) dX9_buy_98 ?_
                refine e_aload0 dX9_buy_101 ?_
                refine e_getR fl_X9_7 la_134 rfl dX9_buy_102 ?_
                refine e_bipush dX9_buy_105 rfl kb_40 ?_
                refine e_iload1 dX9_buy_107 ?_
                refine e_iadd dX9_buy_108 (⟨by omega, by omega⟩) ?_
                refine e_ialdK (k := 40 + h') la_135 (by omega) (by omega) dX9_buy_109 ?_
                refine WW.ec (y := G 3 h' - tellV G 0 h' c' i') (by rw [up_k (by omega), up_s]) ?_
                refine e_iret dX9_buy_110 ?_
                refine ⟨_, rfl, ?_, ?_, hgd⟩
                · unfold buyX; rw [if_pos ok, toN]
                · rw [setA_u, setA_u]; exact hf.fd.a
              · refine e_istore4 dX9_buy_56 rfl ?_
                refine e_iload4 dX9_buy_58 ?_
                refine e_aload0 dX9_buy_60 ?_
                refine e_getR fl_X9_7 la_134 rfl dX9_buy_61 ?_
                refine e_bipush dX9_buy_64 rfl kb_40 ?_
                refine e_iload1 dX9_buy_66 ?_
                refine e_iadd dX9_buy_67 (⟨by omega, by omega⟩) ?_
                refine e_ialdK (k := 40 + h') la_135 (by omega) (by omega) dX9_buy_68 ?_
                refine WW.ec (y := G 3 h') (ewx) ?_
                refine e_icmp_le (tgt := 74) dX9_buy_69 (by decide) (fun h69 => ?_) (fun h69 => ?_)
                · exact absurd ⟨hh.1, hin, by rw [toN]; exact hi.1, by rw [eow]; exact h43, by rw [toN]; exact h69⟩ ok
                · refine e_iconst dX9_buy_72 rfl kc_m1 ?_
                  refine e_iret dX9_buy_73 ?_
                  exact bad ok M1 hf
            · refine e_iconst dX9_buy_46 rfl kc_m1 ?_
              refine e_iret dX9_buy_47 ?_
              first | (exfalso; omega) | exact bad (fun z => h43 (by have := z.2.2.2.1; omega)) M (FM.rf M)
          · refine e_if_eq (tgt := 46) dX9_buy_33 (by decide) (fun _ => ?_) (fun h => absurd h (by decide))
            refine e_iconst dX9_buy_46 rfl kc_m1 ?_
            refine e_iret dX9_buy_47 ?_
            first | (exfalso; omega) | exact bad (fun z => h43 (by have := z.2.2.2.1; omega)) M (FM.rf M)
        · refine e_if_eq (tgt := 46) dX9_buy_13 (by decide) (fun _ => ?_) (fun h => absurd h (by decide))
          refine e_iconst dX9_buy_46 rfl kc_m1 ?_
          refine e_iret dX9_buy_47 ?_
          first | (exfalso; omega) | exact bad (fun z => h43 (by have := z.2.2.2.1; omega)) M (FM.rf M)
      · refine e_if_eq (tgt := 46) dX9_buy_5 (by decide) (fun _ => ?_) (fun h => absurd h (by decide))
        refine e_iconst dX9_buy_46 rfl kc_m1 ?_
        refine e_iret dX9_buy_47 ?_
        first | (exfalso; omega) | exact bad (fun z => h43 (by have := z.2.2.2.1; omega)) M (FM.rf M)
    · refine e_aload0 dX9_buy_0 ?_
      refine e_iload1 dX9_buy_1 ?_
      refine e_cVZ (ct_X9_isHouse (d := d - 1) (by omega) nn.1) cy_X9_isHouse cv_X9_isHouse ml_X9_317 la_134 rfl rfl rfl (rok (by omega) (by decide)) (Nat.le_of_ble_eq_true rfl) dX9_buy_2 (fun g2 => ?_) (fun g2 => ?_)
      · refine e_if_eq (tgt := 46) dX9_buy_5 (by decide) (fun h => absurd h (by decide)) (fun _ => ?_)
        refine e_aload0 dX9_buy_8 ?_
        refine e_iload2 dX9_buy_9 ?_
        refine e_cVZ (ct_X9_isCandle (d := d - 1) (by omega) nn.2.1) cy_X9_isCandle cv_X9_isCandle ml_X9_320 la_134 rfl rfl rfl (rok (by omega) (by decide)) (Nat.le_of_ble_eq_true rfl) dX9_buy_10 (fun g10 => ?_) (fun g10 => ?_)
        · refine e_if_eq (tgt := 46) dX9_buy_13 (by decide) (fun h => absurd h (by decide)) (fun _ => ?_)
          refine e_iload3 dX9_buy_16 ?_
          refine e_aload0 dX9_buy_17 ?_
          refine e_iload2 dX9_buy_18 ?_
          refine e_iconst dX9_buy_19 rfl kc_2 ?_
          refine e_cVI (ct_X9_ofCandle (d := d - 1) (k := 2) (by omega) (by decide)) cy_X9_ofCandle cv_X9_ofCandle ml_X9_327 la_134 rfl rfl rfl (rok (by omega) (by decide)) (Nat.le_of_ble_eq_true rfl) dX9_buy_20 ?_
          refine WW.ec (y := G 10 c') (ac.2.2.1) ?_
          refine e_aload0 dX9_buy_23 ?_
          refine e_iload2 dX9_buy_24 ?_
          refine e_cVI (ct_X9_inchesOf (d := d - 1) (by omega)) cy_X9_inchesOf cv_X9_inchesOf ml_X9_310 la_134 rfl rfl rfl (rok (by omega) (by decide)) (Nat.le_of_ble_eq_true rfl) dX9_buy_25 ?_
          refine WW.ec (y := G 7 c') (a20.2) ?_
          refine e_iconst dX9_buy_28 rfl kc_1 ?_
          refine e_isub dX9_buy_29 (⟨by omega, by omega⟩) ?_
          refine e_cSZ (ct_X9_in (d := d - 1)) cy_X9_in cs_X9_in ml_X9_120 rfl rfl (rok (by omega) (by decide)) (Nat.le_of_ble_eq_true rfl) dX9_buy_30 (fun g30 => ?_) (fun g30 => ?_)
          · refine e_if_eq (tgt := 46) dX9_buy_33 (by decide) (fun h => absurd h (by decide)) (fun _ => ?_)
            exact absurd g30 (by omega)
          · refine e_if_eq (tgt := 46) dX9_buy_33 (by decide) (fun _ => ?_) (fun h => absurd h (by decide))
            refine e_iconst dX9_buy_46 rfl kc_m1 ?_
            refine e_iret dX9_buy_47 ?_
            exact bad (fun z => hi (by have a := z.2.1.2.2; have b := z.2.2.1; rw [toN] at a b; exact ⟨b, a⟩)) M (FM.rf M)
        · refine e_if_eq (tgt := 46) dX9_buy_13 (by decide) (fun _ => ?_) (fun h => absurd h (by decide))
          refine e_iconst dX9_buy_46 rfl kc_m1 ?_
          refine e_iret dX9_buy_47 ?_
          exact bad (fun z => hi (by have a := z.2.1.2.2; have b := z.2.2.1; rw [toN] at a b; exact ⟨b, a⟩)) M (FM.rf M)
      · refine e_if_eq (tgt := 46) dX9_buy_5 (by decide) (fun _ => ?_) (fun h => absurd h (by decide))
        refine e_iconst dX9_buy_46 rfl kc_m1 ?_
        refine e_iret dX9_buy_47 ?_
        exact bad (fun z => hi (by have a := z.2.1.2.2; have b := z.2.2.1; rw [toN] at a b; exact ⟨b, a⟩)) M (FM.rf M)
  · refine e_aload0 dX9_buy_0 ?_
    refine e_iload1 dX9_buy_1 ?_
    refine e_cVZ (ct_X9_isHouse (d := d - 1) (by omega) nn.1) cy_X9_isHouse cv_X9_isHouse ml_X9_317 la_134 rfl rfl rfl (rok (by omega) (by decide)) (Nat.le_of_ble_eq_true rfl) dX9_buy_2 (fun g2 => ?_) (fun g2 => ?_)
    · refine e_if_eq (tgt := 46) dX9_buy_5 (by decide) (fun h => absurd h (by decide)) (fun _ => ?_)
      refine e_aload0 dX9_buy_8 ?_
      refine e_iload2 dX9_buy_9 ?_
      refine e_cVZ (ct_X9_isCandle (d := d - 1) (by omega) nn.2.1) cy_X9_isCandle cv_X9_isCandle ml_X9_320 la_134 rfl rfl rfl (rok (by omega) (by decide)) (Nat.le_of_ble_eq_true rfl) dX9_buy_10 (fun g10 => ?_) (fun g10 => ?_)
      · refine e_if_eq (tgt := 46) dX9_buy_13 (by decide) (fun h => absurd h (by decide)) (fun _ => ?_)
        exact absurd ⟨⟨g2.1, by omega⟩, ⟨g10.1, by omega⟩⟩ hh
      · refine e_if_eq (tgt := 46) dX9_buy_13 (by decide) (fun _ => ?_) (fun h => absurd h (by decide))
        refine e_iconst dX9_buy_46 rfl kc_m1 ?_
        refine e_iret dX9_buy_47 ?_
        exact bad (fun z => hh ⟨z.1, z.2.1.1⟩) M (FM.rf M)
    · refine e_if_eq (tgt := 46) dX9_buy_5 (by decide) (fun _ => ?_) (fun h => absurd h (by decide))
      refine e_iconst dX9_buy_46 rfl kc_m1 ?_
      refine e_iret dX9_buy_47 ?_
      exact bad (fun z => hh ⟨z.1, z.2.1.1⟩) M (FM.rf M)
end MBUY
