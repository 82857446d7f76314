/-! THE MODEL'S WAYS -/
def pvH (G : Mem) (c nx : Nat) : Nat → Int
  | 0 => stH G c
  | n + 1 => wH G c nx n
/-- the way as the model lays it -/
def LY (G : Mem) (c nx n : Nat) (M1 : Mem) : Prop := ∀ m, m < n → M1 158 (nx + m) = wH G c nx m ∧ M1 159 (nx + m) = wO G c nx m
theorem hasW_iff {G M : Mem} (hg : GS G M) {c : Nat} (hc : (c : Int) < G 1 5) : hasW G c ↔ (if G 8 c = 0 then ownr G c 0 ≠ -1 else G 8 c ≠ 3) := by
  have hG := hg.gm
  have hcc : isC G c := ⟨by omega, hc⟩
  have hst := hG.2.2.2.2.2 c hcc
  rw [toN] at hst
  obtain ⟨_, _, _, h6, h7, _⟩ := hg.cn hc
  have hin : isIn G c 0 := ⟨hcc, by omega, by rw [toN]; omega⟩
  have how := hG.2.2.1.1 c 0 hin
  unfold hasW stH
  rw [toN]
  by_cases q : G 8 c = 0
  · rw [if_pos q, if_pos q]
    exact ⟨fun z e => by have := z.2.2.1; omega, fun z => ⟨hcc, by omega, how.resolve_left z⟩⟩
  · rw [if_neg q, if_neg q]
    exact ⟨fun z => z.2.1, fun z => ⟨hcc, z, (hst.2.2 (by omega)).1⟩⟩
section MWAY
variable {l : Launch} {w : Wd} {d : Nat} {M : Mem} {Q : Option MV → Mem → Prop}
theorem ct_X9_hasWay {G : Mem} (hd : 2 ≤ d) (hg : GS G M) {c : Int} : PZ l w yX9_hasWay cX9_hasWay 2 d [vR 134, vI c] M (hasW G c) := by
  have nn := hg.nn
  refine MT.of [some (vR 134), some (vI c)] ⟨by decide, rfl⟩ rfl (Nat.le_of_ble_eq_true rfl) (fun hA hM => ?_)
  by_cases hc : isC G c
  · obtain ⟨c', rfl⟩ : ∃ n : Nat, c = n := ⟨c.toNat, by have := hc.1; omega⟩
    obtain ⟨_, ⟨a3, _⟩, a6, h6, h7, _⟩ := hg.cn hc.2
    have hi := hasW_iff hg hc.2
    have o0 := a6 0 (by omega)
    by_cases q : G 8 c' = 0
    · rw [if_pos q] at hi
      refine e_aload0 dX9_hasWay_0 ?_
      refine e_iload1 dX9_hasWay_1 ?_
      refine e_cVZ (ct_X9_isCandle (d := d - 1) (by omega) nn.2.1) cy_X9_isCandle cv_X9_isCandle ml_X9_320 la_134 rfl rfl rfl (rok (by omega) (by decide)) (Nat.le_of_ble_eq_true rfl) dX9_hasWay_2 (fun g2 => ?_) (fun g2 => ?_)
      · refine e_if_eq (tgt := 44) dX9_hasWay_5 (by decide) (fun h => absurd h (by decide)) (fun _ => ?_)
        refine e_aload0 dX9_hasWay_8 ?_
        refine e_iload1 dX9_hasWay_9 ?_
        refine e_iconst dX9_hasWay_10 rfl kc_0 ?_
        refine e_cVI (ct_X9_ofCandle (d := d - 1) (k := 0) h6 (by decide)) cy_X9_ofCandle cv_X9_ofCandle ml_X9_327 la_134 rfl rfl rfl (rok (by omega) (by decide)) (Nat.le_of_ble_eq_true rfl) dX9_hasWay_11 ?_
        refine WW.ec (y := 0) (by rw [a3, q]) ?_
        refine e_if_ne (tgt := 30) dX9_hasWay_14 (by decide) (fun h => absurd h (fun z => z rfl)) (fun h14 => ?_)
        refine e_aload0 dX9_hasWay_17 ?_
        refine e_iload1 dX9_hasWay_18 ?_
        refine e_iconst dX9_hasWay_19 rfl kc_0 ?_
        refine e_cVI (ct_X9_ownerOf (d := d - 1) (i := 0) h6 (by decide)) cy_X9_ownerOf cv_X9_ownerOf ml_X9_330 la_134 rfl rfl rfl (rok (by omega) (by decide)) (Nat.le_of_ble_eq_true rfl) dX9_hasWay_20 ?_
        refine WW.ec (y := ownr G c' 0) (o0) ?_
        refine e_iconst dX9_hasWay_23 rfl kc_m1 ?_
        refine e_icmp_eq (tgt := 44) dX9_hasWay_24 (by decide) (fun h24 => ?_) (fun h24 => ?_)
        · refine e_iconst dX9_hasWay_44 rfl kc_0 ?_
          refine e_zret dX9_hasWay_45 (by decide) ?_
          first | exact absurd ((hg.isC _).mpr hc) g2 | exact ⟨rfl, Or.inl ⟨rfl, hi.mpr h24⟩⟩ | exact ⟨rfl, Or.inr ⟨rfl, fun z => hi.mp z h24⟩⟩
        · refine e_goto (tgt := 40) dX9_hasWay_27 (by decide) ?_
          refine e_iconst dX9_hasWay_40 rfl kc_1 ?_
          refine e_goto (tgt := 45) dX9_hasWay_41 (by decide) ?_
          refine e_zret dX9_hasWay_45 (by decide) ?_
          first | exact absurd ((hg.isC _).mpr hc) g2 | exact ⟨rfl, Or.inl ⟨rfl, hi.mpr h24⟩⟩ | exact ⟨rfl, Or.inr ⟨rfl, fun z => hi.mp z h24⟩⟩
      · refine e_if_eq (tgt := 44) dX9_hasWay_5 (by decide) (fun _ => ?_) (fun h => absurd h (by decide))
        refine e_iconst dX9_hasWay_44 rfl kc_0 ?_
        refine e_zret dX9_hasWay_45 (by decide) ?_
        first | exact absurd ((hg.isC _).mpr hc) g2 | exact ⟨rfl, Or.inl ⟨rfl, hi.mpr h24⟩⟩ | exact ⟨rfl, Or.inr ⟨rfl, fun z => hi.mp z h24⟩⟩
    · rw [if_neg q] at hi
      refine e_aload0 dX9_hasWay_0 ?_
      refine e_iload1 dX9_hasWay_1 ?_
      refine e_cVZ (ct_X9_isCandle (d := d - 1) (by omega) nn.2.1) cy_X9_isCandle cv_X9_isCandle ml_X9_320 la_134 rfl rfl rfl (rok (by omega) (by decide)) (Nat.le_of_ble_eq_true rfl) dX9_hasWay_2 (fun g2 => ?_) (fun g2 => ?_)
      · refine e_if_eq (tgt := 44) dX9_hasWay_5 (by decide) (fun h => absurd h (by decide)) (fun _ => ?_)
        refine e_aload0 dX9_hasWay_8 ?_
        refine e_iload1 dX9_hasWay_9 ?_
        refine e_iconst dX9_hasWay_10 rfl kc_0 ?_
        refine e_cVI (ct_X9_ofCandle (d := d - 1) (k := 0) h6 (by decide)) cy_X9_ofCandle cv_X9_ofCandle ml_X9_327 la_134 rfl rfl rfl (rok (by omega) (by decide)) (Nat.le_of_ble_eq_true rfl) dX9_hasWay_11 ?_
        refine WW.ec (y := G 8 c') (a3) ?_
        refine e_if_ne (tgt := 30) dX9_hasWay_14 (by decide) (fun h14 => ?_) (fun h => absurd h (by omega))
        refine e_aload0 dX9_hasWay_30 ?_
        refine e_iload1 dX9_hasWay_31 ?_
        refine e_iconst dX9_hasWay_32 rfl kc_0 ?_
        refine e_cVI (ct_X9_ofCandle (d := d - 1) (k := 0) h6 (by decide)) cy_X9_ofCandle cv_X9_ofCandle ml_X9_327 la_134 rfl rfl rfl (rok (by omega) (by decide)) (Nat.le_of_ble_eq_true rfl) dX9_hasWay_33 ?_
        refine WW.ec (y := G 8 c') (a3) ?_
        refine e_iconst dX9_hasWay_36 rfl kc_3 ?_
        refine e_icmp_eq (tgt := 44) dX9_hasWay_37 (by decide) (fun h37 => ?_) (fun h37 => ?_)
        · refine e_iconst dX9_hasWay_44 rfl kc_0 ?_
          refine e_zret dX9_hasWay_45 (by decide) ?_
          first | exact absurd ((hg.isC _).mpr hc) g2 | exact ⟨rfl, Or.inl ⟨rfl, hi.mpr h37⟩⟩ | exact ⟨rfl, Or.inr ⟨rfl, fun z => hi.mp z h37⟩⟩
        · refine e_iconst dX9_hasWay_40 rfl kc_1 ?_
          refine e_goto (tgt := 45) dX9_hasWay_41 (by decide) ?_
          refine e_zret dX9_hasWay_45 (by decide) ?_
          first | exact absurd ((hg.isC _).mpr hc) g2 | exact ⟨rfl, Or.inl ⟨rfl, hi.mpr h37⟩⟩ | exact ⟨rfl, Or.inr ⟨rfl, fun z => hi.mp z h37⟩⟩
      · refine e_if_eq (tgt := 44) dX9_hasWay_5 (by decide) (fun _ => ?_) (fun h => absurd h (by decide))
        refine e_iconst dX9_hasWay_44 rfl kc_0 ?_
        refine e_zret dX9_hasWay_45 (by decide) ?_
        first | exact absurd ((hg.isC _).mpr hc) g2 | exact ⟨rfl, Or.inl ⟨rfl, hi.mpr h37⟩⟩ | exact ⟨rfl, Or.inr ⟨rfl, fun z => hi.mp z h37⟩⟩
  · refine e_aload0 dX9_hasWay_0 ?_
    refine e_iload1 dX9_hasWay_1 ?_
    refine e_cVZ (ct_X9_isCandle (d := d - 1) (by omega) nn.2.1) cy_X9_isCandle cv_X9_isCandle ml_X9_320 la_134 rfl rfl rfl (rok (by omega) (by decide)) (Nat.le_of_ble_eq_true rfl) dX9_hasWay_2 (fun g2 => ?_) (fun g2 => ?_)
    · refine e_if_eq (tgt := 44) dX9_hasWay_5 (by decide) (fun h => absurd h (by decide)) (fun _ => ?_)
      exact absurd ((hg.isC _).mp g2) hc
    · refine e_if_eq (tgt := 44) dX9_hasWay_5 (by decide) (fun _ => ?_) (fun h => absurd h (by decide))
      refine e_iconst dX9_hasWay_44 rfl kc_0 ?_
      refine e_zret dX9_hasWay_45 (by decide) ?_
      exact ⟨rfl, Or.inr ⟨rfl, fun z => hc z.1⟩⟩
theorem ly_loop {G : Mem} (hd : 5 ≤ d) (hg : GS G M) {c nx ln : Nat} (hw : hasW G c) (hnx : G 10 c = nx) (hln : G 7 c = ln) (hQ : ∀ M1, FQ M M1 → LY G c nx (ln - nx) M1 → Q none M1) :
    ∀ (q n : Nat) (N : Mem) (v5 : Option MV), nx + n + q = ln → FQ M N → LY G c nx n N → WM l w RX9 cX9_laysWay 6 none d Q 35 [some (vR 134), some (vI (c : Int)), some (vI (nx : Int)), some (vI (pvH G c nx n)), some (vI ((nx + n : Nat) : Int)), v5] [] N
  | 0, n, N, v5, hq, hf, hl => by
    obtain ⟨⟨a1, a2⟩, _, a6, h6, h7, _⟩ := (hg.fq hf).cn hw.1.2
    have hq2 := hQ N hf (by rw [show ln - nx = n by omega]; exact hl)
    refine e_iload4 dX9_laysWay_35 ?_
    refine e_aload0 dX9_laysWay_37 ?_
    refine e_iload1 dX9_laysWay_38 ?_
    refine e_cVI (ct_X9_inchesOf (d := d - 1) h6) cy_X9_inchesOf cv_X9_inchesOf ml_X9_310 la_134 rfl rfl rfl (rok (by omega) (by decide)) (Nat.le_of_ble_eq_true rfl) dX9_laysWay_39 ?_
    refine WW.ec (y := (ln : Int)) (by rw [a2, hln]) ?_
    refine e_icmp_ge (tgt := 113) dX9_laysWay_42 (by decide) (fun h42 => ?_) (fun h42 => ?_)
    · refine e_vret dX9_laysWay_113 ?_
      exact hq2
    · omega
  | q + 1, n, N, v5, hq, hf, hl => by
    have hgN := hg.fq hf
    have hG := hg.gm
    obtain ⟨⟨a1, a2⟩, _, a6, h6, h7, h10, h61, _⟩ := hgN.cn hw.1.2
    have hcc := hw.1
    have hin : isIn G c ((nx + n : Nat) : Int) := ⟨hcc, by omega, by rw [toN]; omega⟩
    have o1 := a6 (nx + n) (by omega)
    have eow : up N 159 (nx + n) (-1) 135 (67 + 15 * c + (nx + n)) = ownr G c ((nx + n : Nat) : Int) := by rw [up_o (by decide)]; exact o1
    -- what follows with h in hand
    have h99 : ∀ (N2 : Mem) (v5 : Int), FQ M N2 → (∀ o, (o = 158 ∨ o = 159) → ∀ k, k ≠ nx + n → N2 o k = N o k) → N2 159 (nx + n) = wO G c nx n → WM l w RX9 cX9_laysWay 6 none d Q 99 [some (vR 134), some (vI (c : Int)), some (vI (nx : Int)), some (vI (wH G c nx n)), some (vI ((nx + n : Nat) : Int)), some (vI v5)] [] N2 := by
      intro N2 v5 hf2 hs2 hO
      have ih := ly_loop hd hg hw hnx hln hQ q (n + 1) (up N2 158 (nx + n) (wH G c nx n)) (some (vI v5)) (by omega) (hf2.up (by decide)) (fun m hm => by
        by_cases e : m = n
        · subst e
          rw [up_s, up_o (by decide)]
          exact ⟨rfl, hO⟩
        · rw [up_k (by omega), up_o (by decide), hs2 158 (Or.inl rfl) _ (by omega), hs2 159 (Or.inr rfl) _ (by omega)]
          exact hl m (by omega))
      refine e_aload0 dX9_laysWay_99 ?_
      refine e_getR fl_X9_88 la_134 rfl dX9_laysWay_100 ?_
      refine e_iload4 dX9_laysWay_103 ?_
      refine e_iload3 dX9_laysWay_105 ?_
      refine e_iastK (k := nx + n) la_158 (by omega) (by omega) dX9_laysWay_106 ?_
      refine e_iinc4 dX9_laysWay_107 rfl (⟨by omega, by omega⟩) rfl ?_
      refine e_goto (tgt := 35) dX9_laysWay_110 (by decide) ?_
      exact ih
    have hf1 : FQ M (up N 159 (nx + n) (-1)) := hf.up (by decide)
    by_cases go : 0 < n ∧ ownr G c ((nx + n : Nat) : Int) ≠ -1 ∧ ownr G c ((nx + n : Nat) : Int) ≠ pvH G c nx n
    · obtain ⟨m, rfl⟩ : ∃ m, n = m + 1 := ⟨n - 1, by omega⟩
      have eH : wH G c nx (m + 1) = ownr G c ((nx + (m + 1) : Nat) : Int) := by
        show (if _ then _ else _) = _
        rw [if_pos ⟨go.2.1, go.2.2⟩]
      have eO : wO G c nx (m + 1) = tellV G 3 (ownr G c ((nx + (m + 1) : Nat) : Int)) c ((nx + (m + 1) : Nat) : Int) := by
        show (if _ then _ else _) = _
        rw [if_pos ⟨go.2.1, go.2.2⟩]
      have hh : isH G (ownr G c ((nx + (m + 1) : Nat) : Int)) := (hG.2.2.1.1 c _ hin).resolve_left go.2.1
      obtain ⟨o, eo⟩ : ∃ o : Nat, ownr G c ((nx + (m + 1) : Nat) : Int) = o := ⟨(ownr G c ((nx + (m + 1) : Nat) : Int)).toNat, by have := hh.1; omega⟩
      have hg1 := hg.fq hf1
      have hlaw := ct_X9_lawFor (l := l) (w := w) (d := d - 1) (M := up N 159 (nx + (m + 1)) (-1)) (u := 3) (h := o) (c := c) (i := nx + (m + 1)) (by omega) (by decide) (by rw [← eo]; exact hh.2) hcc.2 (by omega) hG.1 h61.1 hg1.2.2.1.lr hg1.2.2.2
      rw [eH] at h99
      rw [eo] at h99 eow go eO
      refine e_iload4 dX9_laysWay_35 ?_
      refine e_aload0 dX9_laysWay_37 ?_
      refine e_iload1 dX9_laysWay_38 ?_
      refine e_cVI (ct_X9_inchesOf (d := d - 1) h6) cy_X9_inchesOf cv_X9_inchesOf ml_X9_310 la_134 rfl rfl rfl (rok (by omega) (by decide)) (Nat.le_of_ble_eq_true rfl) dX9_laysWay_39 ?_
      refine WW.ec (y := (ln : Int)) (by rw [a2, hln]) ?_
      refine e_icmp_ge (tgt := 113) dX9_laysWay_42 (by decide) (fun h42 => ?_) (fun h42 => ?_)
      · omega
      · refine e_aload0 dX9_laysWay_45 ?_
        refine e_getR fl_X9_91 la_134 rfl dX9_laysWay_46 ?_
        refine e_iload4 dX9_laysWay_49 ?_
        refine e_iconst dX9_laysWay_51 rfl kc_m1 ?_
        refine e_iastK (k := nx + (m + 1)) la_159 (by omega) (by omega) dX9_laysWay_52 ?_
        refine e_aload0 dX9_laysWay_53 ?_
        refine e_iload1 dX9_laysWay_54 ?_
        refine e_iload4 dX9_laysWay_55 ?_
        refine e_cVI (ct_X9_ownerOf (d := d - 1) h6 (by omega)) cy_X9_ownerOf cv_X9_ownerOf ml_X9_330 la_134 rfl rfl rfl (rok (by omega) (by decide)) (Nat.le_of_ble_eq_true rfl) dX9_laysWay_57 ?_
        refine WW.ec (y := (o : Int)) (eow) ?_
        refine e_istore5 dX9_laysWay_60 rfl ?_
        refine e_iload4 dX9_laysWay_62 ?_
        refine e_iload2 dX9_laysWay_64 ?_
        refine e_icmp_le (tgt := 99) dX9_laysWay_65 (by decide) (fun h => absurd h (by omega)) (fun h65 => ?_)
        refine e_iload5 dX9_laysWay_68 ?_
        refine e_iconst dX9_laysWay_70 rfl kc_m1 ?_
        refine e_icmp_eq (tgt := 99) dX9_laysWay_71 (by decide) (fun h => absurd h (by omega)) (fun h71 => ?_)
        refine e_iload5 dX9_laysWay_74 ?_
        refine e_iload3 dX9_laysWay_76 ?_
        refine e_icmp_eq (tgt := 99) dX9_laysWay_77 (by decide) (fun h => absurd h (fun z => go.2.2 z)) (fun h77 => ?_)
        refine e_iload5 dX9_laysWay_80 ?_
        refine e_istore3 dX9_laysWay_82 rfl ?_
        refine e_aload0 dX9_laysWay_83 ?_
        refine e_getR fl_X9_91 la_134 rfl dX9_laysWay_84 ?_
        refine e_iload4 dX9_laysWay_87 ?_
        refine e_aload0 dX9_laysWay_89 ?_
        refine e_iconst dX9_laysWay_90 rfl kc_3 ?_
        refine e_iload3 dX9_laysWay_91 ?_
        refine e_iload1 dX9_laysWay_92 ?_
        refine e_iload4 dX9_laysWay_93 ?_
        refine e_cVGI (hlaw) cy_X9_lawFor cv_X9_lawFor ml_X9_323 la_134 rfl rfl rfl (rok (by omega) (by decide)) (Nat.le_of_ble_eq_true rfl) dX9_laysWay_95 (fun x M1 hx => ?_)
        obtain ⟨hx0, hfm⟩ := hx
        obtain rfl : x = tellV G 3 o c ((nx + (m + 1) : Nat) : Int) := hx0
        have hnx := h99 (up M1 159 (nx + (m + 1)) (tellV G 3 o c ((nx + (m + 1) : Nat) : Int))) o ((hf1.tr hfm.fq).up (by decide)) (fun q hq k hk => by
          rw [up_k hk, hfm q (by omega) (by omega), up_k hk]) (by rw [up_s, eO])
        refine e_iastK (k := nx + (m + 1)) la_159 (by omega) (by omega) dX9_laysWay_98 ?_
        exact hnx
    · have eH : wH G c nx n = pvH G c nx n ∧ wO G c nx n = -1 := by
        cases n with
        | zero => exact ⟨rfl, rfl⟩
        | succ m =>
          have ng : ¬ (ownr G c ((nx + (m + 1) : Nat) : Int) ≠ -1 ∧ ownr G c ((nx + (m + 1) : Nat) : Int) ≠ wH G c nx m) := fun z => go ⟨by omega, z.1, z.2⟩
          refine ⟨?_, ?_⟩
          · show (if _ then _ else _) = wH G c nx m
            rw [if_neg ng]
          · show (if _ then _ else _) = _
            rw [if_neg ng]
      have hnx := h99 (up N 159 (nx + n) (-1)) (ownr G c ((nx + n : Nat) : Int)) hf1 (fun q hq k hk => by rw [up_k hk]) (by rw [up_s, eH.2])
      rw [eH.1] at hnx
      refine e_iload4 dX9_laysWay_35 ?_
      refine e_aload0 dX9_laysWay_37 ?_
      refine e_iload1 dX9_laysWay_38 ?_
      refine e_cVI (ct_X9_inchesOf (d := d - 1) h6) cy_X9_inchesOf cv_X9_inchesOf ml_X9_310 la_134 rfl rfl rfl (rok (by omega) (by decide)) (Nat.le_of_ble_eq_true rfl) dX9_laysWay_39 ?_
      refine WW.ec (y := (ln : Int)) (by rw [a2, hln]) ?_
      refine e_icmp_ge (tgt := 113) dX9_laysWay_42 (by decide) (fun h42 => ?_) (fun h42 => ?_)
      · omega
      · refine e_aload0 dX9_laysWay_45 ?_
        refine e_getR fl_X9_91 la_134 rfl dX9_laysWay_46 ?_
        refine e_iload4 dX9_laysWay_49 ?_
        refine e_iconst dX9_laysWay_51 rfl kc_m1 ?_
        refine e_iastK (k := nx + n) la_159 (by omega) (by omega) dX9_laysWay_52 ?_
        refine e_aload0 dX9_laysWay_53 ?_
        refine e_iload1 dX9_laysWay_54 ?_
        refine e_iload4 dX9_laysWay_55 ?_
        refine e_cVI (ct_X9_ownerOf (d := d - 1) h6 (by omega)) cy_X9_ownerOf cv_X9_ownerOf ml_X9_330 la_134 rfl rfl rfl (rok (by omega) (by decide)) (Nat.le_of_ble_eq_true rfl) dX9_laysWay_57 ?_
        refine WW.ec (y := ownr G c ((nx + n : Nat) : Int)) (eow) ?_
        refine e_istore5 dX9_laysWay_60 rfl ?_
        refine e_iload4 dX9_laysWay_62 ?_
        refine e_iload2 dX9_laysWay_64 ?_
        refine e_icmp_le (tgt := 99) dX9_laysWay_65 (by decide) (fun h65 => ?_) (fun h65 => ?_)
        · exact hnx
        · refine e_iload5 dX9_laysWay_68 ?_
          refine e_iconst dX9_laysWay_70 rfl kc_m1 ?_
          refine e_icmp_eq (tgt := 99) dX9_laysWay_71 (by decide) (fun h71 => ?_) (fun h71 => ?_)
          · exact hnx
          · refine e_iload5 dX9_laysWay_74 ?_
            refine e_iload3 dX9_laysWay_76 ?_
            refine e_icmp_eq (tgt := 99) dX9_laysWay_77 (by decide) (fun h77 => ?_) (fun h77 => ?_)
            · exact hnx
            · exact absurd ⟨by omega, h71, h77⟩ go
theorem ct_X9_laysWay {G : Mem} (hd : 5 ≤ d) (hg : GS G M) {c nx ln : Nat} (hw : hasW G c) (hnx : G 10 c = nx) (hln : G 7 c = ln) : GV l w yX9_laysWay cX9_laysWay 6 d [vR 134, vI (c : Int)] M (fun M1 => FQ M M1 ∧ LY G c nx (ln - nx) M1) := by
  obtain ⟨_, ⟨a3, a4, a5⟩, a6, h6, h7, h10, _⟩ := hg.cn hw.1.2
  have h := ly_loop (l := l) (w := w) (d := d) (M := M) (Q := fun r M1 => r = none ∧ FQ M M1 ∧ LY G c nx (ln - nx) M1) hd hg hw hnx hln (fun M1 a b => ⟨rfl, a, b⟩) (ln - nx) 0 M none (by omega) (FQ.rf M) (fun m hm => absurd hm (Nat.not_lt_zero m))
  have o0 := a6 0 (by omega)
  have ep : pvH G c nx 0 = if G 8 c = 0 then ownr G c 0 else G 9 c := rfl
  rw [ep] at h
  refine MT.of [some (vR 134), some (vI (c : Int)), none, none, none, none] ⟨by decide, rfl⟩ rfl (Nat.le_of_ble_eq_true rfl) (fun hA hM => ?_)
  by_cases q : G 8 c = 0
  · rw [if_pos q] at h
    refine e_aload0 dX9_laysWay_0 ?_
    refine e_iload1 dX9_laysWay_1 ?_
    refine e_iconst dX9_laysWay_2 rfl kc_2 ?_
    refine e_cVI (ct_X9_ofCandle (d := d - 1) (k := 2) h6 (by decide)) cy_X9_ofCandle cv_X9_ofCandle ml_X9_327 la_134 rfl rfl rfl (rok (by omega) (by decide)) (Nat.le_of_ble_eq_true rfl) dX9_laysWay_3 ?_
    refine WW.ec (y := (nx : Int)) (by rw [a5, hnx]) ?_
    refine e_istore2 dX9_laysWay_6 rfl ?_
    refine e_aload0 dX9_laysWay_7 ?_
    refine e_iload1 dX9_laysWay_8 ?_
    refine e_iconst dX9_laysWay_9 rfl kc_0 ?_
    refine e_cVI (ct_X9_ofCandle (d := d - 1) (k := 0) h6 (by decide)) cy_X9_ofCandle cv_X9_ofCandle ml_X9_327 la_134 rfl rfl rfl (rok (by omega) (by decide)) (Nat.le_of_ble_eq_true rfl) dX9_laysWay_10 ?_
    refine WW.ec (y := 0) (by rw [a3, q]) ?_
    refine e_if_ne (tgt := 25) dX9_laysWay_13 (by decide) (fun h => absurd h (fun z => z rfl)) (fun h13 => ?_)
    refine e_aload0 dX9_laysWay_16 ?_
    refine e_iload1 dX9_laysWay_17 ?_
    refine e_iconst dX9_laysWay_18 rfl kc_0 ?_
    refine e_cVI (ct_X9_ownerOf (d := d - 1) (i := 0) h6 (by decide)) cy_X9_ownerOf cv_X9_ownerOf ml_X9_330 la_134 rfl rfl rfl (rok (by omega) (by decide)) (Nat.le_of_ble_eq_true rfl) dX9_laysWay_19 ?_
    refine WW.ec (y := ownr G c 0) (o0) ?_
    refine e_goto (tgt := 31) dX9_laysWay_22 (by decide) ?_
    refine e_istore3 dX9_laysWay_31 rfl ?_
    refine e_iload2 dX9_laysWay_32 ?_
    refine e_istore4 dX9_laysWay_33 rfl ?_
    exact h
  · rw [if_neg q] at h
    refine e_aload0 dX9_laysWay_0 ?_
    refine e_iload1 dX9_laysWay_1 ?_
    refine e_iconst dX9_laysWay_2 rfl kc_2 ?_
    refine e_cVI (ct_X9_ofCandle (d := d - 1) (k := 2) h6 (by decide)) cy_X9_ofCandle cv_X9_ofCandle ml_X9_327 la_134 rfl rfl rfl (rok (by omega) (by decide)) (Nat.le_of_ble_eq_true rfl) dX9_laysWay_3 ?_
    refine WW.ec (y := (nx : Int)) (by rw [a5, hnx]) ?_
    refine e_istore2 dX9_laysWay_6 rfl ?_
    refine e_aload0 dX9_laysWay_7 ?_
    refine e_iload1 dX9_laysWay_8 ?_
    refine e_iconst dX9_laysWay_9 rfl kc_0 ?_
    refine e_cVI (ct_X9_ofCandle (d := d - 1) (k := 0) h6 (by decide)) cy_X9_ofCandle cv_X9_ofCandle ml_X9_327 la_134 rfl rfl rfl (rok (by omega) (by decide)) (Nat.le_of_ble_eq_true rfl) dX9_laysWay_10 ?_
    refine WW.ec (y := G 8 c) (a3) ?_
    refine e_if_ne (tgt := 25) dX9_laysWay_13 (by decide) (fun h13 => ?_) (fun h => absurd h (by omega))
    refine e_aload0 dX9_laysWay_25 ?_
    refine e_iload1 dX9_laysWay_26 ?_
    refine e_iconst dX9_laysWay_27 rfl kc_1 ?_
    refine e_cVI (ct_X9_ofCandle (d := d - 1) (k := 1) h6 (by decide)) cy_X9_ofCandle cv_X9_ofCandle ml_X9_327 la_134 rfl rfl rfl (rok (by omega) (by decide)) (Nat.le_of_ble_eq_true rfl) dX9_laysWay_28 ?_
    refine WW.ec (y := G 9 c) (a4) ?_
    refine e_istore3 dX9_laysWay_31 rfl ?_
    refine e_iload2 dX9_laysWay_32 ?_
    refine e_istore4 dX9_laysWay_33 rfl ?_
    exact h
theorem wh_loop {G : Mem} (hd : 5 ≤ d) (hg : GS G M) {c nx ln : Nat} (hw : hasW G c) (hln : G 7 c = ln) {t : Int} (hQ : ∀ x M1, FQ M M1 → x = wAt (wH G c nx) (bN G c nx) (ln - nx) 0 t → Q (some (vI x)) M1) :
    ∀ (q n : Nat) (N : Mem) (u : Int), nx + n + q = ln → FQ M N → LY G c nx (ln - nx) N → (-99 ≤ u ∧ u ≤ 9999) → wAt (wH G c nx) (bN G c nx) (ln - nx) 0 t = wAt (wH G c nx) (bN G c nx) q n u → WM l w RX9 cX9_whose 5 (some .int) d Q 36 [some (vR 134), some (vI (c : Int)), some (vI t), some (vI u), some (vI ((nx + n : Nat) : Int))] [] N
  | 0, n, N, u, hq, hf, hl, hu, he => by
    obtain ⟨⟨a1, a2⟩, _, a6, h6, h7, _⟩ := (hg.fq hf).cn hw.1.2
    have hq2 := hQ (-1) N hf (by rw [he]; rfl)
    refine e_iload4 dX9_whose_36 ?_
    refine e_aload0 dX9_whose_38 ?_
    refine e_iload1 dX9_whose_39 ?_
    refine e_cVI (ct_X9_inchesOf (d := d - 1) h6) cy_X9_inchesOf cv_X9_inchesOf ml_X9_310 la_134 rfl rfl rfl (rok (by omega) (by decide)) (Nat.le_of_ble_eq_true rfl) dX9_whose_40 ?_
    refine WW.ec (y := (ln : Int)) (by rw [a2, hln]) ?_
    refine e_icmp_ge (tgt := 82) dX9_whose_43 (by decide) (fun h43 => ?_) (fun h43 => ?_)
    · refine e_iconst dX9_whose_82 rfl kc_m1 ?_
      refine e_iret dX9_whose_83 ?_
      exact hq2
    · omega
  | q + 1, n, N, u, hq, hf, hl, hu, he => by
    have hgN := hg.fq hf
    have hG := hg.gm
    obtain ⟨⟨a1, a2⟩, _, a6, h6, h7, h10, h61, _⟩ := hgN.cn hw.1.2
    have e1 := (hl n (by omega)).1
    have hwh : isH G (wH G c nx n) := by
      have hs : isH G (stH G c) := by have := hw.2.2; rw [toN] at this; exact this
      exact wH_h hG.2.2.1 hw.1 hs hln n (Or.inl (by omega))
    obtain ⟨o, eo⟩ : ∃ o : Nat, wH G c nx n = o := ⟨(wH G c nx n).toNat, by have := hwh.1; omega⟩
    have hlaw := ct_X9_lawFor (l := l) (w := w) (d := d - 1) (M := N) (u := 1) (h := o) (c := c) (i := nx + n) (by omega) (by decide) (by rw [← eo]; exact hwh.2) hw.1.2 (by omega) hG.1 h61.1 hgN.2.2.1.lr hgN.2.2.2
    have hb := (tellV_b G 1 o c ((nx + n : Nat) : Int)).1
    have eb : bN G c nx n = tellV G 1 o c ((nx + n : Nat) : Int) := by unfold bN; rw [eo]
    have he2 : wAt (wH G c nx) (bN G c nx) (ln - nx) 0 t = if u - tellV G 1 o c ((nx + n : Nat) : Int) < 0 then (o : Int) else wAt (wH G c nx) (bN G c nx) q (n + 1) (u - tellV G 1 o c ((nx + n : Nat) : Int)) := by
      rw [he]
      show (if u - bN G c nx n < 0 then wH G c nx n else _) = _
      rw [eb, eo]
    refine e_iload4 dX9_whose_36 ?_
    refine e_aload0 dX9_whose_38 ?_
    refine e_iload1 dX9_whose_39 ?_
    refine e_cVI (ct_X9_inchesOf (d := d - 1) h6) cy_X9_inchesOf cv_X9_inchesOf ml_X9_310 la_134 rfl rfl rfl (rok (by omega) (by decide)) (Nat.le_of_ble_eq_true rfl) dX9_whose_40 ?_
    refine WW.ec (y := (ln : Int)) (by rw [a2, hln]) ?_
    refine e_icmp_ge (tgt := 82) dX9_whose_43 (by decide) (fun h43 => ?_) (fun h43 => ?_)
    · omega
    · refine e_iload3 dX9_whose_46 ?_
      refine e_aload0 dX9_whose_47 ?_
      refine e_iconst dX9_whose_48 rfl kc_1 ?_
      refine e_aload0 dX9_whose_49 ?_
      refine e_getR fl_X9_88 la_134 rfl dX9_whose_50 ?_
      refine e_iload4 dX9_whose_53 ?_
      refine e_ialdK (k := nx + n) la_158 (by omega) (by omega) dX9_whose_55 ?_
      refine WW.ec (y := (o : Int)) (by rw [e1, eo]) ?_
      refine e_iload1 dX9_whose_56 ?_
      refine e_iload4 dX9_whose_57 ?_
      refine e_cVGI (hlaw) cy_X9_lawFor cv_X9_lawFor ml_X9_323 la_134 rfl rfl rfl (rok (by omega) (by decide)) (Nat.le_of_ble_eq_true rfl) dX9_whose_59 (fun x M1 hx => ?_)
      obtain ⟨hx0, hfm⟩ := hx
      obtain rfl : x = tellV G 1 o c ((nx + n : Nat) : Int) := hx0
      have hf2 : FQ M M1 := hf.tr hfm.fq
      have hl2 : LY G c nx (ln - nx) M1 := fun m hm => by rw [hfm 158 (by decide) (by decide), hfm 159 (by decide) (by decide)]; exact hl m hm
      have e158 : M1 158 (nx + n) = (o : Int) := by rw [(hl2 n (by omega)).1, eo]
      by_cases neg : u - tellV G 1 o c ((nx + n : Nat) : Int) < 0
      · rw [if_pos neg] at he2
        have hq2 := hQ o M1 hf2 he2.symm
        refine e_isub dX9_whose_62 (⟨by omega, by omega⟩) ?_
        refine e_istore3 dX9_whose_63 rfl ?_
        refine e_iload3 dX9_whose_64 ?_
        refine e_if_ge (tgt := 76) dX9_whose_65 (by decide) (fun h => absurd h (by omega)) (fun h65 => ?_)
        refine e_aload0 dX9_whose_68 ?_
        refine e_getR fl_X9_88 la_134 rfl dX9_whose_69 ?_
        refine e_iload4 dX9_whose_72 ?_
        refine e_ialdK (k := nx + n) la_158 (by omega) (by omega) dX9_whose_74 ?_
        refine WW.ec (y := (o : Int)) (e158) ?_
        refine e_iret dX9_whose_75 ?_
        exact hq2
      · rw [if_neg neg] at he2
        have ih := wh_loop hd hg hw hln hQ q (n + 1) M1 _ (by omega) hf2 hl2 (by omega) he2
        refine e_isub dX9_whose_62 (⟨by omega, by omega⟩) ?_
        refine e_istore3 dX9_whose_63 rfl ?_
        refine e_iload3 dX9_whose_64 ?_
        refine e_if_ge (tgt := 76) dX9_whose_65 (by decide) (fun h65 => ?_) (fun h => absurd h (by omega))
        refine e_iinc4 dX9_whose_76 rfl (⟨by omega, by omega⟩) rfl ?_
        refine e_goto (tgt := 36) dX9_whose_79 (by decide) ?_
        exact ih
theorem ct_X9_whose {G : Mem} (hd : 6 ≤ d) (hg : GS G M) {c t : Int} : GI l w yX9_whose cX9_whose 5 .int d [vR 134, vI c, vI t] M (fun x M1 => whoseR G c t x ∧ FQ M M1) := by
  refine MT.of [some (vR 134), some (vI c), some (vI t), none, none] ⟨by decide, rfl⟩ rfl (Nat.le_of_ble_eq_true rfl) (fun hA hM => ?_)
  by_cases ok : 0 ≤ t ∧ t ≤ 9999 ∧ hasW G c
  · obtain ⟨c', rfl⟩ : ∃ n : Nat, c = n := ⟨c.toNat, by have := ok.2.2.1.1; omega⟩
    have hw := ok.2.2
    obtain ⟨_, ⟨a3, a4, a5⟩, a6, h6, h7, h10, _⟩ := hg.cn hw.1.2
    obtain ⟨nx, hnx⟩ : ∃ n : Nat, G 10 c' = n := ⟨(G 10 c').toNat, by omega⟩
    obtain ⟨ln, hln⟩ : ∃ n : Nat, G 7 c' = n := ⟨(G 7 c').toNat, by omega⟩
    refine e_aload0 dX9_whose_0 ?_
    refine e_iload1 dX9_whose_1 ?_
    refine e_cVZ (ct_X9_hasWay (d := d - 1) (by omega) hg) cy_X9_hasWay cv_X9_hasWay ml_X9_359 la_134 rfl rfl rfl (rok (by omega) (by decide)) (Nat.le_of_ble_eq_true rfl) dX9_whose_2 (fun g2 => ?_) (fun g2 => ?_)
    · refine e_if_eq (tgt := 19) dX9_whose_5 (by decide) (fun h => absurd h (by decide)) (fun _ => ?_)
      refine e_iload2 dX9_whose_8 ?_
      refine e_iconst dX9_whose_9 rfl kc_0 ?_
      refine e_sipush dX9_whose_10 rfl ks_9999 ?_
      refine e_cSZ (ct_X9_in (d := d - 1)) cy_X9_in cs_X9_in ml_X9_120 rfl rfl (rok (by omega) (by decide)) (Nat.le_of_ble_eq_true rfl) dX9_whose_13 (fun g13 => ?_) (fun g13 => ?_)
      · refine e_if_ne (tgt := 21) dX9_whose_16 (by decide) (fun _ => ?_) (fun h => absurd h (by decide))
        refine e_aload0 dX9_whose_21 ?_
        refine e_iload1 dX9_whose_22 ?_
        refine e_cVGV (ct_X9_laysWay (d := d - 1) (by omega) hg hw hnx hln) cy_X9_laysWay cv_X9_laysWay ml_X9_362 la_134 rfl rfl rfl (rok (by omega) (by decide)) (Nat.le_of_ble_eq_true rfl) dX9_whose_23 (fun M1 hx => ?_)
        obtain ⟨hf, hl⟩ := hx
        obtain ⟨_, ⟨_, _, b5⟩, _⟩ := (hg.fq hf).cn hw.1.2
        have h := wh_loop (l := l) (w := w) (d := d) (M := M) (Q := fun r M1 => ∃ x, r = some (vI x) ∧ whoseR G c' t x ∧ FQ M M1) (by omega) hg hw hln (t := t) (nx := nx) (fun x M1 a b => ⟨x, rfl, Or.inl ⟨ok.1, ok.2.1, hw, by rw [toN, hnx, hln, toN, toN]; exact b⟩, a⟩) (ln - nx) 0 M1 t (by omega) hf hl (by omega) rfl
        refine e_iload2 dX9_whose_26 ?_
        refine e_istore3 dX9_whose_27 rfl ?_
        refine e_aload0 dX9_whose_28 ?_
        refine e_iload1 dX9_whose_29 ?_
        refine e_iconst dX9_whose_30 rfl kc_2 ?_
        refine e_cVI (ct_X9_ofCandle (d := d - 1) (k := 2) h6 (by decide)) cy_X9_ofCandle cv_X9_ofCandle ml_X9_327 la_134 rfl rfl rfl (rok (by omega) (by decide)) (Nat.le_of_ble_eq_true rfl) dX9_whose_31 ?_
        refine WW.ec (y := ((nx + 0 : Nat) : Int)) (by rw [b5, hnx]; rfl) ?_
        refine e_istore4 dX9_whose_34 rfl ?_
        exact h
      · refine e_if_ne (tgt := 21) dX9_whose_16 (by decide) (fun h => absurd h (by decide)) (fun _ => ?_)
        first | exact absurd hw g2 | exact absurd ⟨ok.1, ok.2.1⟩ g13
    · refine e_if_eq (tgt := 19) dX9_whose_5 (by decide) (fun _ => ?_) (fun h => absurd h (by decide))
      first | exact absurd hw g2 | exact absurd ⟨ok.1, ok.2.1⟩ g13
  · refine e_aload0 dX9_whose_0 ?_
    refine e_iload1 dX9_whose_1 ?_
    refine e_cVZ (ct_X9_hasWay (d := d - 1) (by omega) hg) cy_X9_hasWay cv_X9_hasWay ml_X9_359 la_134 rfl rfl rfl (rok (by omega) (by decide)) (Nat.le_of_ble_eq_true rfl) dX9_whose_2 (fun g2 => ?_) (fun g2 => ?_)
    · refine e_if_eq (tgt := 19) dX9_whose_5 (by decide) (fun h => absurd h (by decide)) (fun _ => ?_)
      refine e_iload2 dX9_whose_8 ?_
      refine e_iconst dX9_whose_9 rfl kc_0 ?_
      refine e_sipush dX9_whose_10 rfl ks_9999 ?_
      refine e_cSZ (ct_X9_in (d := d - 1)) cy_X9_in cs_X9_in ml_X9_120 rfl rfl (rok (by omega) (by decide)) (Nat.le_of_ble_eq_true rfl) dX9_whose_13 (fun g13 => ?_) (fun g13 => ?_)
      · refine e_if_ne (tgt := 21) dX9_whose_16 (by decide) (fun _ => ?_) (fun h => absurd h (by decide))
        exact absurd ⟨g13.1, g13.2, g2⟩ ok
      · refine e_if_ne (tgt := 21) dX9_whose_16 (by decide) (fun h => absurd h (by decide)) (fun _ => ?_)
        refine e_iconst dX9_whose_19 rfl kc_m1 ?_
        refine e_iret dX9_whose_20 ?_
        exact ⟨_, rfl, Or.inr ⟨ok, rfl⟩, FQ.rf M⟩
    · refine e_if_eq (tgt := 19) dX9_whose_5 (by decide) (fun _ => ?_) (fun h => absurd h (by decide))
      refine e_iconst dX9_whose_19 rfl kc_m1 ?_
      refine e_iret dX9_whose_20 ?_
      exact ⟨_, rfl, Or.inr ⟨ok, rfl⟩, FQ.rf M⟩
end MWAY
