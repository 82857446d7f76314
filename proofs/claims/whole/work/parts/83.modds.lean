/-! THE MODEL'S ODDS -/
theorem nat_tmod (a b : Nat) : (a : Int).tmod (b : Int) = ((a % b : Nat) : Int) := by rw [Int.tmod_eq_emod_of_nonneg (by omega)]; rfl
theorem nat_tdiv (a b : Nat) : (a : Int).tdiv (b : Int) = ((a / b : Nat) : Int) := by rw [Int.tdiv_eq_ediv_of_nonneg (by omega)]; rfl
section MODDS
variable {l : Launch} {w : Wd} {d : Nat} {M : Mem} {Q : Option MV → Mem → Prop}
theorem cm_loop {x y : Int} {g : Nat} (hQ : Q (some (vL (g : Int))) M) : ∀ (n a b : Nat) (v8 : Option MV), b ≤ n → a < 4611686018427387904 → b < 4611686018427387904 → Nat.gcd a b = g → WM l w RX9 cX9_common 10 (some .long) d Q 6 [some (vL x), none, some (vL y), none, some (vL (a : Int)), none, some (vL (b : Int)), none, v8, none] [] M
  | 0, a, b, v8, hb, h1, h2, hg => by
    obtain rfl : b = 0 := by omega
    rw [Nat.gcd_zero_right] at hg
    subst hg
    have c1 := cmpL_c ((0 : Nat) : Int) 0
    refine e_lload6 dX9_common_6 ?_
    refine e_lconst0 dX9_common_8 ?_
    refine e_lcmp dX9_common_9 ?_
    refine e_if_eq (tgt := 31) dX9_common_10 (by decide) (fun h10 => ?_) (fun h => absurd h (by omega))
    refine e_lload4 dX9_common_31 ?_
    refine e_lret dX9_common_33 ?_
    exact hQ
  | n + 1, a, b, v8, hb, h1, h2, hg => by
    have c1 := cmpL_c (b : Int) 0
    by_cases e : b = 0
    · subst e
      rw [Nat.gcd_zero_right] at hg
      subst hg
      refine e_lload6 dX9_common_6 ?_
      refine e_lconst0 dX9_common_8 ?_
      refine e_lcmp dX9_common_9 ?_
      refine e_if_eq (tgt := 31) dX9_common_10 (by decide) (fun h10 => ?_) (fun h => absurd h (by omega))
      refine e_lload4 dX9_common_31 ?_
      refine e_lret dX9_common_33 ?_
      exact hQ
    · have hm : a % b < b := Nat.mod_lt _ (by omega)
      have hgg : Nat.gcd b (a % b) = g := by rw [← hg, Nat.gcd_comm a b, Nat.gcd_rec b a, Nat.gcd_comm]
      have ih := cm_loop (x := x) (y := y) hQ n b (a % b) (some (vL ((a % b : Nat) : Int))) (by omega) h2 (by omega) hgg
      have et := nat_tmod a b
      refine e_lload6 dX9_common_6 ?_
      refine e_lconst0 dX9_common_8 ?_
      refine e_lcmp dX9_common_9 ?_
      refine e_if_eq (tgt := 31) dX9_common_10 (by decide) (fun h => absurd h (by omega)) (fun h10 => ?_)
      refine e_lload4 dX9_common_13 ?_
      refine e_lload6 dX9_common_15 ?_
      refine e_lrem dX9_common_17 (by omega) (by rw [et]; exact ⟨by omega, by omega⟩) ?_
      refine WW.el (y := ((a % b : Nat) : Int)) et ?_
      refine e_lstore8 dX9_common_18 rfl ?_
      refine e_lload6 dX9_common_20 ?_
      refine e_lstore4 dX9_common_22 rfl ?_
      refine e_lload8 dX9_common_24 ?_
      refine e_lstore6 dX9_common_26 rfl ?_
      refine e_goto (tgt := 6) dX9_common_28 (by decide) ?_
      exact ih
theorem ct_X9_common {a b : Nat} (h1 : a < 4611686018427387904) (h2 : b < 4611686018427387904) : PL l w yX9_common cX9_common 10 d [vL (a : Int), vL (b : Int)] M ((Nat.gcd a b : Nat) : Int) M := by
  have h := cm_loop (l := l) (w := w) (d := d) (M := M) (Q := fun r M' => M' = M ∧ r = some (vL ((Nat.gcd a b : Nat) : Int))) (x := a) (y := b) ⟨rfl, rfl⟩ b a b none (Nat.le_refl _) h1 h2 rfl
  refine MT.of [some (vL (a : Int)), none, some (vL (b : Int)), none, none, none, none, none, none, none] ⟨by decide, rfl⟩ rfl (Nat.le_of_ble_eq_true rfl) (fun hA hM => ?_)
  refine e_lload0 dX9_common_0 ?_
  refine e_lstore4 dX9_common_1 rfl ?_
  refine e_lload2 dX9_common_3 ?_
  refine e_lstore6 dX9_common_4 rfl ?_
  exact h
theorem ct_X9_inLowest (hd : 1 ≤ d) {u v : Nat} {b : Int} (h1 : u < 4611686018427387904) (h2 : v < 4611686018427387904) (hv : 1 ≤ v) : PL l w yX9_inLowest cX9_inLowest 7 d [vL (u : Int), vL (v : Int), vI b] M ((if b = 0 then (u : Int) else (v : Int)) / ((Nat.gcd u v : Nat) : Int)) M := by
  have hg : 1 ≤ Nat.gcd v u := Nat.gcd_pos_of_pos_left u (by omega)
  have e1 : (u : Int).tdiv ((Nat.gcd v u : Nat) : Int) = (u : Int) / ((Nat.gcd u v : Nat) : Int) := by rw [Int.tdiv_eq_ediv_of_nonneg (by omega), Nat.gcd_comm]
  have e2 : (v : Int).tdiv ((Nat.gcd v u : Nat) : Int) = (v : Int) / ((Nat.gcd u v : Nat) : Int) := by rw [Int.tdiv_eq_ediv_of_nonneg (by omega), Nat.gcd_comm]
  have b1 : 0 ≤ (u : Int).tdiv ((Nat.gcd v u : Nat) : Int) ∧ (u : Int).tdiv ((Nat.gcd v u : Nat) : Int) ≤ u := by
    rw [nat_tdiv]
    have := Nat.div_le_self u (Nat.gcd v u)
    generalize u / Nat.gcd v u = z at this ⊢
    omega
  have b2 : 0 ≤ (v : Int).tdiv ((Nat.gcd v u : Nat) : Int) ∧ (v : Int).tdiv ((Nat.gcd v u : Nat) : Int) ≤ v := by
    rw [nat_tdiv]
    have := Nat.div_le_self v (Nat.gcd v u)
    generalize v / Nat.gcd v u = z at this ⊢
    omega
  refine MT.of [some (vL (u : Int)), none, some (vL (v : Int)), none, some (vI b), none, none] ⟨by decide, rfl⟩ rfl (Nat.le_of_ble_eq_true rfl) (fun hA hM => ?_)
  refine e_lload2 dX9_inLowest_0 ?_
  refine e_lload0 dX9_inLowest_1 ?_
  refine e_cSL (ct_X9_common (d := d - 1) h2 h1) cy_X9_common cs_X9_common ml_X9_365 rfl rfl (rok (by omega) (by decide)) (Nat.le_of_ble_eq_true rfl) dX9_inLowest_2 ?_
  refine e_lstore5 dX9_inLowest_5 rfl ?_
  refine e_iload4 dX9_inLowest_7 ?_
  refine e_if_eq (tgt := 19) dX9_inLowest_9 (by decide) (fun h9 => ?_) (fun h9 => ?_)
  · refine e_lload0 dX9_inLowest_19 ?_
    refine e_lload5 dX9_inLowest_20 ?_
    refine e_ldiv dX9_inLowest_22 (by omega) (⟨by omega, by omega⟩) ?_
    refine e_lret dX9_inLowest_23 ?_
    first | exact ⟨rfl, by rw [if_neg h9, e2]⟩ | exact ⟨rfl, by rw [if_pos h9, e1]⟩
  · refine e_lload2 dX9_inLowest_12 ?_
    refine e_lload5 dX9_inLowest_13 ?_
    refine e_ldiv dX9_inLowest_15 (by omega) (⟨by omega, by omega⟩) ?_
    refine e_goto (tgt := 23) dX9_inLowest_16 (by decide) ?_
    refine e_lret dX9_inLowest_23 ?_
    first | exact ⟨rfl, by rw [if_neg h9, e2]⟩ | exact ⟨rfl, by rw [if_pos h9, e1]⟩
theorem od_loop {G : Mem} {c nx : Nat} {i b : Int} (hd : 2 ≤ d) (hi : i < 12) (hl : LY G c nx ((i - nx).toNat + 1) M) (hni : (nx : Int) ≤ i) (hQ : ∀ x, x = (if b = 0 then oU (wO G c nx) ((i - nx).toNat + 1) else oL (wO G c nx) ((i - nx).toNat + 1)) / ((Nat.gcd (oU (wO G c nx) ((i - nx).toNat + 1)).toNat (oL (wO G c nx) ((i - nx).toNat + 1)).toNat : Nat) : Int) → Q (some (vL x)) M) :
    ∀ (q n : Nat), n + q = (i - nx).toNat + 1 → WM l w RX9 cX9_odds 9 (some .long) d Q 53 [some (vR 134), some (vI (c : Int)), some (vI i), some (vI b), some (vL (oU (wO G c nx) n)), none, some (vL (oL (wO G c nx) n)), none, some (vI ((nx + n : Nat) : Int))] [] M
  | 0, n, hn => by
    have hb := oUL (wO_ok G c nx) n
    have hp := pow12 (n := n) (by omega)
    obtain ⟨u, eu⟩ : ∃ u : Nat, oU (wO G c nx) n = u := ⟨(oU (wO G c nx) n).toNat, by omega⟩
    obtain ⟨v, ev⟩ : ∃ v : Nat, oL (wO G c nx) n = v := ⟨(oL (wO G c nx) n).toNat, by omega⟩
    have hcall := ct_X9_inLowest (l := l) (w := w) (d := d - 1) (M := M) (u := u) (v := v) (b := b) (by omega) (by omega) (by omega) (by omega)
    have hq := hQ _ rfl
    rw [← hn, Nat.add_zero, eu, ev, toN, toN] at hq
    rw [eu, ev]
    refine e_iload8 dX9_odds_53 ?_
    refine e_iload2 dX9_odds_55 ?_
    refine e_icmp_gt (tgt := 100) dX9_odds_56 (by decide) (fun h56 => ?_) (fun h56 => ?_)
    · refine e_lload4 dX9_odds_100 ?_
      refine e_lload6 dX9_odds_102 ?_
      refine e_iload3 dX9_odds_104 ?_
      refine e_cSL (hcall) cy_X9_inLowest cs_X9_inLowest ml_X9_373 rfl rfl (rok (by omega) (by decide)) (Nat.le_of_ble_eq_true rfl) dX9_odds_105 ?_
      refine e_lret dX9_odds_108 ?_
      exact hq
    · omega
  | q + 1, n, hn => by
    have hb := oUL (wO_ok G c nx) n
    have hp := pow12 (n := n) (by omega)
    have ih := od_loop hd hi hl hni hQ q (n + 1) (by omega)
    have e1 := (hl n (by omega)).2
    have ok := wO_ok G c nx n
    have es : oU (wO G c nx) (n + 1) = if wO G c nx n = -1 then oU (wO G c nx) n else oU (wO G c nx) n * (10 - wO G c nx n) := rfl
    have es2 : oL (wO G c nx) (n + 1) = if wO G c nx n = -1 then oL (wO G c nx) n else oL (wO G c nx) n * 10 := rfl
    rw [es, es2] at ih
    by_cases z : wO G c nx n = -1
    · rw [if_pos z, if_pos z] at ih
      refine e_iload8 dX9_odds_53 ?_
      refine e_iload2 dX9_odds_55 ?_
      refine e_icmp_gt (tgt := 100) dX9_odds_56 (by decide) (fun h56 => ?_) (fun h56 => ?_)
      · omega
      · refine e_aload0 dX9_odds_59 ?_
        refine e_getR fl_X9_91 la_134 rfl dX9_odds_60 ?_
        refine e_iload8 dX9_odds_63 ?_
        refine e_ialdK (k := nx + n) la_159 (by omega) (by omega) dX9_odds_65 ?_
        refine WW.ec (y := -1) (by rw [e1, z]) ?_
        refine e_iconst dX9_odds_66 rfl kc_m1 ?_
        refine e_icmp_eq (tgt := 94) dX9_odds_67 (by decide) (fun h67 => ?_) (fun h => absurd h (fun y => y rfl))
        refine e_iinc8 dX9_odds_94 rfl (⟨by omega, by omega⟩) rfl ?_
        refine e_goto (tgt := 53) dX9_odds_97 (by decide) ?_
        exact ih
    · rw [if_neg z, if_neg z] at ih
      have h1 := mulNN hb.1 (show 0 ≤ 10 - wO G c nx n by omega)
      have h2 := mulLE hb.1 (Int.le_trans hb.2.1 hb.2.2.2) (show 0 ≤ 10 - wO G c nx n by omega) (by omega)
      refine e_iload8 dX9_odds_53 ?_
      refine e_iload2 dX9_odds_55 ?_
      refine e_icmp_gt (tgt := 100) dX9_odds_56 (by decide) (fun h56 => ?_) (fun h56 => ?_)
      · omega
      · refine e_aload0 dX9_odds_59 ?_
        refine e_getR fl_X9_91 la_134 rfl dX9_odds_60 ?_
        refine e_iload8 dX9_odds_63 ?_
        refine e_ialdK (k := nx + n) la_159 (by omega) (by omega) dX9_odds_65 ?_
        refine WW.ec (y := wO G c nx n) (e1) ?_
        refine e_iconst dX9_odds_66 rfl kc_m1 ?_
        refine e_icmp_eq (tgt := 94) dX9_odds_67 (by decide) (fun h => absurd h (by omega)) (fun h67 => ?_)
        refine e_lload4 dX9_odds_70 ?_
        refine e_bipush dX9_odds_72 rfl kb_10 ?_
        refine e_aload0 dX9_odds_74 ?_
        refine e_getR fl_X9_91 la_134 rfl dX9_odds_75 ?_
        refine e_iload8 dX9_odds_78 ?_
        refine e_ialdK (k := nx + n) la_159 (by omega) (by omega) dX9_odds_80 ?_
        refine WW.ec (y := wO G c nx n) (e1) ?_
        refine e_isub dX9_odds_81 (⟨by omega, by omega⟩) ?_
        refine e_i2l dX9_odds_82 ?_
        refine e_lmul dX9_odds_83 (⟨by omega, by omega⟩) ?_
        refine e_lstore4 dX9_odds_84 rfl ?_
        refine e_lload6 dX9_odds_86 ?_
        refine e_ldc2 dX9_odds_88 kl_X9_371 ⟨by decide, by decide⟩ ?_
        refine e_lmul dX9_odds_91 (⟨by omega, by omega⟩) ?_
        refine e_lstore6 dX9_odds_92 rfl ?_
        refine e_iinc8 dX9_odds_94 rfl (⟨by omega, by omega⟩) rfl ?_
        refine e_goto (tgt := 53) dX9_odds_97 (by decide) ?_
        exact ih
theorem ct_X9_odds {G : Mem} (hd : 6 ≤ d) (hg : GS G M) {c i b : Int} : GL l w yX9_odds cX9_odds 9 d [vR 134, vI c, vI i, vI b] M (fun x M1 => oddsR G c i b x ∧ FQ M M1) := by
  refine MT.of [some (vR 134), some (vI c), some (vI i), some (vI b), none, none, none, none, none] ⟨by decide, rfl⟩ rfl (Nat.le_of_ble_eq_true rfl) (fun hA hM => ?_)
  by_cases hw : hasW G c
  · obtain ⟨c', rfl⟩ : ∃ n : Nat, c = n := ⟨c.toNat, by have := hw.1.1; omega⟩
    obtain ⟨⟨a1, a2⟩, ⟨a3, a4, a5⟩, a6, h6, h7, h10, _⟩ := hg.cn hw.1.2
    obtain ⟨nx, hnx⟩ : ∃ n : Nat, G 10 c' = n := ⟨(G 10 c').toNat, by omega⟩
    obtain ⟨ln, hln⟩ : ∃ n : Nat, G 7 c' = n := ⟨(G 7 c').toNat, by omega⟩
    by_cases hi : G 10 c' ≤ i ∧ i < G 7 c'
    · refine e_aload0 dX9_odds_0 ?_
      refine e_iload1 dX9_odds_1 ?_
      refine e_cVZ (ct_X9_hasWay (d := d - 1) (by omega) hg) cy_X9_hasWay cv_X9_hasWay ml_X9_359 la_134 rfl rfl rfl (rok (by omega) (by decide)) (Nat.le_of_ble_eq_true rfl) dX9_odds_2 (fun g2 => ?_) (fun g2 => ?_)
      · refine e_if_eq (tgt := 28) dX9_odds_5 (by decide) (fun h => absurd h (by decide)) (fun _ => ?_)
        refine e_iload2 dX9_odds_8 ?_
        refine e_aload0 dX9_odds_9 ?_
        refine e_iload1 dX9_odds_10 ?_
        refine e_iconst dX9_odds_11 rfl kc_2 ?_
        refine e_cVI (ct_X9_ofCandle (d := d - 1) (k := 2) h6 (by decide)) cy_X9_ofCandle cv_X9_ofCandle ml_X9_327 la_134 rfl rfl rfl (rok (by omega) (by decide)) (Nat.le_of_ble_eq_true rfl) dX9_odds_12 ?_
        refine WW.ec (y := G 10 c') (a5) ?_
        refine e_aload0 dX9_odds_15 ?_
        refine e_iload1 dX9_odds_16 ?_
        refine e_cVI (ct_X9_inchesOf (d := d - 1) h6) cy_X9_inchesOf cv_X9_inchesOf ml_X9_310 la_134 rfl rfl rfl (rok (by omega) (by decide)) (Nat.le_of_ble_eq_true rfl) dX9_odds_17 ?_
        refine WW.ec (y := G 7 c') (a2) ?_
        refine e_iconst dX9_odds_20 rfl kc_1 ?_
        refine e_isub dX9_odds_21 (⟨by omega, by omega⟩) ?_
        refine e_cSZ (ct_X9_in (d := d - 1)) cy_X9_in cs_X9_in ml_X9_120 rfl rfl (rok (by omega) (by decide)) (Nat.le_of_ble_eq_true rfl) dX9_odds_22 (fun g22 => ?_) (fun g22 => ?_)
        · refine e_if_ne (tgt := 32) dX9_odds_25 (by decide) (fun _ => ?_) (fun h => absurd h (by decide))
          refine e_aload0 dX9_odds_32 ?_
          refine e_iload1 dX9_odds_33 ?_
          refine e_cVGV (ct_X9_laysWay (d := d - 1) (by omega) hg hw hnx hln) cy_X9_laysWay cv_X9_laysWay ml_X9_362 la_134 rfl rfl rfl (rok (by omega) (by decide)) (Nat.le_of_ble_eq_true rfl) dX9_odds_34 (fun M1 hx => ?_)
          obtain ⟨hf, hl⟩ := hx
          obtain ⟨_, ⟨_, _, b5⟩, _⟩ := (hg.fq hf).cn hw.1.2
          have h := od_loop (l := l) (w := w) (d := d) (M := M1) (Q := fun r M1 => ∃ x, r = some (vL x) ∧ oddsR G c' i b x ∧ FQ M M1) (G := G) (c := c') (nx := nx) (i := i) (b := b) (by omega) (by omega) (fun m hm => hl m (by omega)) (by omega) (fun x hx => ⟨x, rfl, Or.inl ⟨hw, by rw [toN]; exact hi.1, by rw [toN]; exact hi.2, by rw [toN, hnx, toN]; exact hx⟩, hf⟩) (i - nx).toNat 1 (by omega)
          rw [show oU (wO G c' nx) 1 = 1 from rfl, show oL (wO G c' nx) 1 = 1 from rfl] at h
          refine e_lconst1 dX9_odds_37 ?_
          refine e_lstore4 dX9_odds_38 rfl ?_
          refine e_lconst1 dX9_odds_40 ?_
          refine e_lstore6 dX9_odds_41 rfl ?_
          refine e_aload0 dX9_odds_43 ?_
          refine e_iload1 dX9_odds_44 ?_
          refine e_iconst dX9_odds_45 rfl kc_2 ?_
          refine e_cVI (ct_X9_ofCandle (d := d - 1) (k := 2) h6 (by decide)) cy_X9_ofCandle cv_X9_ofCandle ml_X9_327 la_134 rfl rfl rfl (rok (by omega) (by decide)) (Nat.le_of_ble_eq_true rfl) dX9_odds_46 ?_
          refine WW.ec (y := (nx : Int)) (by rw [b5, hnx]) ?_
          refine e_iconst dX9_odds_49 rfl kc_1 ?_
          refine e_iadd dX9_odds_50 (⟨by omega, by omega⟩) ?_
          refine e_istore8 dX9_odds_51 rfl ?_
          exact h
        · refine e_if_ne (tgt := 32) dX9_odds_25 (by decide) (fun h => absurd h (by decide)) (fun _ => ?_)
          first | exact absurd hw g2 | (exfalso; omega)
      · refine e_if_eq (tgt := 28) dX9_odds_5 (by decide) (fun _ => ?_) (fun h => absurd h (by decide))
        first | exact absurd hw g2 | (exfalso; omega)
    · refine e_aload0 dX9_odds_0 ?_
      refine e_iload1 dX9_odds_1 ?_
      refine e_cVZ (ct_X9_hasWay (d := d - 1) (by omega) hg) cy_X9_hasWay cv_X9_hasWay ml_X9_359 la_134 rfl rfl rfl (rok (by omega) (by decide)) (Nat.le_of_ble_eq_true rfl) dX9_odds_2 (fun g2 => ?_) (fun g2 => ?_)
      · refine e_if_eq (tgt := 28) dX9_odds_5 (by decide) (fun h => absurd h (by decide)) (fun _ => ?_)
        refine e_iload2 dX9_odds_8 ?_
        refine e_aload0 dX9_odds_9 ?_
        refine e_iload1 dX9_odds_10 ?_
        refine e_iconst dX9_odds_11 rfl kc_2 ?_
        refine e_cVI (ct_X9_ofCandle (d := d - 1) (k := 2) h6 (by decide)) cy_X9_ofCandle cv_X9_ofCandle ml_X9_327 la_134 rfl rfl rfl (rok (by omega) (by decide)) (Nat.le_of_ble_eq_true rfl) dX9_odds_12 ?_
        refine WW.ec (y := G 10 c') (a5) ?_
        refine e_aload0 dX9_odds_15 ?_
        refine e_iload1 dX9_odds_16 ?_
        refine e_cVI (ct_X9_inchesOf (d := d - 1) h6) cy_X9_inchesOf cv_X9_inchesOf ml_X9_310 la_134 rfl rfl rfl (rok (by omega) (by decide)) (Nat.le_of_ble_eq_true rfl) dX9_odds_17 ?_
        refine WW.ec (y := G 7 c') (a2) ?_
        refine e_iconst dX9_odds_20 rfl kc_1 ?_
        refine e_isub dX9_odds_21 (⟨by omega, by omega⟩) ?_
        refine e_cSZ (ct_X9_in (d := d - 1)) cy_X9_in cs_X9_in ml_X9_120 rfl rfl (rok (by omega) (by decide)) (Nat.le_of_ble_eq_true rfl) dX9_odds_22 (fun g22 => ?_) (fun g22 => ?_)
        · refine e_if_ne (tgt := 32) dX9_odds_25 (by decide) (fun _ => ?_) (fun h => absurd h (by decide))
          exact absurd ⟨g22.1, by omega⟩ hi
        · refine e_if_ne (tgt := 32) dX9_odds_25 (by decide) (fun h => absurd h (by decide)) (fun _ => ?_)
          refine e_ldc2 dX9_odds_28 kl_X9_369 ⟨by decide, by decide⟩ ?_
          refine e_lret dX9_odds_31 ?_
          exact ⟨_, rfl, Or.inr ⟨fun z => hi (by have a := z.2.1; have b := z.2.2; rw [toN] at a b; exact ⟨a, b⟩), rfl⟩, FQ.rf M⟩
      · refine e_if_eq (tgt := 28) dX9_odds_5 (by decide) (fun _ => ?_) (fun h => absurd h (by decide))
        refine e_ldc2 dX9_odds_28 kl_X9_369 ⟨by decide, by decide⟩ ?_
        refine e_lret dX9_odds_31 ?_
        exact ⟨_, rfl, Or.inr ⟨fun z => hi (by have a := z.2.1; have b := z.2.2; rw [toN] at a b; exact ⟨a, b⟩), rfl⟩, FQ.rf M⟩
  · refine e_aload0 dX9_odds_0 ?_
    refine e_iload1 dX9_odds_1 ?_
    refine e_cVZ (ct_X9_hasWay (d := d - 1) (by omega) hg) cy_X9_hasWay cv_X9_hasWay ml_X9_359 la_134 rfl rfl rfl (rok (by omega) (by decide)) (Nat.le_of_ble_eq_true rfl) dX9_odds_2 (fun g2 => ?_) (fun g2 => ?_)
    · refine e_if_eq (tgt := 28) dX9_odds_5 (by decide) (fun h => absurd h (by decide)) (fun _ => ?_)
      exact absurd g2 hw
    · refine e_if_eq (tgt := 28) dX9_odds_5 (by decide) (fun _ => ?_) (fun h => absurd h (by decide))
      refine e_ldc2 dX9_odds_28 kl_X9_369 ⟨by decide, by decide⟩ ?_
      refine e_lret dX9_odds_31 ?_
      exact ⟨_, rfl, Or.inr ⟨fun z => hw z.1, rfl⟩, FQ.rf M⟩
theorem bl_loop {G : Mem} {c nx ln : Nat} {h b : Int} (hd : 2 ≤ d) (hln : G 7 c = ln) (hl12 : ln ≤ 12) (hc6 : c < 6) (ha2 : M 135 (21 + 2 * c) = G 7 c) (hl : LY G c nx (ln - nx) M) (hni : nx ≤ ln)
    (hQ0 : bL (wO G c nx) (ln - nx) = 0 → Q (some (vL (-1))) M) (hQ : bL (wO G c nx) (ln - nx) ≠ 0 → ∀ x, x = (if b = 0 then bU (wO G c nx) (wH G c nx) h (ln - nx) else bL (wO G c nx) (ln - nx)) / ((Nat.gcd (bU (wO G c nx) (wH G c nx) h (ln - nx)).toNat (bL (wO G c nx) (ln - nx)).toNat : Nat) : Int) → Q (some (vL x)) M) :
    ∀ (q n : Nat), n + q = ln - nx → WM l w RX9 cX9_blame 11 (some .long) d Q 44 [some (vR 134), some (vI (c : Int)), some (vI h), some (vI b), some (vL (oU (wO G c nx) n)), none, some (vL (bU (wO G c nx) (wH G c nx) h n)), none, some (vL (bL (wO G c nx) n)), none, some (vI ((nx + n : Nat) : Int))] [] M
  | 0, n, hn => by
    obtain rfl : n = ln - nx := by omega
    have hb := oUL (wO_ok G c nx) (ln - nx)
    have hp := pow12 (n := ln - nx) (by omega)
    have hL := bLb (wO_ok G c nx) (ln - nx)
    have hU := bUb (H := wH G c nx) (a := h) (wO_ok G c nx) (ln - nx)
    have c1 := cmpL_c (bL (wO G c nx) (ln - nx)) 0
    by_cases z : bL (wO G c nx) (ln - nx) = 0
    · have hq := hQ0 z
      refine e_iload10 dX9_blame_44 ?_
      refine e_aload0 dX9_blame_46 ?_
      refine e_iload1 dX9_blame_47 ?_
      refine e_cVI (ct_X9_inchesOf (d := d - 1) hc6) cy_X9_inchesOf cv_X9_inchesOf ml_X9_310 la_134 rfl rfl rfl (rok (by omega) (by decide)) (Nat.le_of_ble_eq_true rfl) dX9_blame_48 ?_
      refine WW.ec (y := (ln : Int)) (by rw [ha2, hln]) ?_
      refine e_icmp_ge (tgt := 142) dX9_blame_51 (by decide) (fun h51 => ?_) (fun h51 => ?_)
      · refine e_lload8 dX9_blame_142 ?_
        refine e_lconst0 dX9_blame_144 ?_
        refine e_lcmp dX9_blame_145 ?_
        refine e_if_ne (tgt := 155) dX9_blame_146 (by decide) (fun h => absurd h (by omega)) (fun h146 => ?_)
        refine e_ldc2 dX9_blame_149 kl_X9_369 ⟨by decide, by decide⟩ ?_
        refine e_goto (tgt := 163) dX9_blame_152 (by decide) ?_
        refine e_lret dX9_blame_163 ?_
        exact hq
      · omega
    · have hq := hQ z _ rfl
      obtain ⟨u, eu⟩ : ∃ u : Nat, bU (wO G c nx) (wH G c nx) h (ln - nx) = u := ⟨(bU (wO G c nx) (wH G c nx) h (ln - nx)).toNat, by omega⟩
      obtain ⟨v, ev⟩ : ∃ v : Nat, bL (wO G c nx) (ln - nx) = v := ⟨(bL (wO G c nx) (ln - nx)).toNat, by omega⟩
      have hcall := ct_X9_inLowest (l := l) (w := w) (d := d - 1) (M := M) (u := u) (v := v) (b := b) (by omega) (by omega) (by omega) (by omega)
      rw [eu, ev, toN, toN] at hq
      rw [ev] at c1 z
      rw [eu, ev]
      refine e_iload10 dX9_blame_44 ?_
      refine e_aload0 dX9_blame_46 ?_
      refine e_iload1 dX9_blame_47 ?_
      refine e_cVI (ct_X9_inchesOf (d := d - 1) hc6) cy_X9_inchesOf cv_X9_inchesOf ml_X9_310 la_134 rfl rfl rfl (rok (by omega) (by decide)) (Nat.le_of_ble_eq_true rfl) dX9_blame_48 ?_
      refine WW.ec (y := (ln : Int)) (by rw [ha2, hln]) ?_
      refine e_icmp_ge (tgt := 142) dX9_blame_51 (by decide) (fun h51 => ?_) (fun h51 => ?_)
      · refine e_lload8 dX9_blame_142 ?_
        refine e_lconst0 dX9_blame_144 ?_
        refine e_lcmp dX9_blame_145 ?_
        refine e_if_ne (tgt := 155) dX9_blame_146 (by decide) (fun h146 => ?_) (fun h => absurd h (by omega))
        refine e_lload6 dX9_blame_155 ?_
        refine e_lload8 dX9_blame_157 ?_
        refine e_iload3 dX9_blame_159 ?_
        refine e_cSL (hcall) cy_X9_inLowest cs_X9_inLowest ml_X9_373 rfl rfl (rok (by omega) (by decide)) (Nat.le_of_ble_eq_true rfl) dX9_blame_160 ?_
        refine e_lret dX9_blame_163 ?_
        exact hq
      · omega
  | q + 1, n, hn => by
    have hb := oUL (wO_ok G c nx) n
    have hp := pow12 (n := n) (by omega)
    have hL := bLb (wO_ok G c nx) n
    have hU := bUb (H := wH G c nx) (a := h) (wO_ok G c nx) n
    have ih := bl_loop hd hln hl12 hc6 ha2 hl hni hQ0 hQ q (n + 1) (by omega)
    have e1 := (hl n (by omega)).2
    have e2 := (hl n (by omega)).1
    have ok := wO_ok G c nx n
    have es : oU (wO G c nx) (n + 1) = if wO G c nx n = -1 then oU (wO G c nx) n else oU (wO G c nx) n * (10 - wO G c nx n) := rfl
    have es2 : bL (wO G c nx) (n + 1) = if wO G c nx n = -1 then bL (wO G c nx) n else bL (wO G c nx) n * 10 + oU (wO G c nx) n * wO G c nx n := rfl
    have es3 : bU (wO G c nx) (wH G c nx) h (n + 1) = if wO G c nx n = -1 then bU (wO G c nx) (wH G c nx) h n else bU (wO G c nx) (wH G c nx) h n * 10 + (if wH G c nx n = h then oU (wO G c nx) n * wO G c nx n else 0) := rfl
    rw [es, es2, es3] at ih
    by_cases z : wO G c nx n = -1
    · rw [if_pos z, if_pos z, if_pos z] at ih
      refine e_iload10 dX9_blame_44 ?_
      refine e_aload0 dX9_blame_46 ?_
      refine e_iload1 dX9_blame_47 ?_
      refine e_cVI (ct_X9_inchesOf (d := d - 1) hc6) cy_X9_inchesOf cv_X9_inchesOf ml_X9_310 la_134 rfl rfl rfl (rok (by omega) (by decide)) (Nat.le_of_ble_eq_true rfl) dX9_blame_48 ?_
      refine WW.ec (y := (ln : Int)) (by rw [ha2, hln]) ?_
      refine e_icmp_ge (tgt := 142) dX9_blame_51 (by decide) (fun h51 => ?_) (fun h51 => ?_)
      · omega
      · refine e_aload0 dX9_blame_54 ?_
        refine e_getR fl_X9_91 la_134 rfl dX9_blame_55 ?_
        refine e_iload10 dX9_blame_58 ?_
        refine e_ialdK (k := nx + n) la_159 (by omega) (by omega) dX9_blame_60 ?_
        refine WW.ec (y := -1) (by rw [e1, z]) ?_
        refine e_iconst dX9_blame_61 rfl kc_m1 ?_
        refine e_icmp_eq (tgt := 136) dX9_blame_62 (by decide) (fun h62 => ?_) (fun h => absurd h (fun y => y rfl))
        refine e_iinc10 dX9_blame_136 rfl (⟨by omega, by omega⟩) rfl ?_
        refine e_goto (tgt := 44) dX9_blame_139 (by decide) ?_
        exact ih
    · rw [if_neg z, if_neg z, if_neg z] at ih
      have okz : 0 ≤ wO G c nx n ∧ wO G c nx n ≤ 10 := by omega
      have h1 := mulNN hb.1 (show 0 ≤ 10 - wO G c nx n by omega)
      have h2 := mulLE hb.1 (Int.le_trans hb.2.1 hb.2.2.2) (show 0 ≤ 10 - wO G c nx n by omega) (by omega)
      have h3 := mulNN hb.1 okz.1
      have h4 := mulLE hb.1 (Int.le_trans hb.2.1 hb.2.2.2) okz.1 okz.2
      rw [Int.mul_comm (bU (wO G c nx) (wH G c nx) h n) 10, Int.mul_comm (bL (wO G c nx) n) 10] at ih
      by_cases hh : wH G c nx n = h
      · rw [if_pos hh] at ih
        refine e_iload10 dX9_blame_44 ?_
        refine e_aload0 dX9_blame_46 ?_
        refine e_iload1 dX9_blame_47 ?_
        refine e_cVI (ct_X9_inchesOf (d := d - 1) hc6) cy_X9_inchesOf cv_X9_inchesOf ml_X9_310 la_134 rfl rfl rfl (rok (by omega) (by decide)) (Nat.le_of_ble_eq_true rfl) dX9_blame_48 ?_
        refine WW.ec (y := (ln : Int)) (by rw [ha2, hln]) ?_
        refine e_icmp_ge (tgt := 142) dX9_blame_51 (by decide) (fun h51 => ?_) (fun h51 => ?_)
        · omega
        · refine e_aload0 dX9_blame_54 ?_
          refine e_getR fl_X9_91 la_134 rfl dX9_blame_55 ?_
          refine e_iload10 dX9_blame_58 ?_
          refine e_ialdK (k := nx + n) la_159 (by omega) (by omega) dX9_blame_60 ?_
          refine WW.ec (y := wO G c nx n) (e1) ?_
          refine e_iconst dX9_blame_61 rfl kc_m1 ?_
          refine e_icmp_eq (tgt := 136) dX9_blame_62 (by decide) (fun h => absurd h (by omega)) (fun h62 => ?_)
          refine e_ldc2 dX9_blame_65 kl_X9_371 ⟨by decide, by decide⟩ ?_
          refine e_lload6 dX9_blame_68 ?_
          refine e_lmul dX9_blame_70 (⟨by omega, by omega⟩) ?_
          refine e_aload0 dX9_blame_71 ?_
          refine e_getR fl_X9_88 la_134 rfl dX9_blame_72 ?_
          refine e_iload10 dX9_blame_75 ?_
          refine e_ialdK (k := nx + n) la_158 (by omega) (by omega) dX9_blame_77 ?_
          refine WW.ec (y := wH G c nx n) (e2) ?_
          refine e_iload2 dX9_blame_78 ?_
          refine e_icmp_ne (tgt := 96) dX9_blame_79 (by decide) (fun h => absurd h (fun y => y hh)) (fun h79 => ?_)
          refine e_lload4 dX9_blame_82 ?_
          refine e_aload0 dX9_blame_84 ?_
          refine e_getR fl_X9_91 la_134 rfl dX9_blame_85 ?_
          refine e_iload10 dX9_blame_88 ?_
          refine e_ialdK (k := nx + n) la_159 (by omega) (by omega) dX9_blame_90 ?_
          refine WW.ec (y := wO G c nx n) (e1) ?_
          refine e_i2l dX9_blame_91 ?_
          refine e_lmul dX9_blame_92 (⟨by omega, by omega⟩) ?_
          refine e_goto (tgt := 97) dX9_blame_93 (by decide) ?_
          refine e_ladd dX9_blame_97 (⟨by omega, by omega⟩) ?_
          refine e_lstore6 dX9_blame_98 rfl ?_
          refine e_ldc2 dX9_blame_100 kl_X9_371 ⟨by decide, by decide⟩ ?_
          refine e_lload8 dX9_blame_103 ?_
          refine e_lmul dX9_blame_105 (⟨by omega, by omega⟩) ?_
          refine e_lload4 dX9_blame_106 ?_
          refine e_aload0 dX9_blame_108 ?_
          refine e_getR fl_X9_91 la_134 rfl dX9_blame_109 ?_
          refine e_iload10 dX9_blame_112 ?_
          refine e_ialdK (k := nx + n) la_159 (by omega) (by omega) dX9_blame_114 ?_
          refine WW.ec (y := wO G c nx n) (e1) ?_
          refine e_i2l dX9_blame_115 ?_
          refine e_lmul dX9_blame_116 (⟨by omega, by omega⟩) ?_
          refine e_ladd dX9_blame_117 (⟨by omega, by omega⟩) ?_
          refine e_lstore8 dX9_blame_118 rfl ?_
          refine e_lload4 dX9_blame_120 ?_
          refine e_bipush dX9_blame_122 rfl kb_10 ?_
          refine e_aload0 dX9_blame_124 ?_
          refine e_getR fl_X9_91 la_134 rfl dX9_blame_125 ?_
          refine e_iload10 dX9_blame_128 ?_
          refine e_ialdK (k := nx + n) la_159 (by omega) (by omega) dX9_blame_130 ?_
          refine WW.ec (y := wO G c nx n) (e1) ?_
          refine e_isub dX9_blame_131 (⟨by omega, by omega⟩) ?_
          refine e_i2l dX9_blame_132 ?_
          refine e_lmul dX9_blame_133 (⟨by omega, by omega⟩) ?_
          refine e_lstore4 dX9_blame_134 rfl ?_
          refine e_iinc10 dX9_blame_136 rfl (⟨by omega, by omega⟩) rfl ?_
          refine e_goto (tgt := 44) dX9_blame_139 (by decide) ?_
          exact ih
      · rw [if_neg hh] at ih
        refine e_iload10 dX9_blame_44 ?_
        refine e_aload0 dX9_blame_46 ?_
        refine e_iload1 dX9_blame_47 ?_
        refine e_cVI (ct_X9_inchesOf (d := d - 1) hc6) cy_X9_inchesOf cv_X9_inchesOf ml_X9_310 la_134 rfl rfl rfl (rok (by omega) (by decide)) (Nat.le_of_ble_eq_true rfl) dX9_blame_48 ?_
        refine WW.ec (y := (ln : Int)) (by rw [ha2, hln]) ?_
        refine e_icmp_ge (tgt := 142) dX9_blame_51 (by decide) (fun h51 => ?_) (fun h51 => ?_)
        · omega
        · refine e_aload0 dX9_blame_54 ?_
          refine e_getR fl_X9_91 la_134 rfl dX9_blame_55 ?_
          refine e_iload10 dX9_blame_58 ?_
          refine e_ialdK (k := nx + n) la_159 (by omega) (by omega) dX9_blame_60 ?_
          refine WW.ec (y := wO G c nx n) (e1) ?_
          refine e_iconst dX9_blame_61 rfl kc_m1 ?_
          refine e_icmp_eq (tgt := 136) dX9_blame_62 (by decide) (fun h => absurd h (by omega)) (fun h62 => ?_)
          refine e_ldc2 dX9_blame_65 kl_X9_371 ⟨by decide, by decide⟩ ?_
          refine e_lload6 dX9_blame_68 ?_
          refine e_lmul dX9_blame_70 (⟨by omega, by omega⟩) ?_
          refine e_aload0 dX9_blame_71 ?_
          refine e_getR fl_X9_88 la_134 rfl dX9_blame_72 ?_
          refine e_iload10 dX9_blame_75 ?_
          refine e_ialdK (k := nx + n) la_158 (by omega) (by omega) dX9_blame_77 ?_
          refine WW.ec (y := wH G c nx n) (e2) ?_
          refine e_iload2 dX9_blame_78 ?_
          refine e_icmp_ne (tgt := 96) dX9_blame_79 (by decide) (fun h79 => ?_) (fun h => absurd h (by omega))
          refine e_lconst0 dX9_blame_96 ?_
          refine e_ladd dX9_blame_97 (⟨by omega, by omega⟩) ?_
          refine e_lstore6 dX9_blame_98 rfl ?_
          refine e_ldc2 dX9_blame_100 kl_X9_371 ⟨by decide, by decide⟩ ?_
          refine e_lload8 dX9_blame_103 ?_
          refine e_lmul dX9_blame_105 (⟨by omega, by omega⟩) ?_
          refine e_lload4 dX9_blame_106 ?_
          refine e_aload0 dX9_blame_108 ?_
          refine e_getR fl_X9_91 la_134 rfl dX9_blame_109 ?_
          refine e_iload10 dX9_blame_112 ?_
          refine e_ialdK (k := nx + n) la_159 (by omega) (by omega) dX9_blame_114 ?_
          refine WW.ec (y := wO G c nx n) (e1) ?_
          refine e_i2l dX9_blame_115 ?_
          refine e_lmul dX9_blame_116 (⟨by omega, by omega⟩) ?_
          refine e_ladd dX9_blame_117 (⟨by omega, by omega⟩) ?_
          refine e_lstore8 dX9_blame_118 rfl ?_
          refine e_lload4 dX9_blame_120 ?_
          refine e_bipush dX9_blame_122 rfl kb_10 ?_
          refine e_aload0 dX9_blame_124 ?_
          refine e_getR fl_X9_91 la_134 rfl dX9_blame_125 ?_
          refine e_iload10 dX9_blame_128 ?_
          refine e_ialdK (k := nx + n) la_159 (by omega) (by omega) dX9_blame_130 ?_
          refine WW.ec (y := wO G c nx n) (e1) ?_
          refine e_isub dX9_blame_131 (⟨by omega, by omega⟩) ?_
          refine e_i2l dX9_blame_132 ?_
          refine e_lmul dX9_blame_133 (⟨by omega, by omega⟩) ?_
          refine e_lstore4 dX9_blame_134 rfl ?_
          refine e_iinc10 dX9_blame_136 rfl (⟨by omega, by omega⟩) rfl ?_
          refine e_goto (tgt := 44) dX9_blame_139 (by decide) ?_
          exact ih
theorem ct_X9_blame {G : Mem} (hd : 6 ≤ d) (hg : GS G M) {c h b : Int} : GL l w yX9_blame cX9_blame 11 d [vR 134, vI c, vI h, vI b] M (fun x M1 => blameR G c h b x ∧ FQ M M1) := by
  have nn := hg.nn
  refine MT.of [some (vR 134), some (vI c), some (vI h), some (vI b), none, none, none, none, none, none, none] ⟨by decide, rfl⟩ rfl (Nat.le_of_ble_eq_true rfl) (fun hA hM => ?_)
  by_cases hw : hasW G c ∧ isH G h
  · obtain ⟨c', rfl⟩ : ∃ n : Nat, c = n := ⟨c.toNat, by have := hw.1.1.1; omega⟩
    obtain ⟨⟨a1, a2⟩, ⟨a3, a4, a5⟩, a6, h6, h7, h10, _⟩ := hg.cn hw.1.1.2
    obtain ⟨nx, hnx⟩ : ∃ n : Nat, G 10 c' = n := ⟨(G 10 c').toNat, by omega⟩
    obtain ⟨ln, hln⟩ : ∃ n : Nat, G 7 c' = n := ⟨(G 7 c').toNat, by omega⟩
    have hlt : nx < ln := by
      have hst := hg.gm.2.2.2.2.2 c' hw.1.1
      have h3 := hw.1.2.1
      rw [toN] at hst h3
      have q1 := hst.1
      by_cases z : G 8 c' = 0
      · have := hst.2.1 z; omega
      · have := (hst.2.2 (by omega)).2; omega
    refine e_aload0 dX9_blame_0 ?_
    refine e_iload1 dX9_blame_1 ?_
    refine e_cVZ (ct_X9_hasWay (d := d - 1) (by omega) hg) cy_X9_hasWay cv_X9_hasWay ml_X9_359 la_134 rfl rfl rfl (rok (by omega) (by decide)) (Nat.le_of_ble_eq_true rfl) dX9_blame_2 (fun g2 => ?_) (fun g2 => ?_)
    · refine e_if_eq (tgt := 16) dX9_blame_5 (by decide) (fun h => absurd h (by decide)) (fun _ => ?_)
      refine e_aload0 dX9_blame_8 ?_
      refine e_iload2 dX9_blame_9 ?_
      refine e_cVZ (ct_X9_isHouse (d := d - 1) (by omega) nn.1) cy_X9_isHouse cv_X9_isHouse ml_X9_317 la_134 rfl rfl rfl (rok (by omega) (by decide)) (Nat.le_of_ble_eq_true rfl) dX9_blame_10 (fun g10 => ?_) (fun g10 => ?_)
      · refine e_if_ne (tgt := 20) dX9_blame_13 (by decide) (fun _ => ?_) (fun h => absurd h (by decide))
        refine e_aload0 dX9_blame_20 ?_
        refine e_iload1 dX9_blame_21 ?_
        refine e_cVGV (ct_X9_laysWay (d := d - 1) (by omega) hg hw.1 hnx hln) cy_X9_laysWay cv_X9_laysWay ml_X9_362 la_134 rfl rfl rfl (rok (by omega) (by decide)) (Nat.le_of_ble_eq_true rfl) dX9_blame_22 (fun M1 hx => ?_)
        obtain ⟨hf, hl⟩ := hx
        obtain ⟨⟨_, b2⟩, ⟨_, _, b5⟩, _⟩ := (hg.fq hf).cn hw.1.1.2
        have hh := bl_loop (l := l) (w := w) (d := d) (M := M1) (Q := fun r M1 => ∃ x, r = some (vL x) ∧ blameR G c' h b x ∧ FQ M M1) (G := G) (c := c') (nx := nx) (ln := ln) (h := h) (b := b) (by omega) hln (by omega) h6 b2 hl (by omega) (fun z => ⟨_, rfl, Or.inr ⟨fun y => by have y1 := y.2.2; rw [toN, hnx, hln, toN, toN] at y1; exact y1 z, rfl⟩, hf⟩) (fun z x hx => ⟨x, rfl, Or.inl ⟨hw.1, hw.2, by rw [toN, hnx, hln, toN, toN]; exact z, by rw [toN, hnx, hln, toN, toN]; exact hx⟩, hf⟩) (ln - nx - 1) 1 (by omega)
        rw [show oU (wO G c' nx) 1 = 1 from rfl, show bU (wO G c' nx) (wH G c' nx) h 1 = 0 from rfl, show bL (wO G c' nx) 1 = 0 from rfl] at hh
        refine e_lconst1 dX9_blame_25 ?_
        refine e_lstore4 dX9_blame_26 rfl ?_
        refine e_lconst0 dX9_blame_28 ?_
        refine e_lstore6 dX9_blame_29 rfl ?_
        refine e_lconst0 dX9_blame_31 ?_
        refine e_lstore8 dX9_blame_32 rfl ?_
        refine e_aload0 dX9_blame_34 ?_
        refine e_iload1 dX9_blame_35 ?_
        refine e_iconst dX9_blame_36 rfl kc_2 ?_
        refine e_cVI (ct_X9_ofCandle (d := d - 1) (k := 2) h6 (by decide)) cy_X9_ofCandle cv_X9_ofCandle ml_X9_327 la_134 rfl rfl rfl (rok (by omega) (by decide)) (Nat.le_of_ble_eq_true rfl) dX9_blame_37 ?_
        refine WW.ec (y := (nx : Int)) (by rw [b5, hnx]) ?_
        refine e_iconst dX9_blame_40 rfl kc_1 ?_
        refine e_iadd dX9_blame_41 (⟨by omega, by omega⟩) ?_
        refine e_istore10 dX9_blame_42 rfl ?_
        exact hh
      · refine e_if_ne (tgt := 20) dX9_blame_13 (by decide) (fun h => absurd h (by decide)) (fun _ => ?_)
        first | exact absurd hw.1 g2 | exact absurd ((hg.isH _).mpr hw.2) g10
    · refine e_if_eq (tgt := 16) dX9_blame_5 (by decide) (fun _ => ?_) (fun h => absurd h (by decide))
      first | exact absurd hw.1 g2 | exact absurd ((hg.isH _).mpr hw.2) g10
  · refine e_aload0 dX9_blame_0 ?_
    refine e_iload1 dX9_blame_1 ?_
    refine e_cVZ (ct_X9_hasWay (d := d - 1) (by omega) hg) cy_X9_hasWay cv_X9_hasWay ml_X9_359 la_134 rfl rfl rfl (rok (by omega) (by decide)) (Nat.le_of_ble_eq_true rfl) dX9_blame_2 (fun g2 => ?_) (fun g2 => ?_)
    · refine e_if_eq (tgt := 16) dX9_blame_5 (by decide) (fun h => absurd h (by decide)) (fun _ => ?_)
      refine e_aload0 dX9_blame_8 ?_
      refine e_iload2 dX9_blame_9 ?_
      refine e_cVZ (ct_X9_isHouse (d := d - 1) (by omega) nn.1) cy_X9_isHouse cv_X9_isHouse ml_X9_317 la_134 rfl rfl rfl (rok (by omega) (by decide)) (Nat.le_of_ble_eq_true rfl) dX9_blame_10 (fun g10 => ?_) (fun g10 => ?_)
      · refine e_if_ne (tgt := 20) dX9_blame_13 (by decide) (fun _ => ?_) (fun h => absurd h (by decide))
        exact absurd ⟨g2, (hg.isH _).mp g10⟩ hw
      · refine e_if_ne (tgt := 20) dX9_blame_13 (by decide) (fun h => absurd h (by decide)) (fun _ => ?_)
        refine e_ldc2 dX9_blame_16 kl_X9_369 ⟨by decide, by decide⟩ ?_
        refine e_lret dX9_blame_19 ?_
        exact ⟨_, rfl, Or.inr ⟨fun z => hw ⟨z.1, z.2.1⟩, rfl⟩, FQ.rf M⟩
    · refine e_if_eq (tgt := 16) dX9_blame_5 (by decide) (fun _ => ?_) (fun h => absurd h (by decide))
      refine e_ldc2 dX9_blame_16 kl_X9_369 ⟨by decide, by decide⟩ ?_
      refine e_lret dX9_blame_19 ?_
      exact ⟨_, rfl, Or.inr ⟨fun z => hw ⟨z.1, z.2.1⟩, rfl⟩, FQ.rf M⟩
end MODDS
