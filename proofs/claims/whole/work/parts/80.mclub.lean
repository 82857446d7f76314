/-! THE MODEL'S WORTH, CLUB, SETTLES -/
def cb (s : Nat) : Nat → Int
  | 0 => 0
  | j + 1 => cb s j + bAnd (bShr (s : Int) (j : Int)) 1
theorem cb_p : ∀ H : Nat, H < 9 → ∀ s : Nat, s < 256 → s < 2 ^ H → cb s H = (popc s : Int) := by decide +kernel
theorem bit_b : ∀ s : Nat, s < 256 → ∀ g : Nat, g < 8 → 0 ≤ bAnd (bShr (s : Int) (g : Int)) 1 ∧ bAnd (bShr (s : Int) (g : Int)) 1 ≤ 1 := by decide +kernel
theorem cb_b {s : Nat} (hs : s < 256) : ∀ j : Nat, j ≤ 8 → 0 ≤ cb s j ∧ cb s j ≤ j
  | 0, _ => ⟨Int.le_refl 0, Int.le_refl 0⟩
  | j + 1, h => by
    have h1 := cb_b hs j (by omega)
    have h2 := bit_b s hs j (by omega)
    show 0 ≤ cb s j + bAnd (bShr (s : Int) (j : Int)) 1 ∧ cb s j + bAnd (bShr (s : Int) (j : Int)) 1 ≤ _
    omega
section MCLUB
variable {l : Launch} {w : Wd} {d : Nat} {M : Mem} {Q : Option MV → Mem → Prop}
theorem wo_row {G : Mem} (hd : 1 ≤ d) (hg : GS G M) {s : Int} {c : Nat} (hc : (c : Int) < G 1 5) (k : ∀ v5 v6 : Option MV, WM l w RX9 cX9_worthOf 7 (some .int) d Q 88 [some (vR 134), some (vI s), some (vI (wall G s (c + 1))), some (vI (c : Int)), some (vI (G 7 c)), v5, v6] [] M) :
    ∀ (q i : Nat) (v5 v6 : Option MV), 1 ≤ i → i + q = (G 7 c).toNat → WM l w RX9 cX9_worthOf 7 (some .int) d Q 17 [some (vR 134), some (vI s), some (vI (wall G s c + wrow G s c i)), some (vI (c : Int)), some (vI (i : Int)), v5, v6] [] M
  | 0, i, v5, v6, h1, hi => by
    obtain ⟨⟨a1, a2⟩, _, a6, h6, h7, _⟩ := hg.cn hc
    have kk := k v5 v6
    have es : wall G s (c + 1) = wall G s c + wrow G s c i := by show wall G s c + wrow G s c (G 7 c).toNat = _; rw [← hi]; rfl
    rw [es, show G 7 c = (i : Int) by omega] at kk
    refine e_iload4 dX9_worthOf_17 ?_
    refine e_aload0 dX9_worthOf_19 ?_
    refine e_iload3 dX9_worthOf_20 ?_
    refine e_cVI (ct_X9_inchesOf (d := d - 1) h6) cy_X9_inchesOf cv_X9_inchesOf ml_X9_310 la_134 rfl rfl rfl (rok (by omega) (by decide)) (Nat.le_of_ble_eq_true rfl) dX9_worthOf_21 ?_
    refine WW.ec (y := G 7 c) (a2) ?_
    refine e_icmp_ge (tgt := 88) dX9_worthOf_24 (by decide) (fun h24 => ?_) (fun h24 => ?_)
    · exact kk
    · omega
  | q + 1, i, v5, v6, h1, hi => by
    obtain ⟨⟨a1, a2⟩, _, a6, h6, h7, _⟩ := hg.cn hc
    have ih := wo_row hd hg hc k q (i + 1) (some (vI (ownr G c ((i - 1 : Nat) : Int)))) (some (vI (ownr G c i))) (by omega) (by omega)
    have es : wrow G s c (i + 1) = wrow G s c i + if 1 ≤ i ∧ ow G s c ((i : Int) - 1) ∧ ow G s c i then 1 else 0 := rfl
    have ei : (i : Int) - 1 = ((i - 1 : Nat) : Int) := by omega
    have b1 := wall_b hg.gm.1.1 s c (by omega)
    have b2 := wrow_b G s c i
    have o1 := a6 (i - 1) (by omega)
    have o2 := a6 i (by omega)
    rw [es] at ih
    have good : (1 ≤ i ∧ ow G s c ((i : Int) - 1) ∧ ow G s c i) → WM l w RX9 cX9_worthOf 7 (some .int) d Q 17 [some (vR 134), some (vI s), some (vI (wall G s c + wrow G s c i + 1)), some (vI (c : Int)), some (vI ((i : Int) + 1)), some (vI (ownr G c ((i - 1 : Nat) : Int))), some (vI (ownr G c i))] [] M := by
      intro z
      rw [if_pos z, ← Int.add_assoc] at ih
      exact ih
    have bad : ¬ (1 ≤ i ∧ ow G s c ((i : Int) - 1) ∧ ow G s c i) → WM l w RX9 cX9_worthOf 7 (some .int) d Q 17 [some (vR 134), some (vI s), some (vI (wall G s c + wrow G s c i)), some (vI (c : Int)), some (vI ((i : Int) + 1)), some (vI (ownr G c ((i - 1 : Nat) : Int))), some (vI (ownr G c i))] [] M := by
      intro z
      rw [if_neg z, Int.add_zero] at ih
      exact ih
    refine e_iload4 dX9_worthOf_17 ?_
    refine e_aload0 dX9_worthOf_19 ?_
    refine e_iload3 dX9_worthOf_20 ?_
    refine e_cVI (ct_X9_inchesOf (d := d - 1) h6) cy_X9_inchesOf cv_X9_inchesOf ml_X9_310 la_134 rfl rfl rfl (rok (by omega) (by decide)) (Nat.le_of_ble_eq_true rfl) dX9_worthOf_21 ?_
    refine WW.ec (y := G 7 c) (a2) ?_
    refine e_icmp_ge (tgt := 88) dX9_worthOf_24 (by decide) (fun h24 => ?_) (fun h24 => ?_)
    · omega
    · refine e_aload0 dX9_worthOf_27 ?_
      refine e_iload3 dX9_worthOf_28 ?_
      refine e_iload4 dX9_worthOf_29 ?_
      refine e_iconst dX9_worthOf_31 rfl kc_1 ?_
      refine e_isub dX9_worthOf_32 (⟨by omega, by omega⟩) ?_
      refine WW.ec (y := ((i - 1 : Nat) : Int)) (ei) ?_
      refine e_cVI (ct_X9_ownerOf (d := d - 1) h6 (by omega)) cy_X9_ownerOf cv_X9_ownerOf ml_X9_330 la_134 rfl rfl rfl (rok (by omega) (by decide)) (Nat.le_of_ble_eq_true rfl) dX9_worthOf_33 ?_
      refine WW.ec (y := ownr G c ((i - 1 : Nat) : Int)) (o1) ?_
      refine e_istore5 dX9_worthOf_36 rfl ?_
      refine e_aload0 dX9_worthOf_38 ?_
      refine e_iload3 dX9_worthOf_39 ?_
      refine e_iload4 dX9_worthOf_40 ?_
      refine e_cVI (ct_X9_ownerOf (d := d - 1) h6 (by omega)) cy_X9_ownerOf cv_X9_ownerOf ml_X9_330 la_134 rfl rfl rfl (rok (by omega) (by decide)) (Nat.le_of_ble_eq_true rfl) dX9_worthOf_42 ?_
      refine WW.ec (y := ownr G c i) (o2) ?_
      refine e_istore6 dX9_worthOf_45 rfl ?_
      refine e_iload5 dX9_worthOf_47 ?_
      refine e_iconst dX9_worthOf_49 rfl kc_m1 ?_
      refine e_icmp_eq (tgt := 82) dX9_worthOf_50 (by decide) (fun h50 => ?_) (fun h50 => ?_)
      · refine e_iinc4 dX9_worthOf_82 rfl (⟨by omega, by omega⟩) rfl ?_
        refine e_goto (tgt := 17) dX9_worthOf_85 (by decide) ?_
        first | exact good ⟨h1, by rw [ei]; exact ⟨h50, h66⟩, h56, h76⟩ | exact bad (fun z => by have z1 := z.2.1; have z2 := z.2.2; rw [ei] at z1; first | exact z1.1 h50 | exact z2.1 h56 | exact h66 z1.2 | exact h76 z2.2)
      · refine e_iload6 dX9_worthOf_53 ?_
        refine e_iconst dX9_worthOf_55 rfl kc_m1 ?_
        refine e_icmp_eq (tgt := 82) dX9_worthOf_56 (by decide) (fun h56 => ?_) (fun h56 => ?_)
        · refine e_iinc4 dX9_worthOf_82 rfl (⟨by omega, by omega⟩) rfl ?_
          refine e_goto (tgt := 17) dX9_worthOf_85 (by decide) ?_
          first | exact good ⟨h1, by rw [ei]; exact ⟨h50, h66⟩, h56, h76⟩ | exact bad (fun z => by have z1 := z.2.1; have z2 := z.2.2; rw [ei] at z1; first | exact z1.1 h50 | exact z2.1 h56 | exact h66 z1.2 | exact h76 z2.2)
        · refine e_iload1 dX9_worthOf_59 ?_
          refine e_iload5 dX9_worthOf_60 ?_
          refine e_ishr dX9_worthOf_62 ?_
          refine e_iconst dX9_worthOf_63 rfl kc_1 ?_
          refine e_iand dX9_worthOf_64 ?_
          refine e_iconst dX9_worthOf_65 rfl kc_1 ?_
          refine e_icmp_ne (tgt := 82) dX9_worthOf_66 (by decide) (fun h66 => ?_) (fun h66 => ?_)
          · refine e_iinc4 dX9_worthOf_82 rfl (⟨by omega, by omega⟩) rfl ?_
            refine e_goto (tgt := 17) dX9_worthOf_85 (by decide) ?_
            first | exact good ⟨h1, by rw [ei]; exact ⟨h50, h66⟩, h56, h76⟩ | exact bad (fun z => by have z1 := z.2.1; have z2 := z.2.2; rw [ei] at z1; first | exact z1.1 h50 | exact z2.1 h56 | exact h66 z1.2 | exact h76 z2.2)
          · refine e_iload1 dX9_worthOf_69 ?_
            refine e_iload6 dX9_worthOf_70 ?_
            refine e_ishr dX9_worthOf_72 ?_
            refine e_iconst dX9_worthOf_73 rfl kc_1 ?_
            refine e_iand dX9_worthOf_74 ?_
            refine e_iconst dX9_worthOf_75 rfl kc_1 ?_
            refine e_icmp_ne (tgt := 82) dX9_worthOf_76 (by decide) (fun h76 => ?_) (fun h76 => ?_)
            · refine e_iinc4 dX9_worthOf_82 rfl (⟨by omega, by omega⟩) rfl ?_
              refine e_goto (tgt := 17) dX9_worthOf_85 (by decide) ?_
              first | exact good ⟨h1, by rw [ei]; exact ⟨h50, h66⟩, h56, h76⟩ | exact bad (fun z => by have z1 := z.2.1; have z2 := z.2.2; rw [ei] at z1; first | exact z1.1 h50 | exact z2.1 h56 | exact h66 z1.2 | exact h76 z2.2)
            · refine e_iinc2 dX9_worthOf_79 rfl (⟨by omega, by omega⟩) rfl ?_
              refine e_iinc4 dX9_worthOf_82 rfl (⟨by omega, by omega⟩) rfl ?_
              refine e_goto (tgt := 17) dX9_worthOf_85 (by decide) ?_
              first | exact good ⟨h1, by rw [ei]; exact ⟨h50, h66⟩, h56, h76⟩ | exact bad (fun z => by have z1 := z.2.1; have z2 := z.2.2; rw [ei] at z1; first | exact z1.1 h50 | exact z2.1 h56 | exact h66 z1.2 | exact h76 z2.2)
theorem wo_loop {G : Mem} (hd : 1 ≤ d) (hg : GS G M) {s : Int} (hQ : Q (some (vI (wall G s (G 1 5).toNat))) M) : ∀ (q c : Nat) (v4 v5 v6 : Option MV), c + q = (G 1 5).toNat → WM l w RX9 cX9_worthOf 7 (some .int) d Q 4 [some (vR 134), some (vI s), some (vI (wall G s c)), some (vI (c : Int)), v4, v5, v6] [] M
  | 0, c, v4, v5, v6, hc => by
    obtain rfl : c = (G 1 5).toNat := by omega
    have e1 := hg.2.2.1.1.1.2.1
    have h5 := hg.gm.1.1.2.1
    refine e_iload3 dX9_worthOf_4 ?_
    refine e_aload0 dX9_worthOf_5 ?_
    refine e_getR fl_X9_7 la_134 rfl dX9_worthOf_6 ?_
    refine e_iconst dX9_worthOf_9 rfl kc_1 ?_
    refine e_ialdK (k := 1) la_135 (by decide) (rfl) dX9_worthOf_10 ?_
    refine WW.ec (y := G 1 5) (e1) ?_
    refine e_icmp_ge (tgt := 94) dX9_worthOf_11 (by decide) (fun h11 => ?_) (fun h11 => ?_)
    · refine e_iload2 dX9_worthOf_94 ?_
      refine e_iret dX9_worthOf_95 ?_
      exact hQ
    · omega
  | q + 1, c, v4, v5, v6, hc => by
    have e1 := hg.2.2.1.1.1.2.1
    have h5 := hg.gm.1.1.2.1
    have hc1 : (c : Int) < G 1 5 := by omega
    obtain ⟨⟨a1, a2⟩, _, a6, h6, h7, _⟩ := hg.cn hc1
    have hrow := wo_row (l := l) (w := w) (d := d) (M := M) (Q := Q) (s := s) hd hg hc1 (fun v5 v6 => by
      have ih := wo_loop hd hg hQ q (c + 1) (some (vI (G 7 c))) v5 v6 (by omega)
      refine e_iinc3 dX9_worthOf_88 rfl (⟨by omega, by omega⟩) rfl ?_
      refine e_goto (tgt := 4) dX9_worthOf_91 (by decide) ?_
      exact ih) ((G 7 c).toNat - 1) 1 v5 v6 (by omega) (by omega)
    rw [show wrow G s c 1 = 0 by show wrow G s c 0 + (if 1 ≤ 0 ∧ _ ∧ _ then 1 else 0) = 0; rw [if_neg (by omega)]; rfl, Int.add_zero] at hrow
    refine e_iload3 dX9_worthOf_4 ?_
    refine e_aload0 dX9_worthOf_5 ?_
    refine e_getR fl_X9_7 la_134 rfl dX9_worthOf_6 ?_
    refine e_iconst dX9_worthOf_9 rfl kc_1 ?_
    refine e_ialdK (k := 1) la_135 (by decide) (rfl) dX9_worthOf_10 ?_
    refine WW.ec (y := G 1 5) (e1) ?_
    refine e_icmp_ge (tgt := 94) dX9_worthOf_11 (by decide) (fun h11 => ?_) (fun h11 => ?_)
    · omega
    · refine e_iconst dX9_worthOf_14 rfl kc_1 ?_
      refine e_istore4 dX9_worthOf_15 rfl ?_
      exact hrow
theorem ct_X9_worthOf {G : Mem} (hd : 1 ≤ d) (hg : GS G M) {s : Int} : PI l w yX9_worthOf cX9_worthOf 7 d [vR 134, vI s] M (wall G s (G 1 5).toNat) M := by
  have h := wo_loop (l := l) (w := w) (d := d) (M := M) (Q := fun r M' => M' = M ∧ r = some (vI (wall G s (G 1 5).toNat))) hd hg ⟨rfl, rfl⟩ (G 1 5).toNat 0 none none none (by omega)
  refine MT.of [some (vR 134), some (vI s), none, none, none, none, none] ⟨by decide, rfl⟩ rfl (Nat.le_of_ble_eq_true rfl) (fun hA hM => ?_)
  refine e_iconst dX9_worthOf_0 rfl kc_0 ?_
  refine e_istore2 dX9_worthOf_1 rfl ?_
  refine e_iconst dX9_worthOf_2 rfl kc_0 ?_
  refine e_istore3 dX9_worthOf_3 rfl ?_
  exact h
theorem ct_X9_worth {G : Mem} (hd : 2 ≤ d) (hg : GS G M) {s : Int} : PI l w yX9_worth cX9_worth 2 d [vR 134, vI s] M (worthV G s) M := by
  have e0 := hg.2.2.1.1.1.1
  have h0 := hg.gm.1.1.1
  have hp8 := pow8 (H := (G 1 0).toNat) (by omega)
  have hcast : (2 : Int) ^ (G 1 0).toNat = ((2 ^ (G 1 0).toNat : Nat) : Int) := by simp
  unfold worthV
  generalize hP : (2 : Nat) ^ (G 1 0).toNat = P at *
  refine MT.of [some (vR 134), some (vI s)] ⟨by decide, rfl⟩ rfl (Nat.le_of_ble_eq_true rfl) (fun hA hM => ?_)
  refine e_iload1 dX9_worth_0 ?_
  refine e_iconst dX9_worth_1 rfl kc_0 ?_
  refine e_iconst dX9_worth_2 rfl kc_1 ?_
  refine e_aload0 dX9_worth_3 ?_
  refine e_getR fl_X9_7 la_134 rfl dX9_worth_4 ?_
  refine e_iconst dX9_worth_7 rfl kc_0 ?_
  refine e_ialdK (k := 0) la_135 (by decide) (rfl) dX9_worth_8 ?_
  refine WW.ec (y := G 1 0) (e0) ?_
  refine e_ishl dX9_worth_9 ?_
  refine WW.ec (y := (P : Int)) (by rw [bShl1 h0.1 h0.2]; exact hcast) ?_
  refine e_iconst dX9_worth_10 rfl kc_1 ?_
  refine e_isub dX9_worth_11 (⟨by omega, by omega⟩) ?_
  refine e_cSZ (ct_X9_in (d := d - 1)) cy_X9_in cs_X9_in ml_X9_120 rfl rfl (rok (by omega) (by decide)) (Nat.le_of_ble_eq_true rfl) dX9_worth_12 (fun g12 => ?_) (fun g12 => ?_)
  · refine e_if_eq (tgt := 26) dX9_worth_15 (by decide) (fun h => absurd h (by decide)) (fun _ => ?_)
    refine e_aload0 dX9_worth_18 ?_
    refine e_iload1 dX9_worth_19 ?_
    refine e_cVI (ct_X9_worthOf (d := d - 1) (by omega) hg) cy_X9_worthOf cv_X9_worthOf ml_X9_389 la_134 rfl rfl rfl (rok (by omega) (by decide)) (Nat.le_of_ble_eq_true rfl) dX9_worth_20 ?_
    refine e_goto (tgt := 27) dX9_worth_23 (by decide) ?_
    refine e_iret dX9_worth_27 ?_
    first | exact ⟨rfl, by rw [if_pos (by rw [hcast]; omega)]⟩ | exact ⟨rfl, by rw [if_neg (by rw [hcast]; omega)]⟩
  · refine e_if_eq (tgt := 26) dX9_worth_15 (by decide) (fun _ => ?_) (fun h => absurd h (by decide))
    refine e_iconst dX9_worth_26 rfl kc_m1 ?_
    refine e_iret dX9_worth_27 ?_
    first | exact ⟨rfl, by rw [if_pos (by rw [hcast]; omega)]⟩ | exact ⟨rfl, by rw [if_neg (by rw [hcast]; omega)]⟩
theorem cl_bits {H s : Nat} (hH : H ≤ 8) (hs : s < 256) (h0 : M 135 0 = H) {k a b : Int} (kk : ∀ v : Option MV, WM l w RX9 cX9_club 7 (some .int) d Q 71 [some (vR 134), some (vI k), some (vI a), some (vI b), some (vI (s : Int)), some (vI (cb s H)), v] [] M) : ∀ q j : Nat, j + q = H → WM l w RX9 cX9_club 7 (some .int) d Q 42 [some (vR 134), some (vI k), some (vI a), some (vI b), some (vI (s : Int)), some (vI (cb s j)), some (vI (j : Int))] [] M
  | 0, j, hj => by
    obtain rfl : j = H := by omega
    have k1 := kk (some (vI (j : Int)))
    refine e_iload6 dX9_club_42 ?_
    refine e_aload0 dX9_club_44 ?_
    refine e_getR fl_X9_7 la_134 rfl dX9_club_45 ?_
    refine e_iconst dX9_club_48 rfl kc_0 ?_
    refine e_ialdK (k := 0) la_135 (by decide) (rfl) dX9_club_49 ?_
    refine WW.ec (y := (j : Int)) (h0) ?_
    refine e_icmp_ge (tgt := 71) dX9_club_50 (by decide) (fun h50 => ?_) (fun h50 => ?_)
    · exact k1
    · omega
  | q + 1, j, hj => by
    have ih := cl_bits hH hs h0 kk q (j + 1) (by omega)
    have b1 := cb_b hs j (by omega)
    have b2 := bit_b s hs j (by omega)
    refine e_iload6 dX9_club_42 ?_
    refine e_aload0 dX9_club_44 ?_
    refine e_getR fl_X9_7 la_134 rfl dX9_club_45 ?_
    refine e_iconst dX9_club_48 rfl kc_0 ?_
    refine e_ialdK (k := 0) la_135 (by decide) (rfl) dX9_club_49 ?_
    refine WW.ec (y := (H : Int)) (h0) ?_
    refine e_icmp_ge (tgt := 71) dX9_club_50 (by decide) (fun h50 => ?_) (fun h50 => ?_)
    · omega
    · refine e_iload5 dX9_club_53 ?_
      refine e_iload4 dX9_club_55 ?_
      refine e_iload6 dX9_club_57 ?_
      refine e_ishr dX9_club_59 ?_
      refine e_iconst dX9_club_60 rfl kc_1 ?_
      refine e_iand dX9_club_61 ?_
      refine e_iadd dX9_club_62 (⟨by omega, by omega⟩) ?_
      refine e_istore5 dX9_club_63 rfl ?_
      refine e_iinc6 dX9_club_65 rfl (⟨by omega, by omega⟩) rfl ?_
      refine e_goto (tgt := 42) dX9_club_68 (by decide) ?_
      exact ih
theorem cl_loop {G : Mem} (hd : 2 ≤ d) (hg : GS G M) {k : Int} (hk : 1 ≤ k ∧ k ≤ G 1 0) (hQ : Q (some (vI (clubF G k (2 ^ (G 1 0).toNat)).1)) M) : ∀ (q s : Nat) (v5 v6 : Option MV), s + q = 2 ^ (G 1 0).toNat → WM l w RX9 cX9_club 7 (some .int) d Q 23 [some (vR 134), some (vI k), some (vI (clubF G k s).1), some (vI (clubF G k s).2), some (vI (s : Int)), v5, v6] [] M := by
  have e0 := hg.2.2.1.1.1.1
  have h0 := hg.gm.1.1.1
  have hp8 := pow8 (H := (G 1 0).toNat) (by omega)
  have hcast : (2 : Int) ^ (G 1 0).toNat = ((2 ^ (G 1 0).toNat : Nat) : Int) := by simp
  intro q
  induction q with
  | zero =>
    intro s v5 v6 hs
    have es : s = 2 ^ (G 1 0).toNat := by omega
    refine e_iload4 dX9_club_23 ?_
    refine e_iconst dX9_club_25 rfl kc_1 ?_
    refine e_aload0 dX9_club_26 ?_
    refine e_getR fl_X9_7 la_134 rfl dX9_club_27 ?_
    refine e_iconst dX9_club_30 rfl kc_0 ?_
    refine e_ialdK (k := 0) la_135 (by decide) (rfl) dX9_club_31 ?_
    refine WW.ec (y := G 1 0) (e0) ?_
    refine e_ishl dX9_club_32 ?_
    refine WW.ec (y := ((2 ^ (G 1 0).toNat : Nat) : Int)) (by rw [bShl1 h0.1 h0.2]; exact hcast) ?_
    refine e_icmp_ge (tgt := 103) dX9_club_33 (by decide) (fun h33 => ?_) (fun h33 => ?_)
    · refine e_iload2 dX9_club_103 ?_
      refine e_iret dX9_club_104 ?_
      rw [es]; exact hQ
    · omega
  | succ q ih =>
    intro s v5 v6 hs
    have hcp := cb_p (G 1 0).toNat (by omega) s (by omega) (by omega)
    have hbb := clubF_b hg.gm.1.1 k s
    have hwn := wall_n hg.gm.1.1 (s : Int)
    have hst : clubF G k (s + 1) = if (clubF G k s).2 < (if (popc s : Int) = k ∧ 1 ≤ s then wall G s (G 1 5).toNat else -1) then ((s : Int), wall G s (G 1 5).toNat) else clubF G k s := rfl
    have hp0 : s = 0 → popc s = 0 := fun e => by rw [e]; rfl
    have k71 : ∀ v : Option MV, WM l w RX9 cX9_club 7 (some .int) d Q 71 [some (vR 134), some (vI k), some (vI (clubF G k s).1), some (vI (clubF G k s).2), some (vI (s : Int)), some (vI (cb s (G 1 0).toNat)), v] [] M := by
      intro v
      have ih2 := ih (s + 1) (some (vI (cb s (G 1 0).toNat))) v (by omega)
      by_cases hp : (popc s : Int) = k
      · have h1s : 1 ≤ s := by have := hp0; omega
        rw [if_pos (show (popc s : Int) = k ∧ 1 ≤ s from ⟨hp, h1s⟩)] at hst
        by_cases hlt : (clubF G k s).2 < wall G s (G 1 5).toNat
        · rw [if_pos hlt] at hst
          rw [hst] at ih2
          refine e_iload5 dX9_club_71 ?_
          refine e_iload1 dX9_club_73 ?_
          refine e_icmp_ne (tgt := 97) dX9_club_74 (by decide) (fun h => absurd h (by omega)) (fun h74 => ?_)
          refine e_aload0 dX9_club_77 ?_
          refine e_iload4 dX9_club_78 ?_
          refine e_cVI (ct_X9_worthOf (d := d - 1) (by omega) hg) cy_X9_worthOf cv_X9_worthOf ml_X9_389 la_134 rfl rfl rfl (rok (by omega) (by decide)) (Nat.le_of_ble_eq_true rfl) dX9_club_80 ?_
          refine e_iload3 dX9_club_83 ?_
          refine e_icmp_le (tgt := 97) dX9_club_84 (by decide) (fun h => absurd h (by omega)) (fun h84 => ?_)
          refine e_aload0 dX9_club_87 ?_
          refine e_iload4 dX9_club_88 ?_
          refine e_cVI (ct_X9_worthOf (d := d - 1) (by omega) hg) cy_X9_worthOf cv_X9_worthOf ml_X9_389 la_134 rfl rfl rfl (rok (by omega) (by decide)) (Nat.le_of_ble_eq_true rfl) dX9_club_90 ?_
          refine e_istore3 dX9_club_93 rfl ?_
          refine e_iload4 dX9_club_94 ?_
          refine e_istore2 dX9_club_96 rfl ?_
          refine e_iinc4 dX9_club_97 rfl (⟨by omega, by omega⟩) rfl ?_
          refine e_goto (tgt := 23) dX9_club_100 (by decide) ?_
          exact ih2
        · rw [if_neg hlt] at hst
          rw [hst] at ih2
          refine e_iload5 dX9_club_71 ?_
          refine e_iload1 dX9_club_73 ?_
          refine e_icmp_ne (tgt := 97) dX9_club_74 (by decide) (fun h => absurd h (by omega)) (fun h74 => ?_)
          refine e_aload0 dX9_club_77 ?_
          refine e_iload4 dX9_club_78 ?_
          refine e_cVI (ct_X9_worthOf (d := d - 1) (by omega) hg) cy_X9_worthOf cv_X9_worthOf ml_X9_389 la_134 rfl rfl rfl (rok (by omega) (by decide)) (Nat.le_of_ble_eq_true rfl) dX9_club_80 ?_
          refine e_iload3 dX9_club_83 ?_
          refine e_icmp_le (tgt := 97) dX9_club_84 (by decide) (fun h84 => ?_) (fun h => absurd h (by omega))
          refine e_iinc4 dX9_club_97 rfl (⟨by omega, by omega⟩) rfl ?_
          refine e_goto (tgt := 23) dX9_club_100 (by decide) ?_
          exact ih2
      · rw [if_neg (show ¬ ((popc s : Int) = k ∧ 1 ≤ s) from fun z => hp z.1), if_neg (show ¬ (clubF G k s).2 < -1 by omega)] at hst
        rw [hst] at ih2
        refine e_iload5 dX9_club_71 ?_
        refine e_iload1 dX9_club_73 ?_
        refine e_icmp_ne (tgt := 97) dX9_club_74 (by decide) (fun h74 => ?_) (fun h => absurd h (by omega))
        refine e_iinc4 dX9_club_97 rfl (⟨by omega, by omega⟩) rfl ?_
        refine e_goto (tgt := 23) dX9_club_100 (by decide) ?_
        exact ih2
    have h42 := cl_bits (l := l) (w := w) (d := d) (M := M) (Q := Q) (H := (G 1 0).toNat) (s := s) (by omega) (by omega) (by omega) k71 (G 1 0).toNat 0 (by omega)
    refine e_iload4 dX9_club_23 ?_
    refine e_iconst dX9_club_25 rfl kc_1 ?_
    refine e_aload0 dX9_club_26 ?_
    refine e_getR fl_X9_7 la_134 rfl dX9_club_27 ?_
    refine e_iconst dX9_club_30 rfl kc_0 ?_
    refine e_ialdK (k := 0) la_135 (by decide) (rfl) dX9_club_31 ?_
    refine WW.ec (y := G 1 0) (e0) ?_
    refine e_ishl dX9_club_32 ?_
    refine WW.ec (y := ((2 ^ (G 1 0).toNat : Nat) : Int)) (by rw [bShl1 h0.1 h0.2]; exact hcast) ?_
    refine e_icmp_ge (tgt := 103) dX9_club_33 (by decide) (fun h33 => ?_) (fun h33 => ?_)
    · omega
    · refine e_iconst dX9_club_36 rfl kc_0 ?_
      refine e_istore5 dX9_club_37 rfl ?_
      refine e_iconst dX9_club_39 rfl kc_0 ?_
      refine e_istore6 dX9_club_40 rfl ?_
      exact h42
theorem ct_X9_club {G : Mem} (hd : 3 ≤ d) (hg : GS G M) {k : Int} : PI l w yX9_club cX9_club 7 d [vR 134, vI k] M (clubV G k) M := by
  have e0 := hg.2.2.1.1.1.1
  unfold clubV
  by_cases hk : 1 ≤ k ∧ k ≤ G 1 0
  · rw [if_pos hk]
    have h := cl_loop (l := l) (w := w) (d := d) (M := M) (Q := fun r M' => M' = M ∧ r = some (vI (clubF G k (2 ^ (G 1 0).toNat)).1)) (by omega) hg hk ⟨rfl, rfl⟩ (2 ^ (G 1 0).toNat) 0 none none (by omega)
    refine MT.of [some (vR 134), some (vI k), none, none, none, none, none] ⟨by decide, rfl⟩ rfl (Nat.le_of_ble_eq_true rfl) (fun hA hM => ?_)
    refine e_iload1 dX9_club_0 ?_
    refine e_iconst dX9_club_1 rfl kc_1 ?_
    refine e_aload0 dX9_club_2 ?_
    refine e_getR fl_X9_7 la_134 rfl dX9_club_3 ?_
    refine e_iconst dX9_club_6 rfl kc_0 ?_
    refine e_ialdK (k := 0) la_135 (by decide) (rfl) dX9_club_7 ?_
    refine WW.ec (y := G 1 0) (e0) ?_
    refine e_cSZ (ct_X9_in (d := d - 1)) cy_X9_in cs_X9_in ml_X9_120 rfl rfl (rok (by omega) (by decide)) (Nat.le_of_ble_eq_true rfl) dX9_club_8 (fun g8 => ?_) (fun g8 => ?_)
    · refine e_if_ne (tgt := 16) dX9_club_11 (by decide) (fun _ => ?_) (fun h => absurd h (by decide))
      refine e_iconst dX9_club_16 rfl kc_m1 ?_
      refine e_istore2 dX9_club_17 rfl ?_
      refine e_iconst dX9_club_18 rfl kc_m1 ?_
      refine e_istore3 dX9_club_19 rfl ?_
      refine e_iconst dX9_club_20 rfl kc_0 ?_
      refine e_istore4 dX9_club_21 rfl ?_
      exact h
    · refine e_if_ne (tgt := 16) dX9_club_11 (by decide) (fun h => absurd h (by decide)) (fun _ => ?_)
      exact absurd hk g8
  · rw [if_neg hk]
    refine MT.of [some (vR 134), some (vI k), none, none, none, none, none] ⟨by decide, rfl⟩ rfl (Nat.le_of_ble_eq_true rfl) (fun hA hM => ?_)
    refine e_iload1 dX9_club_0 ?_
    refine e_iconst dX9_club_1 rfl kc_1 ?_
    refine e_aload0 dX9_club_2 ?_
    refine e_getR fl_X9_7 la_134 rfl dX9_club_3 ?_
    refine e_iconst dX9_club_6 rfl kc_0 ?_
    refine e_ialdK (k := 0) la_135 (by decide) (rfl) dX9_club_7 ?_
    refine WW.ec (y := G 1 0) (e0) ?_
    refine e_cSZ (ct_X9_in (d := d - 1)) cy_X9_in cs_X9_in ml_X9_120 rfl rfl (rok (by omega) (by decide)) (Nat.le_of_ble_eq_true rfl) dX9_club_8 (fun g8 => ?_) (fun g8 => ?_)
    · refine e_if_ne (tgt := 16) dX9_club_11 (by decide) (fun _ => ?_) (fun h => absurd h (by decide))
      exact absurd g8 hk
    · refine e_if_ne (tgt := 16) dX9_club_11 (by decide) (fun h => absurd h (by decide)) (fun _ => ?_)
      refine e_iconst dX9_club_14 rfl kc_m1 ?_
      refine e_iret dX9_club_15 ?_
      exact ⟨rfl, rfl⟩
end MCLUB
