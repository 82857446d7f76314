/-! THE MODEL (object 134: taped 3, fault 4, faultAt 5, length 14, at 15, token 16, sort 17, told 18, wrong 19, wrongAt 20, open 21, frames 22, waits 24, state 27, newClauses 28, newKind 29, newOrders 35; a 135, image 136, tape 137, clauses 138, clauseWord 139, clauseAt 140, clauseOne 141, clauseTwo 142, clauseThree 143, order 144, value 145, frame 146, wait 147, waitFrame 148, newWord 149, newAt 150, newOne 151, newTwo 152, newThree 153, newOrder 154, newValue 155, name 156, pile 157, burnsIn 158, outBy 159, comes 160, sits 161, best 162, minutes 163, mate 164, bestMate 165, came 166) -/
theorem cmpL_c (x y : Int) : (y < x ∧ cmpL x y = 1) ∨ (x = y ∧ cmpL x y = 0) ∨ (x < y ∧ cmpL x y = -1) := by
  unfold cmpL
  by_cases a : y < x
  · rw [if_pos a]; omega
  · rw [if_neg a]
    by_cases b : x = y
    · rw [if_pos b]; omega
    · rw [if_neg b]; omega
section KIX
variable {l : Launch} {w : Wd} {own : String} {cc : ByteArray} {nL : Nat} {R : Room} {cs sl : Nat} {A : State → Nat → Prop} {Qf : List Frame → Array Value → State → State → Prop} {Ex : State → Array Value → Method → Prop} {pc : Nat} {L : List (Option MV)} {st : List MV} {M : Mem}
theorem e_ialdK {o n b sd k : Nat} {i : Int} (hl : lay[o]? = some (.inr (0, n, b, sd))) (hi : k < n) (hk : i = (k : Int)) (hd : decode cc pc = .ok (.iaload, 1))
    (kk : WW l w own cc nL R cs sl A Qf Ex (pc + 1) L (vI (M o k) :: st) M) : WW l w own cc nL R cs sl A Qf Ex pc L (vI i :: vR o :: st) M := by
  subst hk
  exact e_iald hl ⟨by omega, by omega⟩ hd kk
theorem e_baldK {o n b sd k : Nat} {i : Int} (hl : lay[o]? = some (.inr (1, n, b, sd))) (hi : k < n) (hk : i = (k : Int)) (hd : decode cc pc = .ok (.baload, 1))
    (kk : WW l w own cc nL R cs sl A Qf Ex (pc + 1) L (vI (M o k) :: st) M) : WW l w own cc nL R cs sl A Qf Ex pc L (vI i :: vR o :: st) M := by
  subst hk
  exact e_bald hl ⟨by omega, by omega⟩ hd kk
theorem e_zaldK {o n b sd k : Nat} {i : Int} (hl : lay[o]? = some (.inr (2, n, b, sd))) (hi : k < n) (hk : i = (k : Int)) (hd : decode cc pc = .ok (.baload, 1))
    (kk : WW l w own cc nL R cs sl A Qf Ex (pc + 1) L (vI (M o k) :: st) M) : WW l w own cc nL R cs sl A Qf Ex pc L (vI i :: vR o :: st) M := by
  subst hk
  exact e_zald hl ⟨by omega, by omega⟩ hd kk
theorem e_laldK {o n b sd k : Nat} {i : Int} (hl : lay[o]? = some (.inr (3, n, b, sd))) (hi : k < n) (hk : i = (k : Int)) (hd : decode cc pc = .ok (.laload, 1))
    (kk : WW l w own cc nL R cs sl A Qf Ex (pc + 1) L (vL (M o k) :: st) M) : WW l w own cc nL R cs sl A Qf Ex pc L (vI i :: vR o :: st) M := by
  subst hk
  exact e_lald hl ⟨by omega, by omega⟩ hd kk
theorem e_iastK {o n b sd k : Nat} {i x : Int} (hl : lay[o]? = some (.inr (0, n, b, sd))) (hi : k < n) (hk : i = (k : Int)) (hd : decode cc pc = .ok (.iastore, 1))
    (kk : WW l w own cc nL R cs sl A Qf Ex (pc + 1) L st (up M o k x)) : WW l w own cc nL R cs sl A Qf Ex pc L (vI x :: vI i :: vR o :: st) M := by
  subst hk
  exact e_iast hl ⟨by omega, by omega⟩ hd kk
theorem e_bastK {o n b sd k : Nat} {i x : Int} (hl : lay[o]? = some (.inr (1, n, b, sd))) (hi : k < n) (hk : i = (k : Int)) (hx : -128 ≤ x ∧ x ≤ 127) (hd : decode cc pc = .ok (.bastore, 1))
    (kk : WW l w own cc nL R cs sl A Qf Ex (pc + 1) L st (up M o k x)) : WW l w own cc nL R cs sl A Qf Ex pc L (vI x :: vI i :: vR o :: st) M := by
  subst hk
  exact e_bast hl ⟨by omega, by omega⟩ hx hd kk
theorem e_zastK {o n b sd k : Nat} {i x : Int} (hl : lay[o]? = some (.inr (2, n, b, sd))) (hi : k < n) (hk : i = (k : Int)) (hx : x = 0 ∨ x = 1) (hd : decode cc pc = .ok (.bastore, 1))
    (kk : WW l w own cc nL R cs sl A Qf Ex (pc + 1) L st (up M o k x)) : WW l w own cc nL R cs sl A Qf Ex pc L (vI x :: vI i :: vR o :: st) M := by
  subst hk
  exact e_zast hl ⟨by omega, by omega⟩ hx hd kk
theorem e_lastK {o n b sd k : Nat} {i x : Int} (hl : lay[o]? = some (.inr (3, n, b, sd))) (hi : k < n) (hk : i = (k : Int)) (hd : decode cc pc = .ok (.lastore, 1))
    (kk : WW l w own cc nL R cs sl A Qf Ex (pc + 1) L st (up M o k x)) : WW l w own cc nL R cs sl A Qf Ex pc L (vL x :: vI i :: vR o :: st) M := by
  subst hk
  exact e_last hl ⟨by omega, by omega⟩ hd kk
end KIX
section MOD
variable {l : Launch} {w : Wd} {d : Nat} {M : Mem} {Q : Option MV → Mem → Prop}
theorem ct_X9_in {v a b : Int} : PZ l w yX9_in cX9_in 3 d [vI v, vI a, vI b] M (a ≤ v ∧ v ≤ b) := by
  refine MT.of [some (vI v), some (vI a), some (vI b)] ⟨by decide, rfl⟩ rfl (Nat.le_of_ble_eq_true rfl) (fun hA hM => ?_)
  refine e_iload0 dX9_in_0 ?_
  refine e_iload1 dX9_in_1 ?_
  refine e_icmp_lt (tgt := 14) dX9_in_2 (by decide) (fun h2 => ?_) (fun h2 => ?_)
  · refine e_iconst dX9_in_14 rfl kc_0 ?_
    refine e_zret dX9_in_15 (by decide) ?_
    exact ⟨rfl, Or.inr ⟨rfl, by omega⟩⟩
  · refine e_iload0 dX9_in_5 ?_
    refine e_iload2 dX9_in_6 ?_
    refine e_icmp_gt (tgt := 14) dX9_in_7 (by decide) (fun h7 => ?_) (fun h7 => ?_)
    · refine e_iconst dX9_in_14 rfl kc_0 ?_
      refine e_zret dX9_in_15 (by decide) ?_
      exact ⟨rfl, Or.inr ⟨rfl, by omega⟩⟩
    · refine e_iconst dX9_in_10 rfl kc_1 ?_
      refine e_goto (tgt := 15) dX9_in_11 (by decide) ?_
      refine e_zret dX9_in_15 (by decide) ?_
      exact ⟨rfl, Or.inl ⟨rfl, by omega⟩⟩
theorem ct_X9_isHouse (hd : 1 ≤ d) (h0 : 0 ≤ M 135 0 ∧ M 135 0 ≤ 8) {h : Int} : PZ l w yX9_isHouse cX9_isHouse 2 d [vR 134, vI h] M (0 ≤ h ∧ h < M 135 0) := by
  refine MT.of [some (vR 134), some (vI h)] ⟨by decide, rfl⟩ rfl (Nat.le_of_ble_eq_true rfl) (fun hA hM => ?_)
  refine e_iload1 dX9_isHouse_0 ?_
  refine e_iconst dX9_isHouse_1 rfl kc_0 ?_
  refine e_aload0 dX9_isHouse_2 ?_
  refine e_getR fl_X9_7 la_134 rfl dX9_isHouse_3 ?_
  refine e_iconst dX9_isHouse_6 rfl kc_0 ?_
  refine e_ialdK (k := 0) la_135 (by decide) (rfl) dX9_isHouse_7 ?_
  refine e_iconst dX9_isHouse_8 rfl kc_1 ?_
  refine e_isub dX9_isHouse_9 (⟨by omega, by omega⟩) ?_
  refine e_cSZ (ct_X9_in (d := d - 1)) cy_X9_in cs_X9_in ml_X9_120 rfl rfl (rok (by omega) (by decide)) (Nat.le_of_ble_eq_true rfl) dX9_isHouse_10 (fun g10 => ?_) (fun g10 => ?_)
  · refine e_zret dX9_isHouse_13 (by decide) ?_
    first | exact ⟨rfl, Or.inl ⟨rfl, by have := g10; omega⟩⟩ | exact ⟨rfl, Or.inr ⟨rfl, by have := g10; omega⟩⟩
  · refine e_zret dX9_isHouse_13 (by decide) ?_
    first | exact ⟨rfl, Or.inl ⟨rfl, by have := g10; omega⟩⟩ | exact ⟨rfl, Or.inr ⟨rfl, by have := g10; omega⟩⟩
theorem ct_X9_isCandle (hd : 1 ≤ d) (h0 : 0 ≤ M 135 1 ∧ M 135 1 ≤ 6) {c : Int} : PZ l w yX9_isCandle cX9_isCandle 2 d [vR 134, vI c] M (0 ≤ c ∧ c < M 135 1) := by
  refine MT.of [some (vR 134), some (vI c)] ⟨by decide, rfl⟩ rfl (Nat.le_of_ble_eq_true rfl) (fun hA hM => ?_)
  refine e_iload1 dX9_isCandle_0 ?_
  refine e_iconst dX9_isCandle_1 rfl kc_0 ?_
  refine e_aload0 dX9_isCandle_2 ?_
  refine e_getR fl_X9_7 la_134 rfl dX9_isCandle_3 ?_
  refine e_iconst dX9_isCandle_6 rfl kc_1 ?_
  refine e_ialdK (k := 1) la_135 (by decide) (rfl) dX9_isCandle_7 ?_
  refine e_iconst dX9_isCandle_8 rfl kc_1 ?_
  refine e_isub dX9_isCandle_9 (⟨by omega, by omega⟩) ?_
  refine e_cSZ (ct_X9_in (d := d - 1)) cy_X9_in cs_X9_in ml_X9_120 rfl rfl (rok (by omega) (by decide)) (Nat.le_of_ble_eq_true rfl) dX9_isCandle_10 (fun g10 => ?_) (fun g10 => ?_)
  · refine e_zret dX9_isCandle_13 (by decide) ?_
    first | exact ⟨rfl, Or.inl ⟨rfl, by have := g10; omega⟩⟩ | exact ⟨rfl, Or.inr ⟨rfl, by have := g10; omega⟩⟩
  · refine e_zret dX9_isCandle_13 (by decide) ?_
    first | exact ⟨rfl, Or.inl ⟨rfl, by have := g10; omega⟩⟩ | exact ⟨rfl, Or.inr ⟨rfl, by have := g10; omega⟩⟩
theorem ct_X9_thickOf {c : Nat} (hc : c < 6) : PI l w yX9_thickOf cX9_thickOf 2 d [vR 134, vI (c : Int)] M (M 135 (20 + 2 * c)) M := by
  refine MT.of [some (vR 134), some (vI (c : Int))] ⟨by decide, rfl⟩ rfl (Nat.le_of_ble_eq_true rfl) (fun hA hM => ?_)
  refine e_aload0 dX9_thickOf_0 ?_
  refine e_getR fl_X9_7 la_134 rfl dX9_thickOf_1 ?_
  refine e_bipush dX9_thickOf_4 rfl kb_20 ?_
  refine e_iconst dX9_thickOf_6 rfl kc_2 ?_
  refine e_iload1 dX9_thickOf_7 ?_
  refine e_imul dX9_thickOf_8 (⟨by omega, by omega⟩) ?_
  refine e_iadd dX9_thickOf_9 (⟨by omega, by omega⟩) ?_
  refine e_ialdK (k := 20 + 2 * c) la_135 (by omega) (by omega) dX9_thickOf_10 ?_
  refine e_iret dX9_thickOf_11 ?_
  exact ⟨rfl, rfl⟩
theorem ct_X9_inchesOf {c : Nat} (hc : c < 6) : PI l w yX9_inchesOf cX9_inchesOf 2 d [vR 134, vI (c : Int)] M (M 135 (21 + 2 * c)) M := by
  refine MT.of [some (vR 134), some (vI (c : Int))] ⟨by decide, rfl⟩ rfl (Nat.le_of_ble_eq_true rfl) (fun hA hM => ?_)
  refine e_aload0 dX9_inchesOf_0 ?_
  refine e_getR fl_X9_7 la_134 rfl dX9_inchesOf_1 ?_
  refine e_bipush dX9_inchesOf_4 rfl kb_20 ?_
  refine e_iconst dX9_inchesOf_6 rfl kc_2 ?_
  refine e_iload1 dX9_inchesOf_7 ?_
  refine e_imul dX9_inchesOf_8 (⟨by omega, by omega⟩) ?_
  refine e_iadd dX9_inchesOf_9 (⟨by omega, by omega⟩) ?_
  refine e_iconst dX9_inchesOf_10 rfl kc_1 ?_
  refine e_iadd dX9_inchesOf_11 (⟨by omega, by omega⟩) ?_
  refine e_ialdK (k := 21 + 2 * c) la_135 (by omega) (by omega) dX9_inchesOf_12 ?_
  refine e_iret dX9_inchesOf_13 ?_
  exact ⟨rfl, rfl⟩
theorem ct_X9_ofCandle {c k : Nat} (hc : c < 6) (hk : k < 15) : PI l w yX9_ofCandle cX9_ofCandle 3 d [vR 134, vI (c : Int), vI (k : Int)] M (M 135 (64 + 15 * c + k)) M := by
  refine MT.of [some (vR 134), some (vI (c : Int)), some (vI (k : Int))] ⟨by decide, rfl⟩ rfl (Nat.le_of_ble_eq_true rfl) (fun hA hM => ?_)
  refine e_aload0 dX9_ofCandle_0 ?_
  refine e_getR fl_X9_7 la_134 rfl dX9_ofCandle_1 ?_
  refine e_bipush dX9_ofCandle_4 rfl kb_64 ?_
  refine e_bipush dX9_ofCandle_6 rfl kb_15 ?_
  refine e_iload1 dX9_ofCandle_8 ?_
  refine e_imul dX9_ofCandle_9 (⟨by omega, by omega⟩) ?_
  refine e_iadd dX9_ofCandle_10 (⟨by omega, by omega⟩) ?_
  refine e_iload2 dX9_ofCandle_11 ?_
  refine e_iadd dX9_ofCandle_12 (⟨by omega, by omega⟩) ?_
  refine e_ialdK (k := 64 + 15 * c + k) la_135 (by omega) (by omega) dX9_ofCandle_13 ?_
  refine e_iret dX9_ofCandle_14 ?_
  exact ⟨rfl, rfl⟩
theorem ct_X9_puts {c k : Nat} (hc : c < 6) (hk : k < 15) {v : Int} : PV l w yX9_puts cX9_puts 4 d [vR 134, vI (c : Int), vI (k : Int), vI v] M (up M 135 (64 + 15 * c + k) v) := by
  refine MT.of [some (vR 134), some (vI (c : Int)), some (vI (k : Int)), some (vI v)] ⟨by decide, rfl⟩ rfl (Nat.le_of_ble_eq_true rfl) (fun hA hM => ?_)
  refine e_aload0 dX9_puts_0 ?_
  refine e_getR fl_X9_7 la_134 rfl dX9_puts_1 ?_
  refine e_bipush dX9_puts_4 rfl kb_64 ?_
  refine e_bipush dX9_puts_6 rfl kb_15 ?_
  refine e_iload1 dX9_puts_8 ?_
  refine e_imul dX9_puts_9 (⟨by omega, by omega⟩) ?_
  refine e_iadd dX9_puts_10 (⟨by omega, by omega⟩) ?_
  refine e_iload2 dX9_puts_11 ?_
  refine e_iadd dX9_puts_12 (⟨by omega, by omega⟩) ?_
  refine e_iload3 dX9_puts_13 ?_
  refine e_iastK (k := 64 + 15 * c + k) la_135 (by omega) (by omega) dX9_puts_14 ?_
  refine e_vret dX9_puts_15 ?_
  exact ⟨rfl, rfl⟩
theorem ct_X9_ownerOf {c i : Nat} (hc : c < 6) (hi : i < 12) : PI l w yX9_ownerOf cX9_ownerOf 3 d [vR 134, vI (c : Int), vI (i : Int)] M (M 135 (67 + 15 * c + i)) M := by
  refine MT.of [some (vR 134), some (vI (c : Int)), some (vI (i : Int))] ⟨by decide, rfl⟩ rfl (Nat.le_of_ble_eq_true rfl) (fun hA hM => ?_)
  refine e_aload0 dX9_ownerOf_0 ?_
  refine e_getR fl_X9_7 la_134 rfl dX9_ownerOf_1 ?_
  refine e_bipush dX9_ownerOf_4 rfl kb_64 ?_
  refine e_bipush dX9_ownerOf_6 rfl kb_15 ?_
  refine e_iload1 dX9_ownerOf_8 ?_
  refine e_imul dX9_ownerOf_9 (⟨by omega, by omega⟩) ?_
  refine e_iadd dX9_ownerOf_10 (⟨by omega, by omega⟩) ?_
  refine e_iconst dX9_ownerOf_11 rfl kc_3 ?_
  refine e_iadd dX9_ownerOf_12 (⟨by omega, by omega⟩) ?_
  refine e_iload2 dX9_ownerOf_13 ?_
  refine e_iadd dX9_ownerOf_14 (⟨by omega, by omega⟩) ?_
  refine e_ialdK (k := 67 + 15 * c + i) la_135 (by omega) (by omega) dX9_ownerOf_15 ?_
  refine e_iret dX9_ownerOf_16 ?_
  exact ⟨rfl, rfl⟩
theorem ct_X9_least {x y : Int} : PI l w yX9_least cX9_least 2 d [vI x, vI y] M (min x y) M := by
  refine MT.of [some (vI x), some (vI y)] ⟨by decide, rfl⟩ rfl (Nat.le_of_ble_eq_true rfl) (fun hA hM => ?_)
  refine e_iload0 dX9_least_0 ?_
  refine e_iload1 dX9_least_1 ?_
  refine e_icmp_ge (tgt := 9) dX9_least_2 (by decide) (fun h2 => ?_) (fun h2 => ?_)
  · refine e_iload1 dX9_least_9 ?_
    refine e_iret dX9_least_10 ?_
    exact ⟨rfl, congrArg (fun z => some (vI z)) (by omega)⟩
  · refine e_iload0 dX9_least_5 ?_
    refine e_goto (tgt := 10) dX9_least_6 (by decide) ?_
    refine e_iret dX9_least_10 ?_
    exact ⟨rfl, congrArg (fun z => some (vI z)) (by omega)⟩
theorem ct_X9_bound {x : Int} : PL l w yX9_bound cX9_bound 2 d [vL x] M (clampS x) M := by
  have e : ∀ y, y = clampS x → (fun r M' => M' = M ∧ r = some (vL (clampS x))) (some (vL y)) M := fun y h => by rw [h]; exact ⟨rfl, rfl⟩
  have c1 := cmpL_c x 1000000
  have c2 := cmpL_c x (-1000000)
  refine MT.of [some (vL x), none] ⟨by decide, rfl⟩ rfl (Nat.le_of_ble_eq_true rfl) (fun hA hM => ?_)
  refine e_lload0 dX9_bound_0 ?_
  refine e_ldc2 dX9_bound_1 kl_X9_284 ⟨by decide, by decide⟩ ?_
  refine e_lcmp dX9_bound_4 ?_
  refine e_if_le (tgt := 14) dX9_bound_5 (by decide) (fun h5 => ?_) (fun h5 => ?_)
  · refine e_lload0 dX9_bound_14 ?_
    refine e_ldc2 dX9_bound_15 kl_X9_286 ⟨by decide, by decide⟩ ?_
    refine e_lcmp dX9_bound_18 ?_
    refine e_if_ge (tgt := 28) dX9_bound_19 (by decide) (fun h19 => ?_) (fun h19 => ?_)
    · refine e_lload0 dX9_bound_28 ?_
      refine e_lret dX9_bound_29 ?_
      first | (exfalso; omega) | exact e _ (by unfold clampS; omega)
    · refine e_ldc2 dX9_bound_22 kl_X9_286 ⟨by decide, by decide⟩ ?_
      refine e_goto (tgt := 29) dX9_bound_25 (by decide) ?_
      refine e_lret dX9_bound_29 ?_
      first | (exfalso; omega) | exact e _ (by unfold clampS; omega)
  · refine e_ldc2 dX9_bound_8 kl_X9_284 ⟨by decide, by decide⟩ ?_
    refine e_goto (tgt := 29) dX9_bound_11 (by decide) ?_
    refine e_lret dX9_bound_29 ?_
    first | (exfalso; omega) | exact e _ (by unfold clampS; omega)
theorem ct_X9_held {v a b : Int} (hv : bnd v) : PI l w yX9_held cX9_held 4 d [vL v, vI a, vI b] M (if v < a then a else if v > b then b else v) M := by
  have c1 := cmpL_c v a
  have c2 := cmpL_c v b
  unfold bnd at hv
  refine MT.of [some (vL v), none, some (vI a), some (vI b)] ⟨by decide, rfl⟩ rfl (Nat.le_of_ble_eq_true rfl) (fun hA hM => ?_)
  refine e_lload0 dX9_held_0 ?_
  refine e_iload2 dX9_held_1 ?_
  refine e_i2l dX9_held_2 ?_
  refine e_lcmp dX9_held_3 ?_
  refine e_if_ge (tgt := 11) dX9_held_4 (by decide) (fun h4 => ?_) (fun h4 => ?_)
  · refine e_lload0 dX9_held_11 ?_
    refine e_iload3 dX9_held_12 ?_
    refine e_i2l dX9_held_13 ?_
    refine e_lcmp dX9_held_14 ?_
    refine e_if_le (tgt := 22) dX9_held_15 (by decide) (fun h15 => ?_) (fun h15 => ?_)
    · refine e_lload0 dX9_held_22 ?_
      refine e_l2i dX9_held_23 (⟨by omega, by omega⟩) ?_
      refine e_iret dX9_held_24 ?_
      first | (exfalso; omega) | exact ⟨rfl, by rw [if_pos (by omega)]⟩ | exact ⟨rfl, by rw [if_neg (by omega), if_pos (by omega)]⟩ | exact ⟨rfl, by rw [if_neg (by omega), if_neg (by omega)]⟩
    · refine e_iload3 dX9_held_18 ?_
      refine e_goto (tgt := 24) dX9_held_19 (by decide) ?_
      refine e_iret dX9_held_24 ?_
      first | (exfalso; omega) | exact ⟨rfl, by rw [if_pos (by omega)]⟩ | exact ⟨rfl, by rw [if_neg (by omega), if_pos (by omega)]⟩ | exact ⟨rfl, by rw [if_neg (by omega), if_neg (by omega)]⟩
  · refine e_iload2 dX9_held_7 ?_
    refine e_goto (tgt := 24) dX9_held_8 (by decide) ?_
    refine e_iret dX9_held_24 ?_
    first | (exfalso; omega) | exact ⟨rfl, by rw [if_pos (by omega)]⟩ | exact ⟨rfl, by rw [if_neg (by omega), if_pos (by omega)]⟩ | exact ⟨rfl, by rw [if_neg (by omega), if_neg (by omega)]⟩
theorem ct_X9_rank {x : Int} : PI l w yX9_rank cX9_rank 1 d [vI x] M (if x = 43 ∨ x = 45 then 3 else 4) M := by
  refine MT.of [some (vI x)] ⟨by decide, rfl⟩ rfl (Nat.le_of_ble_eq_true rfl) (fun hA hM => ?_)
  refine e_iload0 dX9_rank_0 ?_
  refine e_bipush dX9_rank_1 rfl kb_43 ?_
  refine e_icmp_eq (tgt := 12) dX9_rank_3 (by decide) (fun h3 => ?_) (fun h3 => ?_)
  · refine e_iconst dX9_rank_12 rfl kc_3 ?_
    refine e_goto (tgt := 17) dX9_rank_13 (by decide) ?_
    refine e_iret dX9_rank_17 ?_
    first | (exfalso; omega) | exact ⟨rfl, by rw [if_pos (by omega)]⟩ | exact ⟨rfl, by rw [if_neg (by omega)]⟩
  · refine e_iload0 dX9_rank_6 ?_
    refine e_bipush dX9_rank_7 rfl kb_45 ?_
    refine e_icmp_ne (tgt := 16) dX9_rank_9 (by decide) (fun h9 => ?_) (fun h9 => ?_)
    · refine e_iconst dX9_rank_16 rfl kc_4 ?_
      refine e_iret dX9_rank_17 ?_
      first | (exfalso; omega) | exact ⟨rfl, by rw [if_pos (by omega)]⟩ | exact ⟨rfl, by rw [if_neg (by omega)]⟩
    · refine e_iconst dX9_rank_12 rfl kc_3 ?_
      refine e_goto (tgt := 17) dX9_rank_13 (by decide) ?_
      refine e_iret dX9_rank_17 ?_
      first | (exfalso; omega) | exact ⟨rfl, by rw [if_pos (by omega)]⟩ | exact ⟨rfl, by rw [if_neg (by omega)]⟩
theorem mulb {x y : Int} (hx : bnd x) (hy : bnd y) : -1000000000000 ≤ x * y ∧ x * y ≤ 1000000000000 := by
  obtain ⟨a, b⟩ := hx
  obtain ⟨c, e⟩ := hy
  have h1 : 0 ≤ (1000000 - x) * (1000000 - y) := Int.mul_nonneg (by omega) (by omega)
  have h2 : 0 ≤ (1000000 + x) * (1000000 + y) := Int.mul_nonneg (by omega) (by omega)
  have h3 : 0 ≤ (1000000 - x) * (1000000 + y) := Int.mul_nonneg (by omega) (by omega)
  have h4 : 0 ≤ (1000000 + x) * (1000000 - y) := Int.mul_nonneg (by omega) (by omega)
  simp only [Int.sub_mul, Int.add_mul, Int.mul_sub, Int.mul_add] at h1 h2 h3 h4
  omega
theorem tdb {x y : Int} (hx : bnd x) : bnd (x.tdiv y) := by
  obtain ⟨a, b⟩ := hx
  have := Int.natAbs_tdiv_le_natAbs x y
  unfold bnd
  omega
/-- the model's sign of a class's code -/
def ofS (o : Int) : Int := if o = 43 then 10008 else if o = 45 then 10009 else if o = 42 then 10010 else 10011
theorem ct_X9_worked (hd : 1 ≤ d) {o x y : Int} (ho : o = 43 ∨ o = 45 ∨ o = 42 ∨ o = 47) (hx : bnd x) (hy : bnd y) : PL l w yX9_worked cX9_worked 5 d [vI o, vL x, vL y] M (comb (ofS o) x y) M := by
  have hm := mulb hx hy
  have ht := tdb (y := y) hx
  have c1 := cmpL_c y 0
  have hx2 : -1000000 ≤ x ∧ x ≤ 1000000 := hx
  have hy2 : -1000000 ≤ y ∧ y ≤ 1000000 := hy
  have hc : ∀ v : Int, bnd v → clampS v = v := fun v h => by unfold clampS; unfold bnd at h; omega
  refine MT.of [some (vI o), some (vL x), none, some (vL y), none] ⟨by decide, rfl⟩ rfl (Nat.le_of_ble_eq_true rfl) (fun hA hM => ?_)
  rcases ho with rfl | rfl | rfl | rfl
  · refine e_iload0 dX9_worked_0 ?_
    refine e_table (tgt := 53) dX9_worked_1 (by decide) (fun _ _ => ⟨31, 32, rfl, by decide, ?_⟩) (fun h => absurd h (by decide))
    refine e_lload1 dX9_worked_32 ?_
    refine e_lload3 dX9_worked_33 ?_
    refine e_ladd dX9_worked_34 (⟨by omega, by omega⟩) ?_
    refine e_cSL (ct_X9_bound (d := d - 1)) cy_X9_bound cs_X9_bound ml_X9_288 rfl rfl (rok (by omega) (by decide)) (Nat.le_of_ble_eq_true rfl) dX9_worked_35 ?_
    refine e_lret dX9_worked_38 ?_
    exact ⟨rfl, rfl⟩
  · refine e_iload0 dX9_worked_0 ?_
    refine e_table (tgt := 53) dX9_worked_1 (by decide) (fun _ _ => ⟨38, 39, rfl, by decide, ?_⟩) (fun h => absurd h (by decide))
    refine e_lload1 dX9_worked_39 ?_
    refine e_lload3 dX9_worked_40 ?_
    refine e_lsub dX9_worked_41 (⟨by omega, by omega⟩) ?_
    refine e_cSL (ct_X9_bound (d := d - 1)) cy_X9_bound cs_X9_bound ml_X9_288 rfl rfl (rok (by omega) (by decide)) (Nat.le_of_ble_eq_true rfl) dX9_worked_42 ?_
    refine e_lret dX9_worked_45 ?_
    exact ⟨rfl, rfl⟩
  · refine e_iload0 dX9_worked_0 ?_
    refine e_table (tgt := 53) dX9_worked_1 (by decide) (fun _ _ => ⟨45, 46, rfl, by decide, ?_⟩) (fun h => absurd h (by decide))
    refine e_lload1 dX9_worked_46 ?_
    refine e_lload3 dX9_worked_47 ?_
    refine e_lmul dX9_worked_48 (⟨by omega, by omega⟩) ?_
    refine e_cSL (ct_X9_bound (d := d - 1)) cy_X9_bound cs_X9_bound ml_X9_288 rfl rfl (rok (by omega) (by decide)) (Nat.le_of_ble_eq_true rfl) dX9_worked_49 ?_
    refine e_lret dX9_worked_52 ?_
    exact ⟨rfl, rfl⟩
  · refine e_iload0 dX9_worked_0 ?_
    refine e_table (tgt := 53) dX9_worked_1 (by decide) (fun h1 h2 => absurd (And.intro h1 h2) (by decide)) (fun _ => ?_)
    refine e_lload3 dX9_worked_53 ?_
    refine e_lconst0 dX9_worked_54 ?_
    refine e_lcmp dX9_worked_55 ?_
    refine e_if_ne (tgt := 63) dX9_worked_56 (by decide) (fun h56 => ?_) (fun h56 => ?_)
    · refine e_lload1 dX9_worked_63 ?_
      refine e_lload3 dX9_worked_64 ?_
      refine e_ldiv dX9_worked_65 (by omega) (⟨by unfold bnd at ht; omega, by unfold bnd at ht; omega⟩) ?_
      refine e_lret dX9_worked_66 ?_
      first | (exfalso; omega) | exact ⟨rfl, by unfold comb; rw [if_neg (by decide), if_neg (by decide), if_neg (by decide), if_pos (by omega)]; rfl⟩ | exact ⟨rfl, by unfold comb; rw [if_neg (by decide), if_neg (by decide), if_neg (by decide), if_neg (by omega), hc _ ht]⟩
    · refine e_lconst0 dX9_worked_59 ?_
      refine e_goto (tgt := 66) dX9_worked_60 (by decide) ?_
      refine e_lret dX9_worked_66 ?_
      first | (exfalso; omega) | exact ⟨rfl, by unfold comb; rw [if_neg (by decide), if_neg (by decide), if_neg (by decide), if_pos (by omega)]; rfl⟩ | exact ⟨rfl, by unfold comb; rw [if_neg (by decide), if_neg (by decide), if_neg (by decide), if_neg (by omega), hc _ ht]⟩
end MOD
