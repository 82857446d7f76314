/-! THE MODEL'S SUPPER -/
theorem sk_ok {n used i2 : Nat} : ∀ (f s i : Nat), skO n used f s i = some i2 → i2 < n ∧ used.testBit i2 = false
  | 0, s, i, h => by cases h
  | f + 1, s, i, h => by
    unfold skO at h
    by_cases hi : i < n
    · rw [if_pos hi] at h
      by_cases q : used.testBit i = true
      · rw [if_pos q] at h; exact sk_ok f s (i + 1) h
      · rw [if_neg q] at h
        by_cases z : 0 < s
        · rw [if_pos z] at h; exact sk_ok f (s - 1) (i + 1) h
        · rw [if_neg z] at h
          obtain rfl : i = i2 := Option.some.inj h
          exact ⟨hi, by simpa using q⟩
    · rw [if_neg hi] at h; cases h
theorem arr_ok {n : Nat} : ∀ f s e, e ∈ arr n f s → e.length = f ∧ ∀ g ∈ e, g < n
  | 0, s, e, he => by
    have : e = [] := by simpa [arr] using he
    rw [this]
    exact ⟨rfl, fun g h => by cases h⟩
  | f + 1, s, e, he => by
    unfold arr at he
    obtain ⟨g, hg, hge⟩ := List.mem_flatMap.mp he
    by_cases hs : s.testBit g = true
    · rw [if_pos hs] at hge
      obtain ⟨r, hr, e2⟩ := List.mem_map.mp hge
      subst e2
      have ih := arr_ok f (s - 2 ^ g) r hr
      refine ⟨by rw [List.length_cons, ih.1], fun x hx => ?_⟩
      rcases List.mem_cons.mp hx with z | z
      · rw [z]; exact List.mem_range.mp hg
      · exact ih.2 x z
    · rw [if_neg hs] at hge; cases hge
theorem lo_get {n k : Nat} (hn : n ≤ 6) (hk : k < facN n) : ∃ e, loR n n 0 k 0 = some e ∧ (arr n n (2 ^ n - 1))[k]? = some e := by
  have h := lo_all n (by omega)
  have h1 : ((List.range (facN n)).map (fun k => loR n n 0 k 0))[k]? = some (loR n n 0 k 0) := by
    rw [List.getElem?_map, List.getElem?_range hk]; rfl
  rw [h, List.getElem?_map] at h1
  cases hq : (arr n n (2 ^ n - 1))[k]? with
  | none => rw [hq] at h1; cases h1
  | some e => rw [hq] at h1; exact ⟨e, (Option.some.inj h1).symm, rfl⟩
theorem arr_len {n : Nat} (hn : n ≤ 6) : (arr n n (2 ^ n - 1)).length = facN n := by
  have h := congrArg List.length (lo_all n (by omega))
  rw [List.length_map, List.length_map, List.length_range] at h
  exact h.symm
section MSUP
variable {l : Launch} {w : Wd} {d : Nat} {M : Mem} {Q : Option MV → Mem → Prop}
theorem lo_loop {n : Nat} {v2 : Int} (hn : n ≤ 6) (hd : 1 ≤ d) :
    ∀ (q k left used : Nat) (r : List Nat) (N : Mem) (x6 x7 : Option MV), k + q = n → left ≤ 720 → used < 64 → loR n q k left used = some r → (∀ o, o ≠ 161 → N o = M o) →
    (∀ N1, (∀ o, o ≠ 161 → N1 o = M o) → (∀ j, j < k → N1 161 j = N 161 j) → (∀ j, j < q → N1 161 (k + j) = M 160 (r.getD j 0)) → Q none N1) →
    WM l w RX9 cX9_laysOrder 8 none d Q 8 [some (vR 134), some (vI (n : Int)), some (vI v2), some (vI (left : Int)), some (vI (used : Int)), some (vI (k : Int)), x6, x7] [] N
  | 0, k, left, used, r, N, x6, x7, hk, hl, hu, h, hN, hQ => by
    have hq := hQ N hN (fun _ _ => rfl) (fun j hj => by omega)
    refine e_iload5 dX9_laysOrder_8 ?_
    refine e_iload1 dX9_laysOrder_10 ?_
    refine e_icmp_ge (tgt := 114) dX9_laysOrder_11 (by decide) (fun h11 => ?_) (fun h11 => ?_)
    · refine e_vret dX9_laysOrder_114 ?_
      exact hq
    · omega
  | q + 1, k, left, used, r, N, x6, x7, hk, hl, hu, h, hN, hQ => by
    unfold loR at h
    have hfb := fac_b (n - 1 - k) (by omega)
    generalize hF : facN (n - 1 - k) = F at h hfb
    cases hs : skO n used 7 (left / F) 0 with
    | none => rw [hs] at h; cases h
    | some i2 =>
      rw [hs] at h
      obtain ⟨r1, hr1, er⟩ := Option.map_eq_some_iff.mp (show (loR n q (k + 1) (left % F) (used + 2 ^ i2)).map (fun r => i2 :: r) = some r from h)
      obtain ⟨hi, hb⟩ := sk_ok _ _ _ hs
      obtain ⟨hor, hu2⟩ := bor_b used hu i2 (by omega) hb
      have et := nat_tdiv left F
      have em := nat_tmod left F
      have hd1 : left / F ≤ left := Nat.div_le_self _ _
      have hm1 : left % F ≤ left := Nat.mod_le _ _
      have hrow := ct_X9_rows (l := l) (w := w) (d := d - 1) (M := N) (n := n - 1 - k) (by omega)
      rw [hF] at hrow
      have e160 : N 160 = M 160 := hN 160 (by decide)
      have ih := lo_loop (v2 := v2) hn hd q (k + 1) (left % F) (used + 2 ^ i2) r1 (up N 161 k (M 160 i2)) (some (vI ((0 : Nat) : Int))) (some (vI (i2 : Int))) (by omega) (by omega) hu2 hr1 (fun o ho => by rw [up_row ho]; exact hN o ho) (fun N1 a1 a2 a3 => hQ N1 a1 (fun j hj => by rw [a2 j (by omega), up_k (by omega)]) (fun j hj => by
        subst er
        cases j with
        | zero => rw [Nat.add_zero, a2 k (by omega), up_s]; rfl
        | succ j => rw [show k + (j + 1) = k + 1 + j by omega, a3 j (by omega)]; rfl))
      have ih2 : ∀ s : Nat, WM l w RX9 cX9_laysOrder 8 none d Q 8 [some (vR 134), some (vI (n : Int)), some (vI v2), some (vI ((left % F : Nat) : Int)), some (vI ((used + 2 ^ i2 : Nat) : Int)), some (vI ((k + 1 : Nat) : Int)), some (vI (s : Int)), some (vI (i2 : Int))] [] (up N 161 k (M 160 i2)) := fun s =>
        lo_loop (v2 := v2) hn hd q (k + 1) (left % F) (used + 2 ^ i2) r1 (up N 161 k (M 160 i2)) (some (vI (s : Int))) (some (vI (i2 : Int))) (by omega) (by omega) hu2 hr1 (fun o ho => by rw [up_row ho]; exact hN o ho) (fun N1 a1 a2 a3 => hQ N1 a1 (fun j hj => by rw [a2 j (by omega), up_k (by omega)]) (fun j hj => by
        subst er
        cases j with
        | zero => rw [Nat.add_zero, a2 k (by omega), up_s]; rfl
        | succ j => rw [show k + (j + 1) = k + 1 + j by omega, a3 j (by omega)]; rfl))
      have h42 := sk_loop (l := l) (w := w) (d := d) (Q := Q) (n := n) (used := used) (i2 := i2) (N := N) (v1 := n) (v2 := v2) (v3 := ((left % F : Nat) : Int)) (v5 := k) hn hu (fun s => by
        have ihs := ih2 s
        generalize left % F = lm at ihs
        refine e_iload4 dX9_laysOrder_85 ?_
        refine e_iconst dX9_laysOrder_87 rfl kc_1 ?_
        refine e_iload7 dX9_laysOrder_88 ?_
        refine e_ishl dX9_laysOrder_90 ?_
        refine e_ior dX9_laysOrder_91 ?_
        refine WW.ec (y := ((used + 2 ^ i2 : Nat) : Int)) (hor) ?_
        refine e_istore4 dX9_laysOrder_92 rfl ?_
        refine e_aload0 dX9_laysOrder_94 ?_
        refine e_getR fl_X9_97 la_134 rfl dX9_laysOrder_95 ?_
        refine e_iload5 dX9_laysOrder_98 ?_
        refine e_aload0 dX9_laysOrder_100 ?_
        refine e_getR fl_X9_94 la_134 rfl dX9_laysOrder_101 ?_
        refine e_iload7 dX9_laysOrder_104 ?_
        refine e_ialdK (k := i2) la_160 (by omega) (by omega) dX9_laysOrder_106 ?_
        refine WW.ec (y := M 160 i2) (by rw [e160]) ?_
        refine e_iastK (k := k) la_161 (by omega) (by omega) dX9_laysOrder_107 ?_
        refine e_iinc5 dX9_laysOrder_108 rfl (⟨by omega, by omega⟩) rfl ?_
        refine e_goto (tgt := 8) dX9_laysOrder_111 (by decide) ?_
        exact ihs) 7 (left / F) 0 (by omega) hs
      clear ih ih2
      generalize hgd : left / F = ld at h42 et hd1
      generalize hgm : left % F = lm at h42 em hm1
      refine e_iload5 dX9_laysOrder_8 ?_
      refine e_iload1 dX9_laysOrder_10 ?_
      refine e_icmp_ge (tgt := 114) dX9_laysOrder_11 (by decide) (fun h11 => ?_) (fun h11 => ?_)
      · omega
      · refine e_iload3 dX9_laysOrder_14 ?_
        refine e_iload1 dX9_laysOrder_15 ?_
        refine e_iconst dX9_laysOrder_16 rfl kc_1 ?_
        refine e_isub dX9_laysOrder_17 (⟨by omega, by omega⟩) ?_
        refine e_iload5 dX9_laysOrder_18 ?_
        refine e_isub dX9_laysOrder_20 (⟨by omega, by omega⟩) ?_
        refine WW.ec (y := ((n - 1 - k : Nat) : Int)) (by omega) ?_
        refine e_cSI (hrow) cy_X9_rows cs_X9_rows ml_X9_377 rfl rfl (rok (by omega) (by decide)) (Nat.le_of_ble_eq_true rfl) dX9_laysOrder_21 ?_
        refine e_idiv dX9_laysOrder_24 (by omega) (by rw [et]; exact ⟨by omega, by omega⟩) ?_
        refine WW.ec (y := (ld : Int)) (et) ?_
        refine e_istore6 dX9_laysOrder_25 rfl ?_
        refine e_iload3 dX9_laysOrder_27 ?_
        refine e_iload1 dX9_laysOrder_28 ?_
        refine e_iconst dX9_laysOrder_29 rfl kc_1 ?_
        refine e_isub dX9_laysOrder_30 (⟨by omega, by omega⟩) ?_
        refine e_iload5 dX9_laysOrder_31 ?_
        refine e_isub dX9_laysOrder_33 (⟨by omega, by omega⟩) ?_
        refine WW.ec (y := ((n - 1 - k : Nat) : Int)) (by omega) ?_
        refine e_cSI (hrow) cy_X9_rows cs_X9_rows ml_X9_377 rfl rfl (rok (by omega) (by decide)) (Nat.le_of_ble_eq_true rfl) dX9_laysOrder_34 ?_
        refine e_irem dX9_laysOrder_37 (by omega) (by rw [em]; exact ⟨by omega, by omega⟩) ?_
        refine WW.ec (y := (lm : Int)) (em) ?_
        refine e_istore3 dX9_laysOrder_38 rfl ?_
        refine e_iconst dX9_laysOrder_39 rfl kc_0 ?_
        refine e_istore7 dX9_laysOrder_40 rfl ?_
        exact h42
theorem ct_X9_laysOrder {n k : Nat} {e : List Nat} (hn : n ≤ 6) (hd : 1 ≤ d) (hk : k ≤ 720) (he : loR n n 0 k 0 = some e) : GV l w yX9_laysOrder cX9_laysOrder 8 d [vR 134, vI (n : Int), vI (k : Int)] M (fun N1 => (∀ o, o ≠ 161 → N1 o = M o) ∧ ∀ j, j < n → N1 161 j = M 160 (e.getD j 0)) := by
  have h := lo_loop (l := l) (w := w) (d := d) (M := M) (Q := fun r M1 => r = none ∧ (∀ o, o ≠ 161 → M1 o = M o) ∧ ∀ j, j < n → M1 161 j = M 160 (e.getD j 0)) (n := n) (v2 := k) hn hd n 0 k 0 e M none none (by omega) hk (by decide) he (fun _ _ => rfl) (fun N1 a1 a2 a3 => ⟨rfl, a1, fun j hj => by have := a3 j hj; rw [Nat.zero_add] at this; exact this⟩)
  refine MT.of [some (vR 134), some (vI (n : Int)), some (vI (k : Int)), none, none, none, none, none] ⟨by decide, rfl⟩ rfl (Nat.le_of_ble_eq_true rfl) (fun hA hM => ?_)
  refine e_iload2 dX9_laysOrder_0 ?_
  refine e_istore3 dX9_laysOrder_1 rfl ?_
  refine e_iconst dX9_laysOrder_2 rfl kc_0 ?_
  refine e_istore4 dX9_laysOrder_3 rfl ?_
  refine e_iconst dX9_laysOrder_5 rfl kc_0 ?_
  refine e_istore5 dX9_laysOrder_6 rfl ?_
  exact h
end MSUP
