/-! THE MODEL'S ORDERS -/
def facN : Nat → Nat
  | 0 => 1
  | n + 1 => facN n * (n + 1)
def skO (n used : Nat) : Nat → Nat → Nat → Option Nat
  | 0, _, _ => none
  | f + 1, s, i => if i < n then (if used.testBit i then skO n used f s (i + 1) else if 0 < s then skO n used f (s - 1) (i + 1) else some i) else none
def loR (n : Nat) : Nat → Nat → Nat → Nat → Option (List Nat)
  | 0, _, _, _ => some []
  | q + 1, k, left, used => (skO n used 7 (left / facN (n - 1 - k)) 0).bind (fun i => (loR n q (k + 1) (left % facN (n - 1 - k)) (used + 2 ^ i)).map (fun r => i :: r))
theorem lo_all : ∀ n, n < 7 → (List.range (facN n)).map (fun k => loR n n 0 k 0) = (arr n n (2 ^ n - 1)).map some := by decide +kernel
theorem bor_b : ∀ u : Nat, u < 64 → ∀ i : Nat, i < 6 → u.testBit i = false → bOr (u : Int) (bShl 1 (i : Int)) = ((u + 2 ^ i : Nat) : Int) ∧ u + 2 ^ i < 64 := by decide +kernel
theorem fac_b : ∀ n, n < 7 → 1 ≤ facN n ∧ facN n ≤ 720 := by decide
section MORD
variable {l : Launch} {w : Wd} {d : Nat} {M : Mem} {Q : Option MV → Mem → Prop}
theorem rw_loop {n : Nat} (hn : n ≤ 6) (hQ : ∀ v, Q (some (vI (facN n : Int))) v → Q (some (vI (facN n : Int))) v) (h : Q (some (vI (facN n : Int))) M) : ∀ (q k : Nat), 1 ≤ k → k + q = max n 1 → WM l w RX9 cX9_rows 3 (some .int) d Q 4 [some (vI (n : Int)), some (vI (facN k : Int)), some (vI ((k + 1 : Nat) : Int))] [] M
  | 0, k, h1, hk => by
    have e : facN k = facN n := by
      rcases (show n = 0 ∨ 1 ≤ n by omega) with z | z
      · have : k = 1 := by omega
        rw [this, z]
        rfl
      · rw [show k = n by omega]
    refine e_iload2 dX9_rows_4 ?_
    refine e_iload0 dX9_rows_5 ?_
    refine e_icmp_gt (tgt := 19) dX9_rows_6 (by decide) (fun h6 => ?_) (fun h6 => ?_)
    · refine e_iload1 dX9_rows_19 ?_
      refine e_iret dX9_rows_20 ?_
      rw [e]; exact h
    · omega
  | q + 1, k, h1, hk => by
    have ih := rw_loop hn hQ h q (k + 1) (by omega) (by omega)
    have hb := fac_b k (by omega)
    have em : (facN k : Int) * ((k + 1 : Nat) : Int) = ((facN (k + 1) : Nat) : Int) := by show _ = ((facN k * (k + 1) : Nat) : Int); rw [Int.natCast_mul]
    have hb2 := fac_b (k + 1) (by omega)
    refine e_iload2 dX9_rows_4 ?_
    refine e_iload0 dX9_rows_5 ?_
    refine e_icmp_gt (tgt := 19) dX9_rows_6 (by decide) (fun h6 => ?_) (fun h6 => ?_)
    · omega
    · refine e_iload1 dX9_rows_9 ?_
      refine e_iload2 dX9_rows_10 ?_
      refine e_imul dX9_rows_11 (by rw [em]; exact ⟨by omega, by omega⟩) ?_
      refine WW.ec (y := ((facN (k + 1) : Nat) : Int)) (em) ?_
      refine e_istore1 dX9_rows_12 rfl ?_
      refine e_iinc2 dX9_rows_13 rfl (⟨by omega, by omega⟩) rfl ?_
      refine e_goto (tgt := 4) dX9_rows_16 (by decide) ?_
      exact ih
theorem ct_X9_rows {n : Nat} (hn : n ≤ 6) : PI l w yX9_rows cX9_rows 3 d [vI (n : Int)] M (facN n : Int) M := by
  have h := rw_loop (l := l) (w := w) (d := d) (M := M) (Q := fun r M' => M' = M ∧ r = some (vI (facN n : Int))) hn (fun _ h => h) ⟨rfl, rfl⟩ (max n 1 - 1) 1 (Nat.le_refl _) (by omega)
  refine MT.of [some (vI (n : Int)), none, none] ⟨by decide, rfl⟩ rfl (Nat.le_of_ble_eq_true rfl) (fun hA hM => ?_)
  refine e_iconst dX9_rows_0 rfl kc_1 ?_
  refine e_istore1 dX9_rows_1 rfl ?_
  refine e_iconst dX9_rows_2 rfl kc_2 ?_
  refine e_istore2 dX9_rows_3 rfl ?_
  exact h
theorem sk_loop {n used i2 : Nat} (hn : n ≤ 6) (hu : used < 64) {N : Mem} {v1 v2 v3 v5 : Int} (hQ : ∀ s : Nat, WM l w RX9 cX9_laysOrder 8 none d Q 85 [some (vR 134), some (vI v1), some (vI v2), some (vI v3), some (vI (used : Int)), some (vI v5), some (vI (s : Int)), some (vI (i2 : Int))] [] N) :
    ∀ (f s i : Nat), s ≤ 1000 → skO n used f s i = some i2 → WM l w RX9 cX9_laysOrder 8 none d Q 42 [some (vR 134), some (vI v1), some (vI v2), some (vI v3), some (vI (used : Int)), some (vI v5), some (vI (s : Int)), some (vI (i : Int))] [] N
  | 0, s, i, hs, h => by cases h
  | f + 1, s, i, hs, h => by
    unfold skO at h
    by_cases hi : i < n
    · rw [if_pos hi] at h
      have hb := bit_t used (by omega) i (by omega)
      by_cases q : used.testBit i = true
      · rw [if_pos q] at h
        have e := hb.mpr q
        have ih := sk_loop hn hu hQ f s (i + 1) hs h
        rw [show (s : Int) = (s : Int) - 0 by omega] at ih
        refine e_iload4 dX9_laysOrder_42 ?_
        refine e_iload7 dX9_laysOrder_44 ?_
        refine e_ishr dX9_laysOrder_46 ?_
        refine e_iconst dX9_laysOrder_47 rfl kc_1 ?_
        refine e_iand dX9_laysOrder_48 ?_
        refine WW.ec (y := 1) (e) ?_
        refine e_iconst dX9_laysOrder_49 rfl kc_1 ?_
        refine e_icmp_eq (tgt := 58) dX9_laysOrder_50 (by decide) (fun h50 => ?_) (fun h => absurd h (fun z => z rfl))
        refine e_iload6 dX9_laysOrder_58 ?_
        refine e_iload4 dX9_laysOrder_60 ?_
        refine e_iload7 dX9_laysOrder_62 ?_
        refine e_ishr dX9_laysOrder_64 ?_
        refine e_iconst dX9_laysOrder_65 rfl kc_1 ?_
        refine e_iand dX9_laysOrder_66 ?_
        refine WW.ec (y := 1) (e) ?_
        refine e_iconst dX9_laysOrder_67 rfl kc_1 ?_
        refine e_icmp_ne (tgt := 75) dX9_laysOrder_68 (by decide) (fun h => absurd h (fun z => z rfl)) (fun h68 => ?_)
        refine e_iconst dX9_laysOrder_71 rfl kc_0 ?_
        refine e_goto (tgt := 76) dX9_laysOrder_72 (by decide) ?_
        refine e_isub dX9_laysOrder_76 (⟨by omega, by omega⟩) ?_
        refine e_istore6 dX9_laysOrder_77 rfl ?_
        refine e_iinc7 dX9_laysOrder_79 rfl (⟨by omega, by omega⟩) rfl ?_
        refine e_goto (tgt := 42) dX9_laysOrder_82 (by decide) ?_
        exact ih
      · rw [if_neg q] at h
        have e : bAnd (bShr (used : Int) (i : Int)) 1 ≠ 1 := fun z => q (hb.mp z)
        by_cases z : 0 < s
        · rw [if_pos z] at h
          have ih := sk_loop hn hu hQ f (s - 1) (i + 1) (by omega) h
          rw [show (((s - 1 : Nat) : Int)) = (s : Int) - 1 by omega] at ih
          refine e_iload4 dX9_laysOrder_42 ?_
          refine e_iload7 dX9_laysOrder_44 ?_
          refine e_ishr dX9_laysOrder_46 ?_
          refine e_iconst dX9_laysOrder_47 rfl kc_1 ?_
          refine e_iand dX9_laysOrder_48 ?_
          refine e_iconst dX9_laysOrder_49 rfl kc_1 ?_
          refine e_icmp_eq (tgt := 58) dX9_laysOrder_50 (by decide) (fun h => absurd h (fun z => e z)) (fun h50 => ?_)
          refine e_iload6 dX9_laysOrder_53 ?_
          refine e_if_le (tgt := 85) dX9_laysOrder_55 (by decide) (fun h55 => ?_) (fun h55 => ?_)
          · omega
          · refine e_iload6 dX9_laysOrder_58 ?_
            refine e_iload4 dX9_laysOrder_60 ?_
            refine e_iload7 dX9_laysOrder_62 ?_
            refine e_ishr dX9_laysOrder_64 ?_
            refine e_iconst dX9_laysOrder_65 rfl kc_1 ?_
            refine e_iand dX9_laysOrder_66 ?_
            refine e_iconst dX9_laysOrder_67 rfl kc_1 ?_
            refine e_icmp_ne (tgt := 75) dX9_laysOrder_68 (by decide) (fun h68 => ?_) (fun h => absurd h (fun z => e (by omega)))
            refine e_iconst dX9_laysOrder_75 rfl kc_1 ?_
            refine e_isub dX9_laysOrder_76 (⟨by omega, by omega⟩) ?_
            refine e_istore6 dX9_laysOrder_77 rfl ?_
            refine e_iinc7 dX9_laysOrder_79 rfl (⟨by omega, by omega⟩) rfl ?_
            refine e_goto (tgt := 42) dX9_laysOrder_82 (by decide) ?_
            exact ih
        · rw [if_neg z] at h
          have eo : i2 = i := (Option.some.inj h).symm
          subst eo
          have hq := hQ s
          refine e_iload4 dX9_laysOrder_42 ?_
          refine e_iload7 dX9_laysOrder_44 ?_
          refine e_ishr dX9_laysOrder_46 ?_
          refine e_iconst dX9_laysOrder_47 rfl kc_1 ?_
          refine e_iand dX9_laysOrder_48 ?_
          refine e_iconst dX9_laysOrder_49 rfl kc_1 ?_
          refine e_icmp_eq (tgt := 58) dX9_laysOrder_50 (by decide) (fun h => absurd h (fun z => e z)) (fun h50 => ?_)
          refine e_iload6 dX9_laysOrder_53 ?_
          refine e_if_le (tgt := 85) dX9_laysOrder_55 (by decide) (fun h55 => ?_) (fun h55 => ?_)
          · exact hq
          · omega
    · rw [if_neg hi] at h; cases h
end MORD
