/-! WAY, its questions -/
def wAt (H B : Nat → Int) : Nat → Nat → Int → Int
  | 0, _, _ => -1
  | n + 1, i, t => if t - B i < 0 then H i else wAt H B n (i + 1) (t - B i)
def oU (O : Nat → Int) : Nat → Int
  | 0 => 1
  | n + 1 => if O n = -1 then oU O n else oU O n * (10 - O n)
def oL (O : Nat → Int) : Nat → Int
  | 0 => 1
  | n + 1 => if O n = -1 then oL O n else oL O n * 10
def bL (O : Nat → Int) : Nat → Int
  | 0 => 0
  | n + 1 => if O n = -1 then bL O n else bL O n * 10 + oU O n * O n
def bU (O H : Nat → Int) (h : Int) : Nat → Int
  | 0 => 0
  | n + 1 => if O n = -1 then bU O H h n else bU O H h n * 10 + (if H n = h then oU O n * O n else 0)
def okO (O : Nat → Int) : Prop := ∀ n, O n = -1 ∨ (0 ≤ O n ∧ O n ≤ 10)
theorem mulNN {a b : Int} (ha : 0 ≤ a) (hb : 0 ≤ b) : 0 ≤ a * b := Int.mul_nonneg ha hb
theorem mulLE {a b A : Int} (ha : 0 ≤ a) (hA : a ≤ A) (hb : 0 ≤ b) (hb2 : b ≤ 10) : a * b ≤ A * 10 := Int.le_trans (Int.mul_le_mul_of_nonneg_right hA hb) (Int.mul_le_mul_of_nonneg_left hb2 (Int.le_trans ha hA))
theorem oUL {O : Nat → Int} (h : okO O) : ∀ n, 0 ≤ oU O n ∧ oU O n ≤ oL O n ∧ 1 ≤ oL O n ∧ oL O n ≤ 10 ^ n
  | 0 => ⟨by simp [oU], by simp [oU, oL], by simp [oL], by simp [oL]⟩
  | n + 1 => by
    have hi := oUL h n
    have hp : (10 : Int) ^ (n + 1) = 10 ^ n * 10 := Int.pow_succ _ _
    rcases h n with q | q
    · rw [oU, oL, if_pos q, if_pos q]
      exact ⟨hi.1, hi.2.1, hi.2.2.1, by omega⟩
    · rw [oU, oL, if_neg (by omega), if_neg (by omega)]
      have h1 := mulNN hi.1 (show 0 ≤ 10 - O n by omega)
      have h2 := mulLE hi.1 hi.2.1 (show 0 ≤ 10 - O n by omega) (by omega)
      exact ⟨h1, h2, by omega, by omega⟩
theorem bLb {O : Nat → Int} (h : okO O) : ∀ n, 0 ≤ bL O n ∧ bL O n + oU O n = oL O n
  | 0 => ⟨by simp [bL], by simp [bL, oU, oL]⟩
  | n + 1 => by
    have hi := bLb h n
    have hu := oUL h n
    rcases h n with q | q
    · rw [bL, oU, oL, if_pos q, if_pos q, if_pos q]
      exact hi
    · rw [bL, oU, oL, if_neg (by omega), if_neg (by omega), if_neg (by omega)]
      have h1 := mulNN hu.1 q.1
      have e : oU O n * (10 - O n) = oU O n * 10 - oU O n * O n := Int.mul_sub _ _ _
      exact ⟨by omega, by rw [e]; omega⟩
theorem bUb {O H : Nat → Int} {a : Int} (h : okO O) : ∀ n, 0 ≤ bU O H a n ∧ bU O H a n ≤ bL O n
  | 0 => ⟨by simp [bU], by simp [bU, bL]⟩
  | n + 1 => by
    have hi := bUb (H := H) (a := a) h n
    have hu := oUL h n
    rcases h n with q | q
    · rw [bU, bL, if_pos q, if_pos q]
      exact hi
    · have hq : ¬ O n = -1 := by omega
      rw [bU, bL, if_neg hq, if_neg hq]
      have h1 := mulNN hu.1 q.1
      generalize oU O n * O n = z at h1 ⊢
      by_cases e : H n = a
      · rw [if_pos e]; omega
      · rw [if_neg e]; omega
theorem pow12 {n : Nat} (h : n ≤ 12) : (10 : Int) ^ n ≤ 1000000000000 := by
  rcases (show n = 0 ∨ n = 1 ∨ n = 2 ∨ n = 3 ∨ n = 4 ∨ n = 5 ∨ n = 6 ∨ n = 7 ∨ n = 8 ∨ n = 9 ∨ n = 10 ∨ n = 11 ∨ n = 12 by omega) with rfl | rfl | rfl | rfl | rfl | rfl | rfl | rfl | rfl | rfl | rfl | rfl | rfl <;> decide
/-- Euclid: two rounds at least halve the rest -/
theorem halves {a b k : Nat} (hb : b < 2 ^ (k + 1)) (h0 : b ≠ 0) (h1 : a % b ≠ 0) : b % (a % b) < 2 ^ k := by
  have h2 : a % b < b := Nat.mod_lt _ (by omega)
  have h3 : b % (a % b) < a % b := Nat.mod_lt _ (by omega)
  have h4 := Nat.div_add_mod b (a % b)
  have h5 : 1 ≤ b / (a % b) := (Nat.one_le_div_iff (by omega)).mpr (by omega)
  have h6 : (a % b) * 1 ≤ (a % b) * (b / (a % b)) := Nat.mul_le_mul_left _ h5
  have h7 : (2 : Nat) ^ (k + 1) = 2 ^ k * 2 := Nat.pow_succ 2 k
  omega
section WAY2
variable {l : Launch} {w : Wd} {d : Nat} {M : Mem} {Q : Option MV → Mem → Prop}
theorem lp_X6_cd (hd : 1 ≤ d) {x0 y0 : Int} {g : Nat} (k : ∀ (i r : Int) (x9 : Option MV), WM l w RX6 cX6_commonDivisor 11 (some .long) d Q 45 [some (vL x0), none, some (vL y0), none, some (vL (g : Int)), none, some (vL r), none, some (vI i), x9, none] [] M) :
    ∀ (n : Nat) (a b i : Nat) (x9 : Option MV), isL x9 = isL x9 → i + 2 * n ≤ 198 → b < 2 ^ n → a < 4611686018427387904 → b < 4611686018427387904 → Nat.gcd a b = g →
      WM l w RX6 cX6_commonDivisor 11 (some .long) d Q 9 [some (vL x0), none, some (vL y0), none, some (vL (a : Int)), none, some (vL (b : Int)), none, some (vI (i : Int)), x9, none] [] M := by
  have zero : ∀ (a i : Nat) (x9 : Option MV), i ≤ 199 → a = g → WM l w RX6 cX6_commonDivisor 11 (some .long) d Q 9 [some (vL x0), none, some (vL y0), none, some (vL (a : Int)), none, some (vL 0), none, some (vI (i : Int)), x9, none] [] M := by
    intro a i x9 hi ha
    subst ha
    refine e_iload8 dX6_commonDivisor_9 ?_
    refine e_sipush dX6_commonDivisor_11 rfl ks_200 ?_
    refine e_icmp_ge (tgt := 45) dX6_commonDivisor_14 (by decide) (fun h => absurd h (by omega)) (fun h14 => ?_)
    refine e_lload6 dX6_commonDivisor_17 ?_
    refine e_lconst0 dX6_commonDivisor_19 ?_
    refine e_lcmp dX6_commonDivisor_20 ?_
    refine WW.ec (y := 0) (by decide) ?_
    refine e_if_eq (tgt := 45) dX6_commonDivisor_21 (by decide) (fun h21 => ?_) (fun h => absurd h (by decide))
    exact k _ _ _
  have one : ∀ (a b i : Nat) (x9 : Option MV), i ≤ 198 → b ≠ 0 → a < 4611686018427387904 → b < 4611686018427387904 → WM l w RX6 cX6_commonDivisor 11 (some .long) d Q 9 [some (vL x0), none, some (vL y0), none, some (vL (b : Int)), none, some (vL ((a % b : Nat) : Int)), none, some (vI ((i + 1 : Nat) : Int)), some (vL ((a % b : Nat) : Int)), none] [] M → WM l w RX6 cX6_commonDivisor 11 (some .long) d Q 9 [some (vL x0), none, some (vL y0), none, some (vL (a : Int)), none, some (vL (b : Int)), none, some (vI (i : Int)), x9, none] [] M := by
    intro a b i x9 hi hb ha hb2 kk
    have hc : cmpL (b : Int) 0 = 1 := by unfold cmpL; rw [if_pos (by omega)]
    have hm : ((a : Int)).tmod (b : Int) = ((a % b : Nat) : Int) := by rw [Int.tmod_eq_emod_of_nonneg (by omega)]; rfl
    have hlt : a % b < b := Nat.mod_lt _ (by omega)
    refine e_iload8 dX6_commonDivisor_9 ?_
    refine e_sipush dX6_commonDivisor_11 rfl ks_200 ?_
    refine e_icmp_ge (tgt := 45) dX6_commonDivisor_14 (by decide) (fun h => absurd h (by omega)) (fun h14 => ?_)
    refine e_lload6 dX6_commonDivisor_17 ?_
    refine e_lconst0 dX6_commonDivisor_19 ?_
    refine e_lcmp dX6_commonDivisor_20 ?_
    refine WW.ec (y := 1) (hc) ?_
    refine e_if_eq (tgt := 45) dX6_commonDivisor_21 (by decide) (fun h => absurd h (by decide)) (fun h21 => ?_)
    refine e_lload4 dX6_commonDivisor_24 ?_
    refine e_lload6 dX6_commonDivisor_26 ?_
    refine e_lrem dX6_commonDivisor_28 (by omega) (by rw [hm]; exact ⟨by omega, by omega⟩) ?_
    rw [hm]
    refine e_lstore9 dX6_commonDivisor_29 rfl ?_
    refine e_lload6 dX6_commonDivisor_31 ?_
    refine e_lstore4 dX6_commonDivisor_33 rfl ?_
    refine e_lload9 dX6_commonDivisor_35 ?_
    refine e_lstore6 dX6_commonDivisor_37 rfl ?_
    refine e_iinc8 dX6_commonDivisor_39 rfl (⟨by omega, by omega⟩) rfl ?_
    refine e_goto (tgt := 9) dX6_commonDivisor_42 (by decide) ?_
    exact kk
  intro n
  induction n with
  | zero =>
    intro a b i x9 _ hi hb ha hb2 hg
    obtain rfl : b = 0 := by omega
    exact zero a i x9 (by omega) (by rw [← hg, Nat.gcd_zero_right])
  | succ n ih =>
    intro a b i x9 _ hi hb ha hb2 hg
    by_cases h0 : b = 0
    · subst h0
      exact zero a i x9 (by omega) (by rw [← hg, Nat.gcd_zero_right])
    · have hlt : a % b < b := Nat.mod_lt _ (by omega)
      refine one a b i x9 (by omega) h0 ha hb2 ?_
      have hg1 : Nat.gcd b (a % b) = g := by rw [← hg, Nat.gcd_comm a b, Nat.gcd_rec b a, Nat.gcd_comm]
      by_cases h1 : a % b = 0
      · rw [h1]
        exact zero b (i + 1) _ (by omega) (by rw [← hg1, h1, Nat.gcd_zero_right])
      · have hlt2 : b % (a % b) < a % b := Nat.mod_lt _ (by omega)
        refine one b (a % b) (i + 1) _ (by omega) h1 hb2 (by omega) ?_
        exact ih (a % b) (b % (a % b)) (i + 1 + 1) _ rfl (by omega) (halves hb h0 h1) (by omega) (by omega) (by rw [← hg1, Nat.gcd_comm b, Nat.gcd_rec (a % b) b, Nat.gcd_comm])
theorem ct_X6_commonDivisor (hd : 1 ≤ d) {a b : Int} (ha : 0 ≤ a ∧ a ≤ 1000000000000) (hb : 0 ≤ b ∧ b ≤ 1000000000000) : PL l w yX6_commonDivisor cX6_commonDivisor 11 d [vL a, vL b] M ((Nat.gcd a.toNat b.toNat : Nat) : Int) M := by
  obtain ⟨a, rfl⟩ : ∃ n : Nat, a = n := ⟨a.toNat, by omega⟩
  obtain ⟨b, rfl⟩ : ∃ n : Nat, b = n := ⟨b.toNat, by omega⟩
  refine MT.of [some (vL a), none, some (vL b), none, none, none, none, none, none, none, none] ⟨by decide, rfl⟩ rfl (Nat.le_of_ble_eq_true rfl) (fun hA hM => ?_)
  refine e_lload0 dX6_commonDivisor_0 ?_
  refine e_lstore4 dX6_commonDivisor_1 rfl ?_
  refine e_lload2 dX6_commonDivisor_3 ?_
  refine e_lstore6 dX6_commonDivisor_4 rfl ?_
  refine e_iconst dX6_commonDivisor_6 rfl kc_0 ?_
  refine e_istore8 dX6_commonDivisor_7 rfl ?_
  refine lp_X6_cd hd (g := Nat.gcd a b) (fun i r x9 => ?_) 40 a b 0 none rfl (by omega) (by omega) (by omega) (by omega) rfl
  refine e_lload4 dX6_commonDivisor_45 ?_
  exact e_lret dX6_commonDivisor_47 ⟨rfl, rfl⟩
/-- in lowest terms -/
theorem ct_X6_shorten (hd : 2 ≤ d) (hu : 0 ≤ M 122 7 ∧ M 122 7 ≤ 1000000000000) (hl : 1 ≤ M 122 8 ∧ M 122 8 ≤ 1000000000000) :
    PV l w yX6_shorten cX6_shorten 3 d [vR 122] M (up (up M 122 7 (M 122 7 / (Nat.gcd (M 122 7).toNat (M 122 8).toNat : Nat))) 122 8 (M 122 8 / (Nat.gcd (M 122 7).toNat (M 122 8).toNat : Nat))) := by
  have hg : 1 ≤ Nat.gcd (M 122 7).toNat (M 122 8).toNat := Nat.gcd_pos_of_pos_right _ (by omega)
  have hg2 : Nat.gcd (M 122 7).toNat (M 122 8).toNat ≤ (M 122 8).toNat := Nat.gcd_le_right _ (by omega)
  generalize hgg : Nat.gcd (M 122 7).toNat (M 122 8).toNat = g at *
  have d1 : (M 122 7).tdiv (g : Int) = M 122 7 / (g : Int) := Int.tdiv_eq_ediv_of_nonneg hu.1
  have d2 : (M 122 8).tdiv (g : Int) = M 122 8 / (g : Int) := Int.tdiv_eq_ediv_of_nonneg (by omega)
  have b1 : 0 ≤ M 122 7 / (g : Int) ∧ M 122 7 / (g : Int) ≤ 1000000000000 := ⟨Int.ediv_nonneg hu.1 (by omega), Int.le_trans (Int.ediv_le_self _ hu.1) hu.2⟩
  have b2 : 0 ≤ M 122 8 / (g : Int) ∧ M 122 8 / (g : Int) ≤ 1000000000000 := ⟨Int.ediv_nonneg (by omega) (by omega), Int.le_trans (Int.ediv_le_self _ (by omega)) hl.2⟩
  by_cases h1 : g = 1
  · subst h1
    refine MT.of [some (vR 122), none, none] ⟨by decide, rfl⟩ rfl (Nat.le_of_ble_eq_true rfl) (fun hA hM => ?_)
    refine e_aload0 dX6_shorten_0 ?_
    refine e_getL fl_X6_28 la_122 rfl dX6_shorten_1 ?_
    refine e_aload0 dX6_shorten_4 ?_
    refine e_getL fl_X6_32 la_122 rfl dX6_shorten_5 ?_
    refine e_cSL (ct_X6_commonDivisor (d := d - 1) (by omega) hu ⟨by omega, hl.2⟩) cy_X6_commonDivisor cs_X6_commonDivisor ml_X6_79 rfl rfl (rok (by omega) (by decide)) (Nat.le_of_ble_eq_true rfl) dX6_shorten_8 ?_
    rw [hgg]
    refine e_lstore1 dX6_shorten_11 rfl ?_
    refine e_lload1 dX6_shorten_12 ?_
    refine e_lconst1 dX6_shorten_13 ?_
    refine e_lcmp dX6_shorten_14 ?_
    refine WW.ec (y := 0) (by decide) ?_
    refine e_if_le (tgt := 38) dX6_shorten_15 (by decide) (fun h15 => ?_) (fun h => absurd h (by decide))
    refine e_vret dX6_shorten_38 ?_
    refine ⟨?_, rfl⟩
    simp only [Int.natCast_one, Int.ediv_one]
    funext o k
    simp only [up]
    split
    · rename_i q; rw [q.1, q.2]
    · split
      · rename_i q; rw [q.1, q.2]
      · rfl
  · have hc : cmpL (g : Int) 1 = 1 := by unfold cmpL; rw [if_pos (by omega)]
    refine MT.of [some (vR 122), none, none] ⟨by decide, rfl⟩ rfl (Nat.le_of_ble_eq_true rfl) (fun hA hM => ?_)
    refine e_aload0 dX6_shorten_0 ?_
    refine e_getL fl_X6_28 la_122 rfl dX6_shorten_1 ?_
    refine e_aload0 dX6_shorten_4 ?_
    refine e_getL fl_X6_32 la_122 rfl dX6_shorten_5 ?_
    refine e_cSL (ct_X6_commonDivisor (d := d - 1) (by omega) hu ⟨by omega, hl.2⟩) cy_X6_commonDivisor cs_X6_commonDivisor ml_X6_79 rfl rfl (rok (by omega) (by decide)) (Nat.le_of_ble_eq_true rfl) dX6_shorten_8 ?_
    rw [hgg]
    refine e_lstore1 dX6_shorten_11 rfl ?_
    refine e_lload1 dX6_shorten_12 ?_
    refine e_lconst1 dX6_shorten_13 ?_
    refine e_lcmp dX6_shorten_14 ?_
    refine WW.ec (y := 1) (hc) ?_
    refine e_if_le (tgt := 38) dX6_shorten_15 (by decide) (fun h => absurd h (by decide)) (fun h15 => ?_)
    refine e_aload0 dX6_shorten_18 ?_
    refine e_dup dX6_shorten_19 rfl ?_
    refine e_getL fl_X6_28 la_122 rfl dX6_shorten_20 ?_
    refine e_lload1 dX6_shorten_23 ?_
    refine e_ldiv dX6_shorten_24 (by omega) (by rw [d1]; exact ⟨by omega, by omega⟩) ?_
    rw [d1]
    refine e_putL fp_X6_28 la_122 rfl dX6_shorten_25 ?_
    refine e_aload0 dX6_shorten_28 ?_
    refine e_dup dX6_shorten_29 rfl ?_
    refine e_getL fl_X6_32 la_122 rfl dX6_shorten_30 ?_
    rw [show up M 122 7 (M 122 7 / (g : Int)) 122 8 = M 122 8 by simp [up]]
    refine e_lload1 dX6_shorten_33 ?_
    refine e_ldiv dX6_shorten_34 (by omega) (by rw [d2]; exact ⟨by omega, by omega⟩) ?_
    rw [d2]
    refine e_putL fp_X6_32 la_122 rfl dX6_shorten_35 ?_
    refine e_vret dX6_shorten_38 ?_
    exact ⟨rfl, rfl⟩
theorem ct_X6_plan (hd : 6 ≤ d) (hL : LW M) (hO : OWN M) {c : Int} : GI l w yX6_plan cX6_plan 6 .boolean d [vR 122, vI c] M (fun x M1 => (x = 1 ∧ hasW M c ∧ ∃ nx ln : Nat, M 10 c.toNat = nx ∧ M 7 c.toNat = ln ∧ WP M c.toNat nx ln (ln - nx) M1) ∨ (x = 0 ∧ ¬ hasW M c ∧ FrS M M1)) := by
  have hI := hL.1
  have hb := hI.2.1
  have f0 : FrS M (up (up M 122 5 0) 122 6 0) := ((FrS.rf M).up (by omega)).up (by omega)
  by_cases hc : isC M c
  · obtain ⟨c, rfl⟩ : ∃ n : Nat, c = n := ⟨c.toNat, by omega⟩
    have hlen := hI.len hc
    have hnx0 := hO.2 _ hc
    rw [Int.toNat_natCast] at hlen hnx0
    obtain ⟨nx, hnx⟩ : ∃ n : Nat, M 10 c = n := ⟨(M 10 c).toNat, by omega⟩
    obtain ⟨ln, hln⟩ : ∃ n : Nat, M 7 c = n := ⟨(M 7 c).toNat, by omega⟩
    have f1 : FrS M (up (up (up M 122 5 0) 122 6 0) 122 4 c) := f0.up (by omega)
    have start : isH M (stH M c) → M 8 c ≠ 3 → WM l w RX6 cX6_plan 6 (some .boolean) d (fun r M' => ∃ x, r = some (vI x) ∧ ((x = 1 ∧ hasW M c ∧ ∃ nx ln : Nat, M 10 (c : Int).toNat = nx ∧ M 7 (c : Int).toNat = ln ∧ WP M (c : Int).toNat nx ln (ln - nx) M') ∨ (x = 0 ∧ ¬ hasW M c ∧ FrS M M'))) 97 [some (vR 122), some (vI c), some (vI (stH M c)), none, none, none] [] (up (up (up M 122 5 0) 122 6 0) 122 4 c) := by
      intro hs h3
      have hw : hasW M c := ⟨hc, by rw [Int.toNat_natCast]; exact h3, by rw [Int.toNat_natCast]; exact hs⟩
      have fin : ∀ (M1 : Mem) (h i : Int) (x4 x5 : Option MV), WP M c nx ln (ln - nx) M1 → WM l w RX6 cX6_plan 6 (some .boolean) d (fun r M' => ∃ x, r = some (vI x) ∧ ((x = 1 ∧ hasW M c ∧ ∃ nx ln : Nat, M 10 (c : Int).toNat = nx ∧ M 7 (c : Int).toNat = ln ∧ WP M (c : Int).toNat nx ln (ln - nx) M') ∨ (x = 0 ∧ ¬ hasW M c ∧ FrS M M'))) 251 [some (vR 122), some (vI c), some (vI h), some (vI i), x4, x5] [] M1 := by
        intro M1 h i x4 x5 hW
        refine e_iconst dX6_plan_251 rfl kc_1 ?_
        exact e_zret dX6_plan_252 (Or.inr rfl) ⟨1, rfl, Or.inl ⟨rfl, hw, nx, ln, by rw [Int.toNat_natCast]; exact hnx, by rw [Int.toNat_natCast]; exact hln, by rw [Int.toNat_natCast]; exact hW⟩⟩
      have hW0 : WP M c nx ln 0 (up (up (up (up (up M 122 5 0) 122 6 0) 122 4 c) 122 5 nx) 122 6 ln) := ⟨((f1.up (by omega)).up (by omega)), by simp [up], fun m hm => absurd hm (by omega)⟩
      by_cases hlt : nx < ln
      · refine e_aload0 dX6_plan_97 ?_
        refine e_aload0 dX6_plan_98 ?_
        refine e_getR fl_X6_35 la_122 rfl dX6_plan_99 ?_
        refine e_getR fl_X6_62 la_1 rfl dX6_plan_102 ?_
        refine e_aload0 dX6_plan_105 ?_
        refine e_getI fl_X6_18 la_122 rfl dX6_plan_106 ?_
        refine WW.ec (y := (c : Int)) (by simp [up]) ?_
        refine e_iald la_10 (⟨by omega, by omega⟩) dX6_plan_109 ?_
        refine WW.ec (y := (nx : Int)) (by rw [Int.toNat_natCast, f1 10 (by omega)]; exact hnx) ?_
        refine e_putI fp_X6_22 la_122 rfl dX6_plan_110 ?_
        refine e_aload0 dX6_plan_113 ?_
        refine e_aload0 dX6_plan_114 ?_
        refine e_getR fl_X6_35 la_122 rfl dX6_plan_115 ?_
        refine e_getR fl_X6_65 la_1 rfl dX6_plan_118 ?_
        refine e_aload0 dX6_plan_121 ?_
        refine e_getI fl_X6_18 la_122 rfl dX6_plan_122 ?_
        refine WW.ec (y := (c : Int)) (by simp [up]) ?_
        refine e_iald la_7 (⟨by omega, by omega⟩) dX6_plan_125 ?_
        refine WW.ec (y := (ln : Int)) (by rw [up_row (by decide), Int.toNat_natCast, f1 7 (by omega)]; exact hln) ?_
        refine e_putI fp_X6_25 la_122 rfl dX6_plan_126 ?_
        refine e_aload0 dX6_plan_129 ?_
        refine e_getI fl_X6_22 la_122 rfl dX6_plan_130 ?_
        refine WW.ec (y := (nx : Int)) (by simp [up]) ?_
        refine e_istore3 dX6_plan_133 rfl ?_
        generalize hB : up (up (up (up (up M 122 5 0) 122 6 0) 122 4 c) 122 5 nx) 122 6 ln = B at hW0 ⊢
        refine e_iload3 dX6_plan_134 ?_
        refine e_if_lt (tgt := 251) dX6_plan_135 (by decide) (fun h => absurd h (by omega)) (fun h135 => ?_)
        refine e_iload3 dX6_plan_138 ?_
        refine e_aload0 dX6_plan_139 ?_
        refine e_getI fl_X6_25 la_122 rfl dX6_plan_140 ?_
        refine WW.ec (y := (ln : Int)) (hW0.2.1.2.2) ?_
        refine e_icmp_ge (tgt := 251) dX6_plan_143 (by decide) (fun h => absurd h (by omega)) (fun h143 => ?_)
        refine e_iload3 dX6_plan_146 ?_
        refine e_bipush dX6_plan_147 rfl kb_12 ?_
        refine e_icmp_ge (tgt := 251) dX6_plan_149 (by decide) (fun h => absurd h (by omega)) (fun h149 => ?_)
        refine e_iload3 dX6_plan_152 ?_
        refine e_aload0 dX6_plan_153 ?_
        refine e_getI fl_X6_22 la_122 rfl dX6_plan_154 ?_
        refine WW.ec (y := (nx : Int)) (hW0.2.1.2.1) ?_
        refine e_icmp_ne (tgt := 164) dX6_plan_157 (by decide) (fun h => absurd h (fun q => q rfl)) (fun h157 => ?_)
        refine e_iconst dX6_plan_160 rfl kc_m1 ?_
        refine e_goto (tgt := 176) dX6_plan_161 (by decide) ?_
        refine e_istore4 dX6_plan_176 rfl ?_
        refine e_iload4 dX6_plan_178 ?_
        refine e_iconst dX6_plan_180 rfl kc_m1 ?_
        refine e_icmp_eq (tgt := 194) dX6_plan_181 (by decide) (fun _ => ?_) (fun h => absurd h (by decide))
        refine e_iconst dX6_plan_194 rfl kc_0 ?_
        refine e_istore5 dX6_plan_195 rfl ?_
        refine e_iload5 dX6_plan_197 ?_
        refine e_if_eq (tgt := 207) dX6_plan_199 (by decide) (fun _ => ?_) (fun h => absurd h (by decide))
        refine e_iload2 dX6_plan_207 ?_
        refine e_istore2 dX6_plan_208 rfl ?_
        refine e_aload0 dX6_plan_209 ?_
        refine e_getR fl_X6_9 la_122 rfl dX6_plan_210 ?_
        refine e_iload3 dX6_plan_213 ?_
        refine e_iload2 dX6_plan_214 ?_
        refine e_iast la_123 (⟨by omega, by omega⟩) dX6_plan_215 ?_
        refine e_aload0 dX6_plan_216 ?_
        refine e_getR fl_X6_15 la_122 rfl dX6_plan_217 ?_
        refine e_iload3 dX6_plan_220 ?_
        refine e_iload5 dX6_plan_221 ?_
        refine e_if_eq (tgt := 243) dX6_plan_223 (by decide) (fun _ => ?_) (fun h => absurd h (by decide))
        refine e_iconst dX6_plan_243 rfl kc_m1 ?_
        refine e_iast la_124 (⟨by omega, by omega⟩) dX6_plan_244 ?_
        refine e_iinc3 dX6_plan_245 rfl (⟨by omega, by omega⟩) rfl ?_
        refine e_goto (tgt := 134) dX6_plan_248 (by decide) ?_
        refine WW.cv ?_ rfl ?_ (lp_X6_plan (by omega) hL hO hc hs hnx hln fin (ln - nx - 1) 0 _ (some (vI (-1))) (some (vI 0)) rfl (by omega) (hW0.put (a := stH M c) (b := -1) rfl rfl))
        · simp; rfl
        · rfl
      · refine e_aload0 dX6_plan_97 ?_
        refine e_aload0 dX6_plan_98 ?_
        refine e_getR fl_X6_35 la_122 rfl dX6_plan_99 ?_
        refine e_getR fl_X6_62 la_1 rfl dX6_plan_102 ?_
        refine e_aload0 dX6_plan_105 ?_
        refine e_getI fl_X6_18 la_122 rfl dX6_plan_106 ?_
        refine WW.ec (y := (c : Int)) (by simp [up]) ?_
        refine e_iald la_10 (⟨by omega, by omega⟩) dX6_plan_109 ?_
        refine WW.ec (y := (nx : Int)) (by rw [Int.toNat_natCast, f1 10 (by omega)]; exact hnx) ?_
        refine e_putI fp_X6_22 la_122 rfl dX6_plan_110 ?_
        refine e_aload0 dX6_plan_113 ?_
        refine e_aload0 dX6_plan_114 ?_
        refine e_getR fl_X6_35 la_122 rfl dX6_plan_115 ?_
        refine e_getR fl_X6_65 la_1 rfl dX6_plan_118 ?_
        refine e_aload0 dX6_plan_121 ?_
        refine e_getI fl_X6_18 la_122 rfl dX6_plan_122 ?_
        refine WW.ec (y := (c : Int)) (by simp [up]) ?_
        refine e_iald la_7 (⟨by omega, by omega⟩) dX6_plan_125 ?_
        refine WW.ec (y := (ln : Int)) (by rw [up_row (by decide), Int.toNat_natCast, f1 7 (by omega)]; exact hln) ?_
        refine e_putI fp_X6_25 la_122 rfl dX6_plan_126 ?_
        refine e_aload0 dX6_plan_129 ?_
        refine e_getI fl_X6_22 la_122 rfl dX6_plan_130 ?_
        refine WW.ec (y := (nx : Int)) (by simp [up]) ?_
        refine e_istore3 dX6_plan_133 rfl ?_
        generalize hB : up (up (up (up (up M 122 5 0) 122 6 0) 122 4 c) 122 5 nx) 122 6 ln = B at hW0 ⊢
        refine e_iload3 dX6_plan_134 ?_
        refine e_if_lt (tgt := 251) dX6_plan_135 (by decide) (fun h => absurd h (by omega)) (fun h135 => ?_)
        refine e_iload3 dX6_plan_138 ?_
        refine e_aload0 dX6_plan_139 ?_
        refine e_getI fl_X6_25 la_122 rfl dX6_plan_140 ?_
        refine WW.ec (y := (ln : Int)) (hW0.2.1.2.2) ?_
        refine e_icmp_ge (tgt := 251) dX6_plan_143 (by decide) (fun h143 => ?_) (fun h => absurd h (by omega))
        exact fin _ _ _ _ _ (by rw [show ln - nx = 0 by omega]; exact hW0)
    by_cases h3 : M 8 c = 3
    · have hw : ¬ hasW M c := fun q => q.2.1 (by rw [Int.toNat_natCast]; exact h3)
      refine MT.of [some (vR 122), some (vI c), none, none, none, none] ⟨by decide, rfl⟩ rfl (Nat.le_of_ble_eq_true rfl) (fun hA hM => ?_)
      refine e_aload0 dX6_plan_0 ?_
      refine e_iconst dX6_plan_1 rfl kc_0 ?_
      refine e_putI fp_X6_22 la_122 rfl dX6_plan_2 ?_
      refine e_aload0 dX6_plan_5 ?_
      refine e_iconst dX6_plan_6 rfl kc_0 ?_
      refine e_putI fp_X6_25 la_122 rfl dX6_plan_7 ?_
      refine e_aload0 dX6_plan_10 ?_
      refine e_getR fl_X6_35 la_122 rfl dX6_plan_11 ?_
      refine e_iload1 dX6_plan_14 ?_
      refine e_cVZ (ct_X0_isCandle (d := d - 1) (by omega)) cy_X0_isCandle cv_X0_isCandle ml_X6_43 la_1 rfl rfl rfl (rok (by omega) (by decide)) (Nat.le_of_ble_eq_true rfl) dX6_plan_15 (fun g15 => ?_) (fun g15 => ?_)
      · refine e_if_eq (tgt := 34) dX6_plan_18 (by decide) (fun h => absurd h (by decide)) (fun _ => ?_)
        refine e_aload0 dX6_plan_21 ?_
        refine e_getR fl_X6_35 la_122 rfl dX6_plan_22 ?_
        refine e_getR fl_X6_49 la_1 rfl dX6_plan_25 ?_
        refine e_iload1 dX6_plan_28 ?_
        refine e_iald la_8 (⟨by omega, by omega⟩) dX6_plan_29 ?_
        refine WW.ec (y := M 8 c) (by rw [up_row (by decide), up_row (by decide), Int.toNat_natCast]) ?_
        refine e_iconst dX6_plan_30 rfl kc_3 ?_
        refine e_icmp_ne (tgt := 36) dX6_plan_31 (by decide) (fun h => absurd h (fun q => q h3)) (fun h31 => ?_)
        refine e_iconst dX6_plan_34 rfl kc_0 ?_
        refine e_zret dX6_plan_35 (by decide) ?_
        exact ⟨0, rfl, Or.inr ⟨rfl, hw, f0⟩⟩
      · refine e_if_eq (tgt := 34) dX6_plan_18 (by decide) (fun _ => ?_) (fun h => absurd h (by decide))
        refine e_iconst dX6_plan_34 rfl kc_0 ?_
        refine e_zret dX6_plan_35 (by decide) ?_
        exact ⟨0, rfl, Or.inr ⟨rfl, hw, f0⟩⟩
    · by_cases h0 : M 8 c = 0
      · have hs0 : stH M c = ownr M c 0 := by unfold stH; rw [if_pos h0]
        by_cases hs : isH M (stH M c)
        · refine MT.of [some (vR 122), some (vI c), none, none, none, none] ⟨by decide, rfl⟩ rfl (Nat.le_of_ble_eq_true rfl) (fun hA hM => ?_)
          refine e_aload0 dX6_plan_0 ?_
          refine e_iconst dX6_plan_1 rfl kc_0 ?_
          refine e_putI fp_X6_22 la_122 rfl dX6_plan_2 ?_
          refine e_aload0 dX6_plan_5 ?_
          refine e_iconst dX6_plan_6 rfl kc_0 ?_
          refine e_putI fp_X6_25 la_122 rfl dX6_plan_7 ?_
          refine e_aload0 dX6_plan_10 ?_
          refine e_getR fl_X6_35 la_122 rfl dX6_plan_11 ?_
          refine e_iload1 dX6_plan_14 ?_
          refine e_cVZ (ct_X0_isCandle (d := d - 1) (by omega)) cy_X0_isCandle cv_X0_isCandle ml_X6_43 la_1 rfl rfl rfl (rok (by omega) (by decide)) (Nat.le_of_ble_eq_true rfl) dX6_plan_15 (fun g15 => ?_) (fun g15 => ?_)
          · refine e_if_eq (tgt := 34) dX6_plan_18 (by decide) (fun h => absurd h (by decide)) (fun _ => ?_)
            refine e_aload0 dX6_plan_21 ?_
            refine e_getR fl_X6_35 la_122 rfl dX6_plan_22 ?_
            refine e_getR fl_X6_49 la_1 rfl dX6_plan_25 ?_
            refine e_iload1 dX6_plan_28 ?_
            refine e_iald la_8 (⟨by omega, by omega⟩) dX6_plan_29 ?_
            refine WW.ec (y := M 8 c) (by rw [up_row (by decide), up_row (by decide), Int.toNat_natCast]) ?_
            refine e_iconst dX6_plan_30 rfl kc_3 ?_
            refine e_icmp_ne (tgt := 36) dX6_plan_31 (by decide) (fun h31 => ?_) (fun h => absurd h (fun q => h3 q))
            refine e_aload0 dX6_plan_36 ?_
            refine e_iload1 dX6_plan_37 ?_
            refine e_putI fp_X6_18 la_122 rfl dX6_plan_38 ?_
            refine e_aload0 dX6_plan_41 ?_
            refine e_getR fl_X6_35 la_122 rfl dX6_plan_42 ?_
            refine e_getR fl_X6_49 la_1 rfl dX6_plan_45 ?_
            refine e_aload0 dX6_plan_48 ?_
            refine e_getI fl_X6_18 la_122 rfl dX6_plan_49 ?_
            refine WW.ec (y := (c : Int)) (by simp [up]) ?_
            refine e_iald la_8 (⟨by omega, by omega⟩) dX6_plan_52 ?_
            refine WW.ec (y := M 8 c) (by rw [up_row (by decide), up_row (by decide), up_row (by decide), Int.toNat_natCast]) ?_
            refine e_if_ne (tgt := 71) dX6_plan_53 (by decide) (fun h => absurd h (fun q => q h0)) (fun h53 => ?_)
            refine e_aload0 dX6_plan_56 ?_
            refine e_getR fl_X6_35 la_122 rfl dX6_plan_57 ?_
            refine e_aload0 dX6_plan_60 ?_
            refine e_getI fl_X6_18 la_122 rfl dX6_plan_61 ?_
            refine WW.ec (y := (c : Int)) (by simp [up]) ?_
            refine e_iconst dX6_plan_64 rfl kc_0 ?_
            refine e_cVI (ct_X0_ownerOf (d := d - 1) (by omega) (hI.frs f1)) cy_X0_ownerOf cv_X0_ownerOf ml_X6_52 la_1 rfl rfl rfl (rok (by omega) (by decide)) (Nat.le_of_ble_eq_true rfl) dX6_plan_65 ?_
            refine WW.ec (y := stH M c) (by rw [ownr_frs f1, hs0]) ?_
            refine e_goto (tgt := 83) dX6_plan_68 (by decide) ?_
            refine e_istore2 dX6_plan_83 rfl ?_
            refine e_aload0 dX6_plan_84 ?_
            refine e_getR fl_X6_35 la_122 rfl dX6_plan_85 ?_
            refine e_iload2 dX6_plan_88 ?_
            refine e_cVZ (ct_X0_isHouse (d := d - 1) (by omega)) cy_X0_isHouse cv_X0_isHouse ml_X6_59 la_1 rfl rfl rfl (rok (by omega) (by decide)) (Nat.le_of_ble_eq_true rfl) dX6_plan_89 (fun g89 => ?_) (fun g89 => ?_)
            · refine e_if_ne (tgt := 97) dX6_plan_92 (by decide) (fun _ => ?_) (fun h => absurd h (by decide))
              exact start hs h3
            · refine e_if_ne (tgt := 97) dX6_plan_92 (by decide) (fun h => absurd h (by decide)) (fun _ => ?_)
              refine e_iconst dX6_plan_95 rfl kc_0 ?_
              refine e_zret dX6_plan_96 (by decide) ?_
              exact absurd hs (fun q => g89 (by rw [isH_frs f1]; exact q))
          · refine e_if_eq (tgt := 34) dX6_plan_18 (by decide) (fun _ => ?_) (fun h => absurd h (by decide))
            refine e_iconst dX6_plan_34 rfl kc_0 ?_
            refine e_zret dX6_plan_35 (by decide) ?_
            exact absurd (show isC M (c : Int) from hc) (fun q => g15 (by rw [isC_frs f0]; exact q))
        · refine MT.of [some (vR 122), some (vI c), none, none, none, none] ⟨by decide, rfl⟩ rfl (Nat.le_of_ble_eq_true rfl) (fun hA hM => ?_)
          refine e_aload0 dX6_plan_0 ?_
          refine e_iconst dX6_plan_1 rfl kc_0 ?_
          refine e_putI fp_X6_22 la_122 rfl dX6_plan_2 ?_
          refine e_aload0 dX6_plan_5 ?_
          refine e_iconst dX6_plan_6 rfl kc_0 ?_
          refine e_putI fp_X6_25 la_122 rfl dX6_plan_7 ?_
          refine e_aload0 dX6_plan_10 ?_
          refine e_getR fl_X6_35 la_122 rfl dX6_plan_11 ?_
          refine e_iload1 dX6_plan_14 ?_
          refine e_cVZ (ct_X0_isCandle (d := d - 1) (by omega)) cy_X0_isCandle cv_X0_isCandle ml_X6_43 la_1 rfl rfl rfl (rok (by omega) (by decide)) (Nat.le_of_ble_eq_true rfl) dX6_plan_15 (fun g15 => ?_) (fun g15 => ?_)
          · refine e_if_eq (tgt := 34) dX6_plan_18 (by decide) (fun h => absurd h (by decide)) (fun _ => ?_)
            refine e_aload0 dX6_plan_21 ?_
            refine e_getR fl_X6_35 la_122 rfl dX6_plan_22 ?_
            refine e_getR fl_X6_49 la_1 rfl dX6_plan_25 ?_
            refine e_iload1 dX6_plan_28 ?_
            refine e_iald la_8 (⟨by omega, by omega⟩) dX6_plan_29 ?_
            refine WW.ec (y := M 8 c) (by rw [up_row (by decide), up_row (by decide), Int.toNat_natCast]) ?_
            refine e_iconst dX6_plan_30 rfl kc_3 ?_
            refine e_icmp_ne (tgt := 36) dX6_plan_31 (by decide) (fun h31 => ?_) (fun h => absurd h (fun q => h3 q))
            refine e_aload0 dX6_plan_36 ?_
            refine e_iload1 dX6_plan_37 ?_
            refine e_putI fp_X6_18 la_122 rfl dX6_plan_38 ?_
            refine e_aload0 dX6_plan_41 ?_
            refine e_getR fl_X6_35 la_122 rfl dX6_plan_42 ?_
            refine e_getR fl_X6_49 la_1 rfl dX6_plan_45 ?_
            refine e_aload0 dX6_plan_48 ?_
            refine e_getI fl_X6_18 la_122 rfl dX6_plan_49 ?_
            refine WW.ec (y := (c : Int)) (by simp [up]) ?_
            refine e_iald la_8 (⟨by omega, by omega⟩) dX6_plan_52 ?_
            refine WW.ec (y := M 8 c) (by rw [up_row (by decide), up_row (by decide), up_row (by decide), Int.toNat_natCast]) ?_
            refine e_if_ne (tgt := 71) dX6_plan_53 (by decide) (fun h => absurd h (fun q => q h0)) (fun h53 => ?_)
            refine e_aload0 dX6_plan_56 ?_
            refine e_getR fl_X6_35 la_122 rfl dX6_plan_57 ?_
            refine e_aload0 dX6_plan_60 ?_
            refine e_getI fl_X6_18 la_122 rfl dX6_plan_61 ?_
            refine WW.ec (y := (c : Int)) (by simp [up]) ?_
            refine e_iconst dX6_plan_64 rfl kc_0 ?_
            refine e_cVI (ct_X0_ownerOf (d := d - 1) (by omega) (hI.frs f1)) cy_X0_ownerOf cv_X0_ownerOf ml_X6_52 la_1 rfl rfl rfl (rok (by omega) (by decide)) (Nat.le_of_ble_eq_true rfl) dX6_plan_65 ?_
            refine WW.ec (y := stH M c) (by rw [ownr_frs f1, hs0]) ?_
            refine e_goto (tgt := 83) dX6_plan_68 (by decide) ?_
            refine e_istore2 dX6_plan_83 rfl ?_
            refine e_aload0 dX6_plan_84 ?_
            refine e_getR fl_X6_35 la_122 rfl dX6_plan_85 ?_
            refine e_iload2 dX6_plan_88 ?_
            refine e_cVZ (ct_X0_isHouse (d := d - 1) (by omega)) cy_X0_isHouse cv_X0_isHouse ml_X6_59 la_1 rfl rfl rfl (rok (by omega) (by decide)) (Nat.le_of_ble_eq_true rfl) dX6_plan_89 (fun g89 => ?_) (fun g89 => ?_)
            · refine e_if_ne (tgt := 97) dX6_plan_92 (by decide) (fun _ => ?_) (fun h => absurd h (by decide))
              exact absurd (by rw [isH_frs f1] at g89; exact g89) hs
            · refine e_if_ne (tgt := 97) dX6_plan_92 (by decide) (fun h => absurd h (by decide)) (fun _ => ?_)
              refine e_iconst dX6_plan_95 rfl kc_0 ?_
              refine e_zret dX6_plan_96 (by decide) ?_
              exact ⟨0, rfl, Or.inr ⟨rfl, fun q => hs (by have := q.2.2; rw [Int.toNat_natCast] at this; exact this), f1⟩⟩
          · refine e_if_eq (tgt := 34) dX6_plan_18 (by decide) (fun _ => ?_) (fun h => absurd h (by decide))
            refine e_iconst dX6_plan_34 rfl kc_0 ?_
            refine e_zret dX6_plan_35 (by decide) ?_
            exact absurd (show isC M (c : Int) from hc) (fun q => g15 (by rw [isC_frs f0]; exact q))
      · have hs0 : stH M c = M 9 c := by unfold stH; rw [if_neg h0]
        by_cases hs : isH M (stH M c)
        · refine MT.of [some (vR 122), some (vI c), none, none, none, none] ⟨by decide, rfl⟩ rfl (Nat.le_of_ble_eq_true rfl) (fun hA hM => ?_)
          refine e_aload0 dX6_plan_0 ?_
          refine e_iconst dX6_plan_1 rfl kc_0 ?_
          refine e_putI fp_X6_22 la_122 rfl dX6_plan_2 ?_
          refine e_aload0 dX6_plan_5 ?_
          refine e_iconst dX6_plan_6 rfl kc_0 ?_
          refine e_putI fp_X6_25 la_122 rfl dX6_plan_7 ?_
          refine e_aload0 dX6_plan_10 ?_
          refine e_getR fl_X6_35 la_122 rfl dX6_plan_11 ?_
          refine e_iload1 dX6_plan_14 ?_
          refine e_cVZ (ct_X0_isCandle (d := d - 1) (by omega)) cy_X0_isCandle cv_X0_isCandle ml_X6_43 la_1 rfl rfl rfl (rok (by omega) (by decide)) (Nat.le_of_ble_eq_true rfl) dX6_plan_15 (fun g15 => ?_) (fun g15 => ?_)
          · refine e_if_eq (tgt := 34) dX6_plan_18 (by decide) (fun h => absurd h (by decide)) (fun _ => ?_)
            refine e_aload0 dX6_plan_21 ?_
            refine e_getR fl_X6_35 la_122 rfl dX6_plan_22 ?_
            refine e_getR fl_X6_49 la_1 rfl dX6_plan_25 ?_
            refine e_iload1 dX6_plan_28 ?_
            refine e_iald la_8 (⟨by omega, by omega⟩) dX6_plan_29 ?_
            refine WW.ec (y := M 8 c) (by rw [up_row (by decide), up_row (by decide), Int.toNat_natCast]) ?_
            refine e_iconst dX6_plan_30 rfl kc_3 ?_
            refine e_icmp_ne (tgt := 36) dX6_plan_31 (by decide) (fun h31 => ?_) (fun h => absurd h (fun q => h3 q))
            refine e_aload0 dX6_plan_36 ?_
            refine e_iload1 dX6_plan_37 ?_
            refine e_putI fp_X6_18 la_122 rfl dX6_plan_38 ?_
            refine e_aload0 dX6_plan_41 ?_
            refine e_getR fl_X6_35 la_122 rfl dX6_plan_42 ?_
            refine e_getR fl_X6_49 la_1 rfl dX6_plan_45 ?_
            refine e_aload0 dX6_plan_48 ?_
            refine e_getI fl_X6_18 la_122 rfl dX6_plan_49 ?_
            refine WW.ec (y := (c : Int)) (by simp [up]) ?_
            refine e_iald la_8 (⟨by omega, by omega⟩) dX6_plan_52 ?_
            refine WW.ec (y := M 8 c) (by rw [up_row (by decide), up_row (by decide), up_row (by decide), Int.toNat_natCast]) ?_
            refine e_if_ne (tgt := 71) dX6_plan_53 (by decide) (fun h53 => ?_) (fun h => absurd h (fun q => h0 q))
            refine e_aload0 dX6_plan_71 ?_
            refine e_getR fl_X6_35 la_122 rfl dX6_plan_72 ?_
            refine e_getR fl_X6_56 la_1 rfl dX6_plan_75 ?_
            refine e_aload0 dX6_plan_78 ?_
            refine e_getI fl_X6_18 la_122 rfl dX6_plan_79 ?_
            refine WW.ec (y := (c : Int)) (by simp [up]) ?_
            refine e_iald la_9 (⟨by omega, by omega⟩) dX6_plan_82 ?_
            refine WW.ec (y := stH M c) (by rw [f1 9 (by omega), Int.toNat_natCast, hs0]) ?_
            refine e_istore2 dX6_plan_83 rfl ?_
            refine e_aload0 dX6_plan_84 ?_
            refine e_getR fl_X6_35 la_122 rfl dX6_plan_85 ?_
            refine e_iload2 dX6_plan_88 ?_
            refine e_cVZ (ct_X0_isHouse (d := d - 1) (by omega)) cy_X0_isHouse cv_X0_isHouse ml_X6_59 la_1 rfl rfl rfl (rok (by omega) (by decide)) (Nat.le_of_ble_eq_true rfl) dX6_plan_89 (fun g89 => ?_) (fun g89 => ?_)
            · refine e_if_ne (tgt := 97) dX6_plan_92 (by decide) (fun _ => ?_) (fun h => absurd h (by decide))
              exact start hs h3
            · refine e_if_ne (tgt := 97) dX6_plan_92 (by decide) (fun h => absurd h (by decide)) (fun _ => ?_)
              refine e_iconst dX6_plan_95 rfl kc_0 ?_
              refine e_zret dX6_plan_96 (by decide) ?_
              exact absurd hs (fun q => g89 (by rw [isH_frs f1]; exact q))
          · refine e_if_eq (tgt := 34) dX6_plan_18 (by decide) (fun _ => ?_) (fun h => absurd h (by decide))
            refine e_iconst dX6_plan_34 rfl kc_0 ?_
            refine e_zret dX6_plan_35 (by decide) ?_
            exact absurd (show isC M (c : Int) from hc) (fun q => g15 (by rw [isC_frs f0]; exact q))
        · refine MT.of [some (vR 122), some (vI c), none, none, none, none] ⟨by decide, rfl⟩ rfl (Nat.le_of_ble_eq_true rfl) (fun hA hM => ?_)
          refine e_aload0 dX6_plan_0 ?_
          refine e_iconst dX6_plan_1 rfl kc_0 ?_
          refine e_putI fp_X6_22 la_122 rfl dX6_plan_2 ?_
          refine e_aload0 dX6_plan_5 ?_
          refine e_iconst dX6_plan_6 rfl kc_0 ?_
          refine e_putI fp_X6_25 la_122 rfl dX6_plan_7 ?_
          refine e_aload0 dX6_plan_10 ?_
          refine e_getR fl_X6_35 la_122 rfl dX6_plan_11 ?_
          refine e_iload1 dX6_plan_14 ?_
          refine e_cVZ (ct_X0_isCandle (d := d - 1) (by omega)) cy_X0_isCandle cv_X0_isCandle ml_X6_43 la_1 rfl rfl rfl (rok (by omega) (by decide)) (Nat.le_of_ble_eq_true rfl) dX6_plan_15 (fun g15 => ?_) (fun g15 => ?_)
          · refine e_if_eq (tgt := 34) dX6_plan_18 (by decide) (fun h => absurd h (by decide)) (fun _ => ?_)
            refine e_aload0 dX6_plan_21 ?_
            refine e_getR fl_X6_35 la_122 rfl dX6_plan_22 ?_
            refine e_getR fl_X6_49 la_1 rfl dX6_plan_25 ?_
            refine e_iload1 dX6_plan_28 ?_
            refine e_iald la_8 (⟨by omega, by omega⟩) dX6_plan_29 ?_
            refine WW.ec (y := M 8 c) (by rw [up_row (by decide), up_row (by decide), Int.toNat_natCast]) ?_
            refine e_iconst dX6_plan_30 rfl kc_3 ?_
            refine e_icmp_ne (tgt := 36) dX6_plan_31 (by decide) (fun h31 => ?_) (fun h => absurd h (fun q => h3 q))
            refine e_aload0 dX6_plan_36 ?_
            refine e_iload1 dX6_plan_37 ?_
            refine e_putI fp_X6_18 la_122 rfl dX6_plan_38 ?_
            refine e_aload0 dX6_plan_41 ?_
            refine e_getR fl_X6_35 la_122 rfl dX6_plan_42 ?_
            refine e_getR fl_X6_49 la_1 rfl dX6_plan_45 ?_
            refine e_aload0 dX6_plan_48 ?_
            refine e_getI fl_X6_18 la_122 rfl dX6_plan_49 ?_
            refine WW.ec (y := (c : Int)) (by simp [up]) ?_
            refine e_iald la_8 (⟨by omega, by omega⟩) dX6_plan_52 ?_
            refine WW.ec (y := M 8 c) (by rw [up_row (by decide), up_row (by decide), up_row (by decide), Int.toNat_natCast]) ?_
            refine e_if_ne (tgt := 71) dX6_plan_53 (by decide) (fun h53 => ?_) (fun h => absurd h (fun q => h0 q))
            refine e_aload0 dX6_plan_71 ?_
            refine e_getR fl_X6_35 la_122 rfl dX6_plan_72 ?_
            refine e_getR fl_X6_56 la_1 rfl dX6_plan_75 ?_
            refine e_aload0 dX6_plan_78 ?_
            refine e_getI fl_X6_18 la_122 rfl dX6_plan_79 ?_
            refine WW.ec (y := (c : Int)) (by simp [up]) ?_
            refine e_iald la_9 (⟨by omega, by omega⟩) dX6_plan_82 ?_
            refine WW.ec (y := stH M c) (by rw [f1 9 (by omega), Int.toNat_natCast, hs0]) ?_
            refine e_istore2 dX6_plan_83 rfl ?_
            refine e_aload0 dX6_plan_84 ?_
            refine e_getR fl_X6_35 la_122 rfl dX6_plan_85 ?_
            refine e_iload2 dX6_plan_88 ?_
            refine e_cVZ (ct_X0_isHouse (d := d - 1) (by omega)) cy_X0_isHouse cv_X0_isHouse ml_X6_59 la_1 rfl rfl rfl (rok (by omega) (by decide)) (Nat.le_of_ble_eq_true rfl) dX6_plan_89 (fun g89 => ?_) (fun g89 => ?_)
            · refine e_if_ne (tgt := 97) dX6_plan_92 (by decide) (fun _ => ?_) (fun h => absurd h (by decide))
              exact absurd (by rw [isH_frs f1] at g89; exact g89) hs
            · refine e_if_ne (tgt := 97) dX6_plan_92 (by decide) (fun h => absurd h (by decide)) (fun _ => ?_)
              refine e_iconst dX6_plan_95 rfl kc_0 ?_
              refine e_zret dX6_plan_96 (by decide) ?_
              exact ⟨0, rfl, Or.inr ⟨rfl, fun q => hs (by have := q.2.2; rw [Int.toNat_natCast] at this; exact this), f1⟩⟩
          · refine e_if_eq (tgt := 34) dX6_plan_18 (by decide) (fun _ => ?_) (fun h => absurd h (by decide))
            refine e_iconst dX6_plan_34 rfl kc_0 ?_
            refine e_zret dX6_plan_35 (by decide) ?_
            exact absurd (show isC M (c : Int) from hc) (fun q => g15 (by rw [isC_frs f0]; exact q))
  · refine MT.of [some (vR 122), some (vI c), none, none, none, none] ⟨by decide, rfl⟩ rfl (Nat.le_of_ble_eq_true rfl) (fun hA hM => ?_)
    refine e_aload0 dX6_plan_0 ?_
    refine e_iconst dX6_plan_1 rfl kc_0 ?_
    refine e_putI fp_X6_22 la_122 rfl dX6_plan_2 ?_
    refine e_aload0 dX6_plan_5 ?_
    refine e_iconst dX6_plan_6 rfl kc_0 ?_
    refine e_putI fp_X6_25 la_122 rfl dX6_plan_7 ?_
    refine e_aload0 dX6_plan_10 ?_
    refine e_getR fl_X6_35 la_122 rfl dX6_plan_11 ?_
    refine e_iload1 dX6_plan_14 ?_
    refine e_cVZ (ct_X0_isCandle (d := d - 1) (by omega)) cy_X0_isCandle cv_X0_isCandle ml_X6_43 la_1 rfl rfl rfl (rok (by omega) (by decide)) (Nat.le_of_ble_eq_true rfl) dX6_plan_15 (fun g15 => ?_) (fun g15 => ?_)
    · refine e_if_eq (tgt := 34) dX6_plan_18 (by decide) (fun h => absurd h (by decide)) (fun _ => ?_)
      exact absurd (by rw [isC_frs f0] at g15; exact g15) hc
    · refine e_if_eq (tgt := 34) dX6_plan_18 (by decide) (fun _ => ?_) (fun h => absurd h (by decide))
      refine e_iconst dX6_plan_34 rfl kc_0 ?_
      refine e_zret dX6_plan_35 (by decide) ?_
      exact ⟨0, rfl, Or.inr ⟨rfl, fun q => hc q.1, f0⟩⟩
end WAY2
