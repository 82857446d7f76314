/-! SUPPER (object 125: count 6; rows guests 126, order 127, keeps 128, best 129) -/
def gl (s h : Nat) : List Nat := (List.range h).filter (fun k => s.testBit k)
theorem gl_s (s h : Nat) : gl s (h + 1) = gl s h ++ (if s.testBit h then [h] else []) := by
  unfold gl
  rw [List.range_succ, List.filter_append]
  congr 1
  by_cases q : s.testBit h <;> simp [q]
theorem gl_mono (s h : Nat) : ∀ q, ∃ r, gl s (h + q) = gl s h ++ r
  | 0 => ⟨[], by simp⟩
  | q + 1 => by
    obtain ⟨r, hr⟩ := gl_mono s h q
    exact ⟨r ++ (if s.testBit (h + q) then [h + q] else []), by rw [← Nat.add_assoc, gl_s, hr, List.append_assoc]⟩
theorem gl_lt {s h k : Nat} (hk : k ∈ gl s h) : k < h := List.mem_range.mp (List.mem_filter.mp hk).1
def bst (K : Nat → Nat → Int) (n : Nat) : Nat → Nat → Int
  | 0, _ => 1
  | f + 1, s => (List.range n).foldl (fun m g => if s.testBit g then max m (K g (n - (f + 1)) * bst K n f (s - 2 ^ g)) else m) 0
def fOf (P : Nat → Bool) : Nat → Nat → Nat
  | 0, _ => 0
  | k + 1, i => if P i then i else fOf P k (i + 1)
def chP (K : Nat → Nat → Int) (n : Nat) (top : Int) (f s : Nat) (q : Int) (g : Nat) : Bool := s.testBit g && decide (q * (K g (n - (f + 1)) * bst K n f (s - 2 ^ g)) = top)
def chs (K : Nat → Nat → Int) (n : Nat) (top : Int) : Nat → Nat → Int → List Nat
  | 0, _, _ => []
  | f + 1, s, q => fOf (chP K n top f s q) n 0 :: chs K n top f (s - 2 ^ fOf (chP K n top f s q) n 0) (q * K (fOf (chP K n top f s q) n 0) (n - (f + 1)))
def okK (K : Nat → Nat → Int) : Prop := ∀ g i, 0 ≤ K g i ∧ K g i ≤ 10
theorem foldl_b {P : Nat → Bool} {v : Nat → Int} {B : Int} (h0 : 0 ≤ B) (hv : ∀ g, 0 ≤ v g ∧ v g ≤ B) : ∀ l : List Nat, ∀ m : Int, 0 ≤ m ∧ m ≤ B → 0 ≤ l.foldl (fun m g => if P g then max m (v g) else m) m ∧ l.foldl (fun m g => if P g then max m (v g) else m) m ≤ B
  | [], m, h => h
  | g :: l, m, h => by
    refine foldl_b h0 hv l _ ?_
    have := hv g
    show 0 ≤ (if P g then max m (v g) else m) ∧ (if P g then max m (v g) else m) ≤ B
    split <;> omega
theorem bst_b {K : Nat → Nat → Int} {n : Nat} (hK : okK K) : ∀ f s, 0 ≤ bst K n f s ∧ bst K n f s ≤ 10 ^ f
  | 0, s => ⟨by simp [bst], by simp [bst]⟩
  | f + 1, s => by
    have h10 : (0 : Int) ≤ 10 ^ (f + 1) := Int.pow_nonneg (by decide)
    have hp : (10 : Int) ^ (f + 1) = 10 ^ f * 10 := Int.pow_succ _ _
    exact foldl_b (P := fun g => s.testBit g) (v := fun g => K g (n - (f + 1)) * bst K n f (s - 2 ^ g)) h10 (fun g => by
      have h1 := bst_b (n := n) hK f (s - 2 ^ g)
      have h2 := hK g (n - (f + 1))
      refine ⟨mulNN h2.1 h1.1, ?_⟩
      rw [hp, Int.mul_comm]
      exact mulLE h1.1 h1.2 h2.1 h2.2) _ 0 ⟨Int.le_refl 0, h10⟩
/-- the greatest is met -/
theorem foldl_att {P : Nat → Bool} {v : Nat → Int} (hv : ∀ g, 0 ≤ v g) : ∀ l : List Nat, ∀ m : Int, (∃ g ∈ l, P g = true) → 0 ≤ m → (l.foldl (fun m g => if P g then max m (v g) else m) m = m ∧ m ≠ 0) ∨ ∃ g ∈ l, P g = true ∧ l.foldl (fun m g => if P g then max m (v g) else m) m = v g
  | [], m, h, _ => by obtain ⟨g, hg, _⟩ := h; cases hg
  | g :: l, m, h, hm => by
    show (l.foldl _ (if P g then max m (v g) else m) = m ∧ m ≠ 0) ∨ _
    by_cases hl : ∃ g ∈ l, P g = true
    · rcases foldl_att hv l (if P g then max m (v g) else m) hl (by have := hv g; split <;> omega) with ⟨e, e2⟩ | ⟨g', hg', hp, e⟩
      · by_cases hp : P g = true
        · rw [if_pos hp] at e e2
          by_cases hc : v g ≤ m
          · left
            rw [if_pos hp, e]
            omega
          · right
            refine ⟨g, List.mem_cons_self, hp, ?_⟩
            show l.foldl _ (if P g then max m (v g) else m) = v g
            rw [if_pos hp, e]
            omega
        · rw [if_neg hp] at e e2 ⊢
          exact Or.inl ⟨e, e2⟩
      · right
        exact ⟨g', List.mem_cons_of_mem _ hg', hp, e⟩
    · have hp : P g = true := by
        obtain ⟨g', hg', hp'⟩ := h
        rcases List.mem_cons.mp hg' with e | e
        · rw [← e]; exact hp'
        · exact absurd ⟨g', e, hp'⟩ hl
      have hrest : ∀ (l : List Nat) (m : Int), (¬ ∃ g ∈ l, P g = true) → l.foldl (fun m g => if P g then max m (v g) else m) m = m := by
        intro l
        induction l with
        | nil => intro m _; rfl
        | cons a l ih =>
          intro m hn
          show l.foldl _ (if P a then max m (v a) else m) = m
          rw [if_neg (fun z => hn ⟨a, List.mem_cons_self, z⟩)]
          exact ih m (fun z => by obtain ⟨x, hx, hp⟩ := z; exact hn ⟨x, List.mem_cons_of_mem _ hx, hp⟩)
      rw [hrest l _ hl, if_pos hp]
      by_cases hc : m = 0 ∨ m < v g
      · right
        refine ⟨g, List.mem_cons_self, hp, ?_⟩
        show l.foldl _ (if P g then max m (v g) else m) = v g
        rw [hrest l _ hl, if_pos hp]
        have := hv g
        omega
      · by_cases hc2 : m = v g
        · right
          refine ⟨g, List.mem_cons_self, hp, ?_⟩
          show l.foldl _ (if P g then max m (v g) else m) = v g
          rw [hrest l _ hl, if_pos hp]
          omega
        · left; omega
theorem bst_att {K : Nat → Nat → Int} {n : Nat} (hK : okK K) {f s : Nat} (hs : ∃ g, g < n ∧ s.testBit g = true) : ∃ g, g < n ∧ s.testBit g = true ∧ K g (n - (f + 1)) * bst K n f (s - 2 ^ g) = bst K n (f + 1) s := by
  obtain ⟨g0, h0, h1⟩ := hs
  rcases foldl_att (P := fun g => s.testBit g) (v := fun g => K g (n - (f + 1)) * bst K n f (s - 2 ^ g)) (fun g => mulNN (hK g _).1 (bst_b hK f _).1) (List.range n) 0 ⟨g0, List.mem_range.mpr h0, h1⟩ (Int.le_refl 0) with ⟨_, e⟩ | ⟨g, hg, hp, e⟩
  · exact absurd rfl e
  · exact ⟨g, List.mem_range.mp hg, hp, e.symm⟩
theorem fOf_spec {P : Nat → Bool} : ∀ (k i : Nat), (∃ g, i ≤ g ∧ g < i + k ∧ P g = true) → P (fOf P k i) = true ∧ i ≤ fOf P k i ∧ fOf P k i < i + k ∧ ∀ j, i ≤ j → j < fOf P k i → P j = false
  | 0, i, h => by obtain ⟨g, h1, h2, _⟩ := h; omega
  | k + 1, i, h => by
    by_cases hp : P i = true
    · rw [fOf, if_pos hp]
      exact ⟨hp, Nat.le_refl _, by omega, fun j h1 h2 => by omega⟩
    · rw [fOf, if_neg hp]
      obtain ⟨g, h1, h2, h3⟩ := h
      have hg : i ≠ g := fun e => hp (by rw [e]; exact h3)
      obtain ⟨a, b, c, d⟩ := fOf_spec (P := P) k (i + 1) ⟨g, by omega, by omega, h3⟩
      refine ⟨a, by omega, by omega, fun j h4 h5 => ?_⟩
      by_cases e : j = i
      · rw [e]; exact Bool.eq_false_iff.mpr hp
      · exact d j (by omega) h5
theorem pow6 {n : Nat} (h : n ≤ 6) : (10 : Int) ^ n ≤ 1000000 := by
  rcases (show n = 0 ∨ n = 1 ∨ n = 2 ∨ n = 3 ∨ n = 4 ∨ n = 5 ∨ n = 6 by omega) with rfl | rfl | rfl | rfl | rfl | rfl | rfl <;> decide
/-- the supper's world: n guests G, what they keep -/
def SP (n : Nat) (G : Nat → Int) (K : Nat → Nat → Int) (M : Mem) : Prop := M 125 6 = n ∧ (∀ g, g < n → M 126 g = G g) ∧ ∀ g i, g < n → i < n → M 128 (g * 6 + i) = K g i
theorem SP.up {n : Nat} {G : Nat → Int} {K : Nat → Nat → Int} {M : Mem} {o k : Nat} {v : Int} (h : SP n G K M) (ho : o = 127 ∨ o = 129) : SP n G K (up M o k v) := by
  unfold SP
  rw [up_row (by omega), up_row (by omega), up_row (by omega)]
  exact h
section SUP
variable {l : Launch} {w : Wd} {d : Nat} {M : Mem} {Q : Option MV → Mem → Prop} {n : Nat} {G : Nat → Int} {K : Nat → Nat → Int}
theorem ct_X5_leading (hd : 2 ≤ d) (hS : SP n G K M) (hK : okK K) (hn : n ≤ 6) {s g : Nat} (hs : s < 2 ^ n) (hg : g < n) (hb : s.testBit g = true) {v : Int} (hv : M 129 (s - 2 ^ g) = v) (hv2 : 0 ≤ v ∧ v ≤ 1000000) :
    PI l w yX5_leading cX5_leading 5 d [vR 125, vI s, vI g] M (K g (n - popc s) * v) M := by
  have hs64 : s < 64 := Nat.lt_of_lt_of_le hs (bit_f n hn).2
  obtain ⟨e1, e2, e3⟩ := bit_d s hs64 g (by omega) hb
  have hp := (bit_n n hn s hs64 hs).1
  have hk := hK g (n - popc s)
  have hk2 := hS.2.2 g (n - popc s) hg (by omega)
  have hm := mulLE hv2.1 hv2.2 hk.1 hk.2
  have hm2 := mulNN hk.1 hv2.1
  rw [Int.mul_comm] at hm
  refine MT.of [some (vR 125), some (vI s), some (vI g), none, none] ⟨by decide, rfl⟩ rfl (Nat.le_of_ble_eq_true rfl) (fun hA hM => ?_)
  refine e_iload2 dX5_leading_0 ?_
  refine e_bipush dX5_leading_1 rfl kb_6 ?_
  refine e_imul dX5_leading_3 (⟨by omega, by omega⟩) ?_
  refine e_aload0 dX5_leading_4 ?_
  refine e_getI fl_X5_24 la_125 rfl dX5_leading_5 ?_
  refine WW.ec (y := (n : Int)) (hS.1) ?_
  refine e_iadd dX5_leading_8 (⟨by omega, by omega⟩) ?_
  refine e_iload1 dX5_leading_9 ?_
  refine e_cSI (ct_J6_bitCount_0f7a4 (d := d - 1) (by omega) (by omega)) cy_J6_bitCount_0f7a4 cs_J6_bitCount_0f7a4 ml_X5_70 rfl rfl (rok (by omega) (by decide)) (Nat.le_of_ble_eq_true rfl) dX5_leading_10 ?_
  refine e_isub dX5_leading_13 (⟨by omega, by omega⟩) ?_
  refine e_istore3 dX5_leading_14 rfl ?_
  refine e_iload1 dX5_leading_15 ?_
  refine e_iconst dX5_leading_16 rfl kc_1 ?_
  refine e_iload2 dX5_leading_17 ?_
  refine e_ishl dX5_leading_18 ?_
  refine e_iconst dX5_leading_19 rfl kc_m1 ?_
  refine e_ixor dX5_leading_20 ?_
  refine e_iand dX5_leading_21 ?_
  refine WW.ec (y := ((s - 2 ^ g : Nat) : Int)) (e1) ?_
  refine e_istore4 dX5_leading_22 rfl ?_
  refine e_iload3 dX5_leading_24 ?_
  refine e_if_lt (tgt := 52) dX5_leading_25 (by decide) (fun h => absurd h (by omega)) (fun h25 => ?_)
  refine e_iload3 dX5_leading_28 ?_
  refine e_aload0 dX5_leading_29 ?_
  refine e_getR fl_X5_18 la_125 rfl dX5_leading_30 ?_
  refine e_alen la_128 (by decide) (by decide) dX5_leading_33 ?_
  refine e_icmp_ge (tgt := 52) dX5_leading_34 (by decide) (fun h => absurd h (by omega)) (fun h34 => ?_)
  refine e_iload4 dX5_leading_37 ?_
  refine e_if_lt (tgt := 52) dX5_leading_39 (by decide) (fun h => absurd h (by omega)) (fun h39 => ?_)
  refine e_iload4 dX5_leading_42 ?_
  refine e_aload0 dX5_leading_44 ?_
  refine e_getR fl_X5_21 la_125 rfl dX5_leading_45 ?_
  refine e_alen la_129 (by decide) (by decide) dX5_leading_48 ?_
  refine e_icmp_lt (tgt := 54) dX5_leading_49 (by decide) (fun h49 => ?_) (fun h => absurd h (by omega))
  refine e_aload0 dX5_leading_54 ?_
  refine e_getR fl_X5_18 la_125 rfl dX5_leading_55 ?_
  refine e_iload3 dX5_leading_58 ?_
  refine e_iald la_128 (⟨by omega, by omega⟩) dX5_leading_59 ?_
  refine WW.ec (y := K g (n - popc s)) (by rw [← hk2]; congr 1; omega) ?_
  refine e_aload0 dX5_leading_60 ?_
  refine e_getR fl_X5_21 la_125 rfl dX5_leading_61 ?_
  refine e_iload4 dX5_leading_64 ?_
  refine e_iald la_129 (⟨by omega, by omega⟩) dX5_leading_66 ?_
  refine WW.ec (y := v) (by rw [Int.toNat_natCast]; exact hv) ?_
  refine e_imul dX5_leading_67 (⟨by omega, by omega⟩) ?_
  refine e_iret dX5_leading_68 ?_
  exact ⟨rfl, rfl⟩
theorem lp_X5_weighIn (hd : 3 ≤ d) (hK : okK K) (hn : n ≤ 6) {f s : Nat} (hs : s < 2 ^ n) (hf : popc s = f + 1) {M0 : Mem}
    (k : ∀ M1 : Mem, SP n G K M1 → FrS M0 M1 → (∀ t, t ≠ s → M1 129 t = M0 129 t) → M1 129 s = bst K n (f + 1) s → WM l w RX5 cX5_weigh 3 none d Q 81 [some (vR 125), some (vI s), some (vI n)] [] M1) :
    ∀ (q i : Nat) (M1 : Mem), i + q = n → SP n G K M1 → FrS M0 M1 → (∀ t, t ≠ s → M1 129 t = M0 129 t) → (∀ t, t < s → M0 129 t = bst K n (popc t) t) → M1 129 s = (List.range i).foldl (fun m g => if s.testBit g then max m (K g (n - (f + 1)) * bst K n f (s - 2 ^ g)) else m) 0 → WM l w RX5 cX5_weigh 3 none d Q 37 [some (vR 125), some (vI s), some (vI i)] [] M1 := by
  have hs64 : s < 64 := Nat.lt_of_lt_of_le hs (bit_f n hn).2
  intro q
  induction q with
  | zero =>
    intro i M1 hi hS hfr ho hlow hv
    obtain rfl : i = n := by omega
    refine e_iload2 dX5_weigh_37 ?_
    refine e_aload0 dX5_weigh_38 ?_
    refine e_getI fl_X5_24 la_125 rfl dX5_weigh_39 ?_
    refine WW.ec (y := (i : Int)) (hS.1) ?_
    refine e_icmp_ge (tgt := 81) dX5_weigh_42 (by decide) (fun h42 => ?_) (fun h => absurd h (by omega))
    exact k M1 hS hfr ho hv
  | succ q ih =>
    intro i M1 hi hS hfr ho hlow hv
    have hbit := bit_t s (by omega) i (by omega)
    have hfold : (List.range (i + 1)).foldl (fun m g => if s.testBit g then max m (K g (n - (f + 1)) * bst K n f (s - 2 ^ g)) else m) 0 = if s.testBit i then max (M1 129 s) (K i (n - (f + 1)) * bst K n f (s - 2 ^ i)) else M1 129 s := by rw [List.range_succ, List.foldl_append, ← hv]; rfl
    by_cases hb : s.testBit i = true
    · rw [if_pos hb] at hfold
      obtain ⟨e1, e2, e3⟩ := bit_d s hs64 i (by omega) hb
      have hbv := hlow (s - 2 ^ i) e2
      rw [show popc (s - 2 ^ i) = f by omega, ← ho _ (by omega)] at hbv
      have hbb := bst_b (n := n) hK f (s - 2 ^ i)
      have hp6 : popc s ≤ 6 := (bit_p s hs64).1
      have hpw := pow6 (n := f) (by omega)
      refine e_iload2 dX5_weigh_37 ?_
      refine e_aload0 dX5_weigh_38 ?_
      refine e_getI fl_X5_24 la_125 rfl dX5_weigh_39 ?_
      refine WW.ec (y := (n : Int)) (hS.1) ?_
      refine e_icmp_ge (tgt := 81) dX5_weigh_42 (by decide) (fun h => absurd h (by omega)) (fun h42 => ?_)
      refine e_iload1 dX5_weigh_45 ?_
      refine e_iload2 dX5_weigh_46 ?_
      refine e_ishr dX5_weigh_47 ?_
      refine e_iconst dX5_weigh_48 rfl kc_1 ?_
      refine e_iand dX5_weigh_49 ?_
      refine e_iconst dX5_weigh_50 rfl kc_1 ?_
      refine e_icmp_ne (tgt := 75) dX5_weigh_51 (by decide) (fun h => absurd h (fun z => z (hbit.mpr hb))) (fun h51 => ?_)
      refine e_aload0 dX5_weigh_54 ?_
      refine e_getR fl_X5_21 la_125 rfl dX5_weigh_55 ?_
      refine e_iload1 dX5_weigh_58 ?_
      refine e_aload0 dX5_weigh_59 ?_
      refine e_getR fl_X5_21 la_125 rfl dX5_weigh_60 ?_
      refine e_iload1 dX5_weigh_63 ?_
      refine e_iald la_129 (⟨by omega, by omega⟩) dX5_weigh_64 ?_
      refine WW.ec (y := M1 129 s) (by rw [Int.toNat_natCast]) ?_
      refine e_aload0 dX5_weigh_65 ?_
      refine e_iload1 dX5_weigh_66 ?_
      refine e_iload2 dX5_weigh_67 ?_
      refine e_cVI (ct_X5_leading (d := d - 1) (by omega) hS hK hn hs (by omega) hb hbv ⟨by omega, by omega⟩) cy_X5_leading cv_X5_leading ml_X5_61 la_125 rfl rfl rfl (rok (by omega) (by decide)) (Nat.le_of_ble_eq_true rfl) dX5_weigh_68 ?_
      refine e_mmax ml9_X5_65 (rok1 (by omega)) rfl dX5_weigh_71 ?_
      refine e_iast la_129 (⟨by omega, by omega⟩) dX5_weigh_74 ?_
      refine e_iinc2 dX5_weigh_75 rfl (⟨by omega, by omega⟩) rfl ?_
      refine e_goto (tgt := 37) dX5_weigh_78 (by decide) ?_
      refine ih (i + 1) _ (by omega) (hS.up (Or.inr rfl)) (hfr.up (by omega)) (fun t ht => by rw [up_k (by rw [Int.toNat_natCast]; exact ht)]; exact ho t ht) hlow ?_
      rw [Int.toNat_natCast, up_s, hfold, hf]
    · rw [if_neg hb] at hfold
      refine e_iload2 dX5_weigh_37 ?_
      refine e_aload0 dX5_weigh_38 ?_
      refine e_getI fl_X5_24 la_125 rfl dX5_weigh_39 ?_
      refine WW.ec (y := (n : Int)) (hS.1) ?_
      refine e_icmp_ge (tgt := 81) dX5_weigh_42 (by decide) (fun h => absurd h (by omega)) (fun h42 => ?_)
      refine e_iload1 dX5_weigh_45 ?_
      refine e_iload2 dX5_weigh_46 ?_
      refine e_ishr dX5_weigh_47 ?_
      refine e_iconst dX5_weigh_48 rfl kc_1 ?_
      refine e_iand dX5_weigh_49 ?_
      refine e_iconst dX5_weigh_50 rfl kc_1 ?_
      refine e_icmp_ne (tgt := 75) dX5_weigh_51 (by decide) (fun h51 => ?_) (fun h => absurd h (fun z => hb (hbit.mp z)))
      refine e_iinc2 dX5_weigh_75 rfl (⟨by omega, by omega⟩) rfl ?_
      refine e_goto (tgt := 37) dX5_weigh_78 (by decide) ?_
      exact ih (i + 1) M1 (by omega) hS hfr ho hlow hfold.symm
end SUP
