/-! ORDERS at the table -/
def arr (n : Nat) : Nat → Nat → List (List Nat)
  | 0, _ => [[]]
  | f + 1, s => (List.range n).flatMap (fun g => if s.testBit g then (arr n f (s - 2 ^ g)).map (fun r => g :: r) else [])
def prd (K : Nat → Nat → Int) (n : Nat) : Nat → List Nat → Int
  | _, [] => 1
  | f, g :: r => K g (n - f) * prd K n (f - 1) r
theorem foldl_ge {P : Nat → Bool} {v : Nat → Int} : ∀ (l : List Nat) (m : Int), m ≤ l.foldl (fun m g => if P g then max m (v g) else m) m ∧ ∀ g ∈ l, P g = true → v g ≤ l.foldl (fun m g => if P g then max m (v g) else m) m
  | [], m => ⟨Int.le_refl m, fun g h => by cases h⟩
  | a :: l, m => by
    have ih := foldl_ge (P := P) (v := v) l (if P a then max m (v a) else m)
    refine ⟨?_, fun g hg hp => ?_⟩
    · show m ≤ l.foldl _ (if P a then max m (v a) else m)
      have : m ≤ (if P a then max m (v a) else m) := by split <;> omega
      exact Int.le_trans this ih.1
    · show v g ≤ l.foldl _ (if P a then max m (v a) else m)
      rcases List.mem_cons.mp hg with e | e
      · subst e
        have : v g ≤ (if P g then max m (v g) else m) := by rw [if_pos hp]; omega
        exact Int.le_trans this ih.1
      · exact ih.2 g e hp
theorem bst_ge {K : Nat → Nat → Int} {n f s g : Nat} (hg : g < n) (hs : s.testBit g = true) : K g (n - (f + 1)) * bst K n f (s - 2 ^ g) ≤ bst K n (f + 1) s :=
  (foldl_ge (P := fun g => s.testBit g) (v := fun g => K g (n - (f + 1)) * bst K n f (s - 2 ^ g)) (List.range n) 0).2 g (List.mem_range.mpr hg) hs
theorem prd_le {K : Nat → Nat → Int} {n : Nat} (hK : okK K) : ∀ f s e, e ∈ arr n f s → 0 ≤ prd K n f e ∧ prd K n f e ≤ bst K n f s
  | 0, s, e, he => by
    have : e = [] := by simpa [arr] using he
    rw [this]
    exact ⟨by show (0 : Int) ≤ 1; decide, Int.le_refl 1⟩
  | f + 1, s, e, he => by
    unfold arr at he
    obtain ⟨g, hg, hge⟩ := List.mem_flatMap.mp he
    by_cases hs : s.testBit g = true
    · rw [if_pos hs] at hge
      obtain ⟨r, hr, e2⟩ := List.mem_map.mp hge
      subst e2
      have ih := prd_le hK f (s - 2 ^ g) r hr
      have hk := hK g (n - (f + 1))
      have hb := bst_ge (K := K) (n := n) (f := f) (List.mem_range.mp hg) hs
      show 0 ≤ K g (n - (f + 1)) * prd K n f r ∧ K g (n - (f + 1)) * prd K n f r ≤ _
      exact ⟨mulNN hk.1 ih.1, Int.le_trans (Int.mul_le_mul_of_nonneg_left ih.2 hk.1) hb⟩
    · rw [if_neg hs] at hge; cases hge
theorem find_flat {α β : Type} {F : α → List β} {p : β → Bool} : ∀ (l : List α), (l.flatMap F).find? p = l.findSome? (fun a => (F a).find? p)
  | [] => rfl
  | a :: l => by
    rw [List.flatMap_cons, List.find?_append, List.findSome?_cons, find_flat l]
    cases (F a).find? p <;> rfl
theorem fOf_sp2 {P : Nat → Bool} : ∀ (k i : Nat), (∃ g, i ≤ g ∧ g < i + k ∧ P g = true) → (i ≤ fOf P k i ∧ fOf P k i < i + k) ∧ P (fOf P k i) = true ∧ ∀ g, i ≤ g → g < fOf P k i → P g = false
  | 0, i, h => by obtain ⟨g, a, b, _⟩ := h; omega
  | k + 1, i, h => by
    unfold fOf
    by_cases q : P i = true
    · rw [if_pos q]; exact ⟨by omega, q, fun g a b => by omega⟩
    · rw [if_neg q]
      have ih := fOf_sp2 (P := P) k (i + 1) (by
        obtain ⟨g, a, b, c⟩ := h
        have : g ≠ i := fun z => q (by rw [← z]; exact c)
        exact ⟨g, by omega, by omega, c⟩)
      refine ⟨by omega, ih.2.1, fun g a b => ?_⟩
      by_cases e : g = i
      · rw [e]; simpa using q
      · exact ih.2.2 g (by omega) b
theorem findSome_range {β : Type} {F : Nat → Option β} {g : Nat} {b : β} : ∀ n, g < n → F g = some b → (∀ k, k < g → F k = none) → (List.range n).findSome? F = some b := by
  intro n hg hb hn
  have e : List.range n = List.range g ++ (List.range' g (n - g)) := by
    have h2 := List.range'_append_1 (s := 0) (m := g) (n := n - g)
    rw [Nat.zero_add, show g + (n - g) = n by omega] at h2
    rw [List.range_eq_range', List.range_eq_range']
    exact h2.symm
  rw [e, List.findSome?_append, List.findSome?_eq_none_iff.mpr (fun k hk => hn k (List.mem_range.mp hk))]
  rw [show n - g = (n - g - 1) + 1 by omega, List.range'_succ, List.findSome?_cons, hb]
  rfl
/-- the first order that reaches the top is the one chosen -/
theorem first_chs {K : Nat → Nat → Int} {n : Nat} (hK : okK K) (hn : n ≤ 6) : ∀ (f s : Nat) (q top : Int), s < 2 ^ n → popc s = f → 0 ≤ q → q * bst K n f s = top → (arr n f s).find? (fun e => decide (q * prd K n f e = top)) = some (chs K n top f s q)
  | 0, s, q, top, hs, hp, hq, ht => by
    have : q * prd K n 0 [] = top := ht
    show List.find? _ [[]] = some []
    rw [List.find?_cons]
    simp [this]
  | f + 1, s, q, top, hs, hp, hq, ht => by
    have h64 : s < 64 := Nat.lt_of_lt_of_le hs (bit_f n hn).2
    -- one that reaches the top
    have hex : ∃ g, 0 ≤ g ∧ g < 0 + n ∧ chP K n top f s q g = true := by
      have hb : ∃ g ∈ List.range n, s.testBit g = true := by
        have : ∃ g, s.testBit g = true := by
          refine Nat.exists_testBit_of_ne_zero (fun z => ?_)
          rw [z] at hp
          exact absurd hp (by simp [popc])
        obtain ⟨g, hg⟩ := this
        refine ⟨g, List.mem_range.mpr ?_, hg⟩
        have hg6 : g < 6 := by
          apply Decidable.byContradiction
          intro z
          have := Nat.testBit_lt_two_pow (x := s) (i := g) (Nat.lt_of_lt_of_le h64 (show 64 ≤ 2 ^ g from Nat.pow_le_pow_right (n := 2) (i := 6) (j := g) (by decide) (by omega)))
          rw [this] at hg
          exact absurd hg (by decide)
        exact (bit_n n hn s h64 hs).2 g hg6 hg
      rcases foldl_att (P := fun g => s.testBit g) (v := fun g => K g (n - (f + 1)) * bst K n f (s - 2 ^ g)) (fun g => mulNN (hK g _).1 (bst_b hK f _).1) (List.range n) 0 hb (Int.le_refl 0) with ⟨_, z⟩ | ⟨g, hg, hpg, e⟩
      · exact absurd rfl z
      · refine ⟨g, Nat.zero_le _, by rw [Nat.zero_add]; exact List.mem_range.mp hg, ?_⟩
        unfold chP
        rw [hpg, Bool.true_and, decide_eq_true_iff, ← ht]
        show q * (K g (n - (f + 1)) * bst K n f (s - 2 ^ g)) = q * bst K n (f + 1) s
        rw [show bst K n (f + 1) s = K g (n - (f + 1)) * bst K n f (s - 2 ^ g) from e]
    obtain ⟨⟨_, g1⟩, g2, g3⟩ := fOf_sp2 n 0 hex
    rw [Nat.zero_add] at g1
    unfold arr chs
    generalize hg : fOf (chP K n top f s q) n 0 = g at g1 g2 g3
    rw [find_flat]
    have hbit : s.testBit g = true ∧ q * (K g (n - (f + 1)) * bst K n f (s - 2 ^ g)) = top := by
      unfold chP at g2
      rw [Bool.and_eq_true, decide_eq_true_iff] at g2
      exact g2
    have hd := bit_d s h64 g (by omega) hbit.1
    refine findSome_range n g1 ?_ (fun k hk => ?_)
    · show List.find? _ (if s.testBit g = true then _ else _) = _
      rw [if_pos hbit.1, List.find?_map]
      have ih := first_chs hK hn f (s - 2 ^ g) (q * K g (n - (f + 1))) top (by omega) (by omega) (mulNN hq (hK g _).1) (by rw [Int.mul_assoc]; exact hbit.2)
      have ef : ((fun e => decide (q * prd K n (f + 1) e = top)) ∘ fun r => g :: r) = fun e => decide (q * K g (n - (f + 1)) * prd K n f e = top) := by
        funext r
        show decide (q * (K g (n - (f + 1)) * prd K n f r) = top) = _
        rw [Int.mul_assoc]
      rw [ef, ih]
      rfl
    · have hno := g3 k (Nat.zero_le _) hk
      show List.find? _ (if s.testBit k = true then _ else _) = _
      by_cases hb : s.testBit k = true
      · rw [if_pos hb, List.find?_eq_none]
        intro e he hc
        obtain ⟨r, hr, e2⟩ := List.mem_map.mp he
        subst e2
        have h1 := prd_le hK f (s - 2 ^ k) r hr
        have h2 := bst_ge (K := K) (n := n) (f := f) (show k < n by omega) hb
        have hkk := hK k (n - (f + 1))
        have hc1 : q * prd K n (f + 1) (k :: r) = top := by simpa using hc
        have hc2 : q * (K k (n - (f + 1)) * prd K n f r) = top := hc1
        have l1 : q * (K k (n - (f + 1)) * prd K n f r) ≤ q * (K k (n - (f + 1)) * bst K n f (s - 2 ^ k)) := Int.mul_le_mul_of_nonneg_left (Int.mul_le_mul_of_nonneg_left h1.2 hkk.1) hq
        have l2 : q * (K k (n - (f + 1)) * bst K n f (s - 2 ^ k)) ≤ q * bst K n (f + 1) s := Int.mul_le_mul_of_nonneg_left h2 hq
        unfold chP at hno
        rw [hb, Bool.true_and, decide_eq_false_iff_not] at hno
        omega
      · rw [if_neg hb]; rfl
/-- the first that is greatest -/
theorem fold_first {α : Type} {v : α → Int} {top : Int} {e0 : α} : ∀ (L : List α) (b : Int × α), (∀ e ∈ L, v e ≤ top) → b.1 < top → L.find? (fun e => decide (v e = top)) = some e0 → L.foldl (fun (b : Int × α) e => if b.1 < v e then (v e, e) else b) b = (top, e0)
  | [], b, _, _, h => by cases h
  | e :: L, b, hv, hb, h => by
    rw [List.find?_cons] at h
    by_cases q : v e = top
    · simp only [q, decide_true] at h
      have e1 : e = e0 := Option.some.inj h
      subst e1
      show L.foldl _ (if b.1 < v e then (v e, e) else b) = _
      rw [if_pos (by omega), q]
      have key : ∀ (L : List α), (∀ e ∈ L, v e ≤ top) → L.foldl (fun (b : Int × α) e => if b.1 < v e then (v e, e) else b) (top, e) = (top, e) := by
        intro L
        induction L with
        | nil => intro _; rfl
        | cons a L ih =>
          intro hL
          show L.foldl _ (if top < v a then (v a, a) else (top, e)) = _
          rw [if_neg (by have := hL a List.mem_cons_self; omega)]
          exact ih (fun x hx => hL x (List.mem_cons_of_mem _ hx))
      exact key L (fun x hx => hv x (List.mem_cons_of_mem _ hx))
    · simp only [q, decide_false] at h
      have he := hv e List.mem_cons_self
      show L.foldl _ (if b.1 < v e then (v e, e) else b) = _
      exact fold_first L _ (fun x hx => hv x (List.mem_cons_of_mem _ hx)) (by split <;> first | (show v e < top; omega) | exact hb) h
