/-! TAKING BACK, as a function -/
abbrev rw0 (X : Mem) : Nat := 27 + (X 25 2).toNat
def un (X : Mem) : Mem := fun o k =>
  if o = 1 then (if k = 12 then X (rw0 X) 0 else if k = 13 then X (rw0 X) 1 else X 1 k)
  else if o = 3 ∨ o = 4 ∨ o = 5 then (if k < (min (X (rw0 X) 7) (X 1 0)).toNat then X (rw0 X) (8 + 3 * k + (o - 3)) else X o k)
  else if o = 8 ∨ o = 9 ∨ o = 10 then (if isC X (X (rw0 X) 2) ∧ k = (X (rw0 X) 2).toNat then X (rw0 X) (o - 5) else X o k)
  else if o = 11 then (if isIn X (X (rw0 X) 2) (X (rw0 X) 6) ∧ k = (X (rw0 X) 2 * 12 + X (rw0 X) 6).toNat then -1 else X o k)
  else if o = 25 then (if k = 2 then (((X 25 2).toNat : Int) + 29) % 30 else if k = 1 then X 25 1 - 1 else X 25 k)
  else X o k
theorem un_1 (X : Mem) (k : Nat) : un X 1 k = if k = 12 then X (rw0 X) 0 else if k = 13 then X (rw0 X) 1 else X 1 k := rfl
theorem un_h {X : Mem} {o : Nat} (h : o = 3 ∨ o = 4 ∨ o = 5) (k : Nat) : un X o k = if k < (min (X (rw0 X) 7) (X 1 0)).toNat then X (rw0 X) (8 + 3 * k + (o - 3)) else X o k := by
  unfold un
  rw [if_neg (by omega), if_pos h]
theorem un_c {X : Mem} {o : Nat} (h : o = 8 ∨ o = 9 ∨ o = 10) (k : Nat) : un X o k = if isC X (X (rw0 X) 2) ∧ k = (X (rw0 X) 2).toNat then X (rw0 X) (o - 5) else X o k := by
  unfold un
  rw [if_neg (by omega), if_neg (by omega), if_pos h]
theorem un_11 (X : Mem) (k : Nat) : un X 11 k = if isIn X (X (rw0 X) 2) (X (rw0 X) 6) ∧ k = (X (rw0 X) 2 * 12 + X (rw0 X) 6).toNat then -1 else X 11 k := rfl
theorem un_25 (X : Mem) (k : Nat) : un X 25 k = if k = 2 then (((X 25 2).toNat : Int) + 29) % 30 else if k = 1 then X 25 1 - 1 else X 25 k := rfl
abbrev unO (o : Nat) : Prop := o ≠ 1 ∧ (o < 3 ∨ 5 < o) ∧ (o < 8 ∨ 11 < o) ∧ o ≠ 25
theorem un_o {X : Mem} {o : Nat} (h : unO o) : un X o = X o := by
  funext k
  unfold un
  rw [if_neg h.1, if_neg (by omega), if_neg (by omega), if_neg (by omega), if_neg h.2.2.2]
theorem tb_un {X : Mem} {q : Nat} (hq : X 25 2 = q) : tbM X q = un X := by
  have e0 : rw0 X = 27 + q := by unfold rw0; omega
  have eq : (X 25 2).toNat = q := by omega
  have hin : isIn (up (up (up (tb1 X q) 8 (X (27 + q) 2).toNat (X (27 + q) 3)) 9 (X (27 + q) 2).toNat (X (27 + q) 4)) 10 (X (27 + q) 2).toNat (X (27 + q) 5)) (X (27 + q) 2) (X (27 + q) 6) ↔ isIn X (X (27 + q) 2) (X (27 + q) 6) := by
    unfold isIn isC tb1
    rw [up_o (o' := 1) (by decide), up_o (o' := 1) (by decide), up_o (o' := 1) (by decide), up_k (k' := 5) (by decide), up_k (k' := 5) (by decide), up_o (o' := 1) (by decide), up_o (o' := 1) (by decide), up_o (o' := 7) (by decide), up_o (o' := 7) (by decide), up_o (o' := 7) (by decide), up_o (o' := 7) (by decide), up_o (o' := 7) (by decide), up_o (o' := 7) (by decide), up_o (o' := 7) (by decide)]
  have hR : tb2 X q (27 + q) = X (27 + q) := by
    unfold tb2 sO tb1
    split
    · split
      · rw [up_row (by omega), up_row (by omega), up_row (by omega), up_row (by omega), up_row (by omega), up_row (by omega), up_row (by omega), up_row (by omega)]
      · rw [up_row (by omega), up_row (by omega), up_row (by omega), up_row (by omega), up_row (by omega), up_row (by omega), up_row (by omega)]
    · rw [up_row (by omega), up_row (by omega), up_row (by omega), up_row (by omega)]
  have h8 : ∀ o, (o < 8 ∨ 11 < o) → tb2 X q o = tb1 X q o := by
    intro o ho
    unfold tb2 sO
    split
    · split
      · rw [up_row (by omega), up_row (by omega), up_row (by omega), up_row (by omega)]
      · rw [up_row (by omega), up_row (by omega), up_row (by omega)]
    · rfl
  have hc : ∀ o, (o = 8 ∨ o = 9 ∨ o = 10) → ∀ k, tb2 X q o k = if isC X (X (27 + q) 2) ∧ k = (X (27 + q) 2).toNat then X (27 + q) (o - 5) else X o k := by
    intro o ho k
    have t1 : tb1 X q o = X o := tb1_o (by omega) (by omega)
    unfold tb2
    by_cases c0 : isC X (X (27 + q) 2)
    · rw [if_pos c0]
      have es : ∀ N : Mem, sO N (X (27 + q) 2) (X (27 + q) 6) o k = N o k := by
        intro N
        unfold sO
        split
        · rw [up_o (by omega)]
        · rfl
      rw [es]
      by_cases hk : k = (X (27 + q) 2).toNat
      · rw [if_pos ⟨c0, hk⟩, hk]
        rcases ho with rfl | rfl | rfl
        · rw [up_o (by decide), up_o (by decide), up_s]
        · rw [up_o (by decide), up_s]
        · rw [up_s]
      · rw [if_neg (fun z => hk z.2), up_k hk, up_k hk, up_k hk, t1]
    · rw [if_neg c0, if_neg (fun z => c0 z.1), t1]
  have h11 : ∀ k, tb2 X q 11 k = if isIn X (X (27 + q) 2) (X (27 + q) 6) ∧ k = (X (27 + q) 2 * 12 + X (27 + q) 6).toNat then -1 else X 11 k := by
    intro k
    have t1 : tb1 X q 11 = X 11 := tb1_o (by omega) (by omega)
    unfold tb2
    by_cases c0 : isC X (X (27 + q) 2)
    · rw [if_pos c0]
      unfold sO
      by_cases c1 : isIn X (X (27 + q) 2) (X (27 + q) 6)
      · rw [if_pos (hin.mpr c1)]
        by_cases hk : k = (X (27 + q) 2 * 12 + X (27 + q) 6).toNat
        · rw [if_pos ⟨c1, hk⟩, hk, up_s]
        · rw [if_neg (fun z => hk z.2), up_k hk, up_o (by decide), up_o (by decide), up_o (by decide), t1]
      · rw [if_neg (fun z => c1 (hin.mp z)), if_neg (fun z => c1 z.1), up_o (by decide), up_o (by decide), up_o (by decide), t1]
    · rw [if_neg c0, if_neg (fun z => c0 z.1.1), t1]
  have t3 : ∀ o, (o = 3 ∨ o = 4 ∨ o = 5) → tb2 X q o = X o := fun o ho => by rw [h8 o (by omega), tb1_o (by omega) (by omega)]
  funext o k
  by_cases h3 : o = 3 ∨ o = 4 ∨ o = 5
  · unfold tbM tbF
    rw [un_h h3, e0, hR, t3 o h3]
    by_cases hk : k < (min (X (27 + q) 7) (X 1 0)).toNat
    · rw [if_pos hk]
      rcases h3 with rfl | rfl | rfl
      · rw [if_pos ⟨rfl, hk⟩, Nat.sub_self, Nat.add_zero]
      · rw [if_neg (fun z => absurd z.1 (by decide)), if_pos ⟨rfl, hk⟩]
      · rw [if_neg (fun z => absurd z.1 (by decide)), if_neg (fun z => absurd z.1 (by decide)), if_pos ⟨rfl, hk⟩]
    · rw [if_neg (fun z => hk z.2), if_neg (fun z => hk z.2), if_neg (fun z => hk z.2), if_neg hk]
  unfold tbM
  rw [tbF_o (by omega) (by omega) (by omega)]
  by_cases h8c : o = 8 ∨ o = 9 ∨ o = 10
  · rw [hc o h8c, un_c h8c, e0]
  by_cases h11c : o = 11
  · subst h11c
    rw [h11, un_11, e0]
  rw [h8 o (by omega)]
  by_cases c1 : o = 1
  · subst c1
    rw [un_1, e0]
    unfold tb1
    by_cases k13 : k = 13
    · subst k13
      rw [up_s, if_neg (by decide), if_pos rfl]
    · rw [up_k k13]
      by_cases k12 : k = 12
      · subst k12
        rw [up_s, if_pos rfl]
      · rw [up_k k12, up_o (by decide), up_o (by decide), if_neg k12, if_neg k13]
  by_cases c25 : o = 25
  · subst c25
    rw [un_25, eq]
    unfold tb1
    rw [up_o (by decide), up_o (by decide)]
    by_cases k1 : k = 1
    · subst k1
      rw [up_s, if_neg (by decide), if_pos rfl]
    · rw [up_k k1]
      by_cases k2 : k = 2
      · subst k2
        rw [up_s, if_pos rfl]
      · rw [up_k k2, if_neg k2, if_neg k1]
  rw [tb1_o c25 c1, un_o (by unfold unO; omega)]
def und : Nat → Mem → Mem
  | 0, X => X
  | j + 1, X => und j (un X)
theorem und_s : ∀ (j : Nat) (X : Mem), und (j + 1) X = un (und j X)
  | 0, _ => rfl
  | j + 1, X => und_s j (un X)
/-- the i-th row from the top -/
def rq (X : Mem) (i : Nat) : Nat := 27 + ((X 25 2 + 30 - i) % 30).toNat
theorem rq_0 {X : Mem} (h : 0 ≤ X 25 2 ∧ X 25 2 < 30) : rq X 0 = rw0 X := by unfold rq rw0; omega
theorem rq_un {X : Mem} (h : 0 ≤ X 25 2 ∧ X 25 2 < 30) {i : Nat} (hi : i < 30) : rq (un X) i = rq X (i + 1) := by
  unfold rq
  rw [un_25, if_pos rfl]
  omega
def EQ (n : Nat) (D : Int) (G G' : Mem) : Prop := (∀ o, o ≠ 12 → (o < 25 ∨ 56 < o) → o < 119 → G' o = G o) ∧ (∀ k : Nat, (k : Int) < 5 * D → G' 12 k = G 12 k) ∧ G' 25 2 = G 25 2 ∧ (0 ≤ G 25 2 ∧ G 25 2 < 30) ∧ ∀ i : Nat, i < n → G' (rq G i) = G (rq G i)
theorem EQ.u1 {n : Nat} {D : Int} {G G' : Mem} (hn : n < 30) (h : EQ (n + 1) D G G') : EQ n D (un G) (un G') := by
  obtain ⟨h1, h2, h3, h4, h5⟩ := h
  have hR : G' (rw0 G') = G (rw0 G) := by
    have := h5 0 (by omega)
    rw [rq_0 h4] at this
    unfold rw0 at this ⊢
    rw [h3]
    exact this
  have e1 := h1 1 (by decide) (by decide) (by decide)
  have e7 := h1 7 (by decide) (by decide) (by decide)
  refine ⟨fun o a c e => ?_, fun k hk => ?_, ?_, ?_, fun i hi => ?_⟩
  · have eo := h1 o a c e
    funext k
    by_cases a1 : o = 1
    · subst a1
      rw [un_1, un_1, hR, e1]
    by_cases a3 : o = 3 ∨ o = 4 ∨ o = 5
    · rw [un_h a3, un_h a3, hR, e1, eo]
    by_cases a8 : o = 8 ∨ o = 9 ∨ o = 10
    · rw [un_c a8, un_c a8, hR, eo]
      unfold isC
      rw [e1]
    by_cases a11 : o = 11
    · subst a11
      rw [un_11, un_11, hR, eo]
      unfold isIn isC
      rw [e1, e7]
    rw [un_o (by unfold unO; omega), un_o (by unfold unO; omega), eo]
  · rw [un_o (by decide), un_o (by decide)]
    exact h2 k hk
  · rw [un_25, un_25, if_pos rfl, if_pos rfl, h3]
  · rw [un_25, if_pos rfl]
    omega
  · rw [rq_un h4 (by omega)]
    have : unO (rq G (i + 1)) := by unfold rq unO; omega
    rw [un_o this, un_o this]
    exact h5 (i + 1) (by omega)
