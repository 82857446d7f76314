/-! THE STEPS OF CLASS AND MODEL -/
def rowC (X : Mem) : Prop := X (rw0 X) 7 ≤ X 1 0 ∧ X (rw0 X) 2 < X 1 5 ∧ X (rw0 X) 1 ≤ X 1 13
def GR (X : Mem) : Prop := GM X ∧ (1 ≤ X 25 1 → rowC X)
def AU (G : Mem) : Prop := 0 ≤ G 25 1 ∧ ∀ j : Nat, (j : Int) ≤ G 25 1 → GR (und j G)
theorem un_251 (X : Mem) : un X 25 1 = X 25 1 - 1 := by rw [un_25, if_neg (by decide), if_pos rfl]
theorem und_25 : ∀ (j : Nat) (X : Mem), und j X 25 1 = X 25 1 - j
  | 0, X => by show X 25 1 = X 25 1 - ((0 : Nat) : Int); omega
  | j + 1, X => by
    show und j (un X) 25 1 = _
    rw [und_25 j (un X), un_251]
    omega
theorem AU.gm {G : Mem} (h : AU G) : GM G := (h.2 0 (by have := h.1; omega)).1
theorem AU.u1 {G : Mem} (h : AU G) (h1 : 1 ≤ G 25 1) : AU (un G) := ⟨by rw [un_251]; omega, fun j hj => h.2 (j + 1) (by rw [un_251] at hj; omega)⟩
theorem AU.dr {G : Mem} (h : AU G) : ∀ j : Nat, (j : Int) ≤ G 25 1 → und j G 1 13 ≤ G 1 13
  | 0, _ => Int.le_refl _
  | j + 1, hj => by
    have h1 := h.dr j (by omega)
    have h2 := (h.2 j (by omega)).2 (by rw [und_25]; omega)
    rw [und_s, un_1, if_neg (by decide), if_pos rfl]
    have := h2.2.2
    omega
theorem GM.sz {G : Mem} (h : GM G) : szI G := ⟨h.1.1.1.2, h.1.1.2.1.2, h.dr.2⟩
theorem GM.eq {n : Nat} {D : Int} {G G' : Mem} (hE : EQ n D G G') (hS : SI G') (h : GM G) : GM G' := by
  obtain ⟨e, _⟩ := hE
  have e1 := e 1 (by decide) (by decide) (by decide)
  have e7 := e 7 (by decide) (by decide) (by decide)
  have e8 := e 8 (by decide) (by decide) (by decide)
  have e9 := e 9 (by decide) (by decide) (by decide)
  have e10 := e 10 (by decide) (by decide) (by decide)
  have e11 := e 11 (by decide) (by decide) (by decide)
  refine ⟨h.1.st ⟨⟨e1, e 2 (by decide) (by decide) (by decide), e 3 (by decide) (by decide) (by decide), e 4 (by decide) (by decide) (by decide), e 6 (by decide) (by decide) (by decide), e7⟩, fun o a b => e o (by omega) (by omega) (by omega)⟩, hS, ?_, ?_, ?_, ?_⟩
  · have := h.2.2.1
    unfold OWN ownr isIn isH isC at this ⊢
    rw [e1, e7, e10, e11]
    exact this
  · rw [e1]; exact h.2.2.2.1
  · unfold DR; rw [e1, e 5 (by decide) (by decide) (by decide), dsum_c (B := G) _ (fun k _ => by rw [e10])]; exact h.2.2.2.2.1
  · unfold ST isC isH; rw [e1, e7, e8, e9, e10]; exact h.2.2.2.2.2
theorem EQ.ud {D : Int} {G G' : Mem} : ∀ (j n : Nat), n + j ≤ 30 → EQ (n + j) D G G' → EQ n D (und j G) (und j G')
  | 0, n, _, h => h
  | j + 1, n, hn, h => by
    have h2 : EQ (n + 1) D (und j G) (und j G') := EQ.ud j (n + 1) (by omega) (by rw [show n + 1 + j = n + (j + 1) by omega]; exact h)
    rw [und_s, und_s]
    exact h2.u1 (by omega)
theorem rowC.eq {n : Nat} {D : Int} {G G' : Mem} (hn : 1 ≤ n) (hE : EQ n D G G') (h : rowC G) : rowC G' := by
  obtain ⟨e, _, h3, h4, h5⟩ := hE
  have hR : G' (rw0 G') = G (rw0 G) := by
    have := h5 0 (by omega)
    rw [rq_0 h4] at this
    unfold rw0 at this ⊢
    rw [h3]
    exact this
  unfold rowC
  rw [hR, e 1 (by decide) (by decide) (by decide)]
  exact h
theorem AU.step {G G1 : Mem} {c i : Int} (h : AU G) (hc : CHG G c i G1) (hcc : c < G 1 5) (hG1 : GM G1) : AU G1 := by
  have hG := h.gm
  obtain ⟨hE, h25, h251⟩ := hc.eq hG.2.1 hG.1.1
  have h0 := h.1
  refine ⟨by rw [h251]; omega, fun j hj => ?_⟩
  rw [h251] at hj
  cases j with
  | zero =>
    refine ⟨hG1, fun _ => ?_⟩
    have hn := nxt_ok hG.2.1
    have k25 := kp_25 (M := G) (q := nxt G) hn.1 (c := c) (i := i)
    obtain ⟨⟨r0, r1, r2, r6, r7⟩, _⟩ := kp_row (M := G) (q := nxt G) hn.1 (c := c) (i := i)
    obtain ⟨_, ⟨h2, h2b⟩, _, _, _, _, h8⟩ := hc
    have er : rw0 (und 0 G1) = 27 + nxt G := by show rw0 G1 = _; unfold rw0; rw [h8 25 (by decide) (by decide), k25.1]; omega
    unfold rowC
    rw [er]
    show G1 (27 + nxt G) 7 ≤ G1 1 0 ∧ G1 (27 + nxt G) 2 < G1 1 5 ∧ G1 (27 + nxt G) 1 ≤ G1 1 13
    rw [h8 (27 + nxt G) (by omega) (by omega), r7, r2, r1, h2 0 (by decide) (by decide), h2 5 (by decide) (by decide)]
    exact ⟨Int.le_refl _, hcc, h2b⟩
  | succ j =>
    have hj2 : (j : Int) ≤ G 25 1 ∧ j ≤ 29 := by omega
    have hgr := h.2 j hj2.1
    have hE2 : EQ (29 - j) (G 1 13) (und j G) (und j (un G1)) := EQ.ud j (29 - j) (by omega) (by rw [show 29 - j + j = 29 by omega]; exact hE)
    have e25 : und j (un G1) 25 1 = min 29 (G 25 1) - j := by rw [und_25, h25]
    show GR (und j (un G1))
    refine ⟨hgr.1.eq hE2 ⟨by rw [hE2.2.2.1]; exact hE2.2.2.2.1, by rw [e25]; omega⟩, fun h1 => ?_⟩
    rw [e25] at h1
    exact (hgr.2 (by rw [und_25]; omega)).eq (by omega) hE2
/-- the model's a stands for G -/
def HD (G : Mem) (A : Nat → Int) : Prop := (A 0 = G 1 0 ∧ A 1 = G 1 5 ∧ A 2 = G 1 15 ∧ A 3 = G 1 16) ∧ (∀ h : Nat, (h : Int) < G 1 0 → A (10 + h) = G 2 h) ∧ ∀ c : Nat, (c : Int) < G 1 5 → A (20 + 2 * c) = G 6 c ∧ A (21 + 2 * c) = G 7 c
def RA (G : Mem) (A : Nat → Int) : Prop := HD G A ∧ A 4 = G 25 1 ∧ RW G A 40 ∧ ∀ n : Nat, G 25 1 = n → ∀ j, 1 ≤ j → j ≤ n → RW (und j G) A (520 + 476 * (n - j))
def kpN (A : Nat → Int) : Nat := if A 4 = 30 then 29 else (A 4).toNat
def keepA (A : Nat → Int) : Nat → Int := fun k => if k = 4 then (kpN A : Int) + 1 else if 520 + 476 * kpN A ≤ k ∧ k < 996 + 476 * kpN A then A (40 + (k - (520 + 476 * kpN A))) else if A 4 = 30 ∧ 520 ≤ k ∧ k < 14324 then A (k + 476) else A k
theorem keepA_lo {A : Nat → Int} {k : Nat} (h : k < 520) (h4 : k ≠ 4) : keepA A k = A k := by
  unfold keepA
  rw [if_neg h4, if_neg (by omega), if_neg (by omega)]
theorem RA.step {G G1 : Mem} {A A2 : Nat → Int} {c i : Int} (hA : AU G) (h : RA G A) (hc : CHG G c i G1) (hr : RW G1 A2 40) (hlo : ∀ k, k < 40 → A2 k = keepA A k) (hhi : ∀ k, 520 ≤ k → A2 k = keepA A k) : RA G1 A2 := by
  have hG := hA.gm
  have hI := hG.1.1
  obtain ⟨hE, h25, h251⟩ := hc.eq hG.2.1 hI
  obtain ⟨⟨⟨a0, a1, a2, a3⟩, a10, a20⟩, a4, aR, aS⟩ := h
  obtain ⟨h1, ⟨h2, _⟩, _⟩ := hc
  have hS := hG.2.1.2
  have e0 := h2 0 (by decide) (by decide)
  have e5 := h2 5 (by decide) (by decide)
  have hkn : (kpN A : Int) = min 29 (G 25 1) := by
    unfold kpN
    rw [a4]
    split <;> omega
  refine ⟨⟨⟨?_, ?_, ?_, ?_⟩, fun k hk => ?_, fun k hk => ?_⟩, ?_, hr, fun n hn j j1 jn => ?_⟩
  · rw [hlo 0 (by decide), keepA_lo (by decide) (by decide), e0]; exact a0
  · rw [hlo 1 (by decide), keepA_lo (by decide) (by decide), e5]; exact a1
  · rw [hlo 2 (by decide), keepA_lo (by decide) (by decide), h2 15 (by decide) (by decide)]; exact a2
  · rw [hlo 3 (by decide), keepA_lo (by decide) (by decide), h2 16 (by decide) (by decide)]; exact a3
  · rw [e0] at hk
    have := hI.1
    rw [hlo (10 + k) (by omega), keepA_lo (by omega) (by omega), h1 2 (by decide) (by decide) (by decide) (by decide) (by decide)]
    exact a10 k hk
  · rw [e5] at hk
    have := hI.2.1
    rw [hlo (20 + 2 * k) (by omega), hlo (21 + 2 * k) (by omega), keepA_lo (by omega) (by omega), keepA_lo (by omega) (by omega), h1 6 (by decide) (by decide) (by decide) (by decide) (by decide), h1 7 (by decide) (by decide) (by decide) (by decide) (by decide)]
    exact a20 k hk
  · rw [hlo 4 (by decide), h251]
    unfold keepA
    rw [if_pos rfl]
    omega
  · rw [h251] at hn
    obtain ⟨i, rfl⟩ : ∃ i, j = i + 1 := ⟨j - 1, by omega⟩
    have hi2 : (i : Int) ≤ G 25 1 ∧ i ≤ 29 := by omega
    have hE2 : EQ (29 - i) (G 1 13) (und i G) (und i (un G1)) := EQ.ud i (29 - i) (by omega) (by rw [show 29 - i + i = 29 by omega]; exact hE)
    show RW (und i (un G1)) A2 _
    refine RW.eq hE2 (hA.dr i hi2.1) ?_
    have hsz := (hA.2 i hi2.1).1.sz
    have hn2 : n = kpN A + 1 := by omega
    cases i with
    | zero =>
      refine RW.sh hsz aR (fun k hk => ?_)
      rw [hhi _ (by omega)]
      unfold keepA
      rw [if_neg (by omega), if_pos (by omega)]
      congr 1
      omega
    | succ i =>
      have hrow := aS (G 25 1).toNat (by omega) (i + 1) (by omega) (by omega)
      refine RW.sh hsz hrow (fun k hk => ?_)
      rw [hhi _ (by omega)]
      unfold keepA
      rw [if_neg (by omega), if_neg (by omega)]
      by_cases q : A 4 = 30
      · have hk29 : kpN A = 29 := by unfold kpN; rw [if_pos q]
        rw [if_pos (by omega)]
        congr 1
        omega
      · have hk29 : kpN A = (A 4).toNat := by unfold kpN; rw [if_neg q]
        rw [if_neg (by omega)]
        congr 1
        omega
