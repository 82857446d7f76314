/-! WHAT STEPS CHANGE -/
theorem kp_25 {M : Mem} {q : Nat} (hq : q < 30) {c i : Int} : keepM M q c i 25 2 = q ∧ keepM M q c i 25 1 = min 30 (M 25 1 + 1) := by
  have e : keepM M q c i 25 = kp1 M q c i 25 := by
    unfold keepM kp3 kp2
    rw [hsF_o (by omega), up_row (by omega)]
    split
    · rw [up_row (by omega), up_row (by omega), up_row (by omega)]
    · rfl
  rw [e]
  unfold kp1
  refine ⟨?_, ?_⟩
  · rw [up_o (by omega), up_o (by omega), up_o (by omega), up_o (by omega), up_k (by decide), up_s]
  · rw [up_o (by omega), up_o (by omega), up_o (by omega), up_o (by omega), up_s]
theorem kp_row {M : Mem} {q : Nat} (hq : q < 30) {c i : Int} : (keepM M q c i (27 + q) 0 = M 1 12 ∧ keepM M q c i (27 + q) 1 = M 1 13 ∧ keepM M q c i (27 + q) 2 = c ∧ keepM M q c i (27 + q) 6 = i ∧ keepM M q c i (27 + q) 7 = M 1 0) ∧ (isC M c → keepM M q c i (27 + q) 3 = M 8 c.toNat ∧ keepM M q c i (27 + q) 4 = M 9 c.toNat ∧ keepM M q c i (27 + q) 5 = M 10 c.toNat) ∧ (∀ k, k < (M 1 0).toNat → ∀ o, (o = 3 ∨ o = 4 ∨ o = 5) → keepM M q c i (27 + q) (8 + 3 * k + (o - 3)) = M o k) := by
  have lo : ∀ k, k < 8 → keepM M q c i (27 + q) k = kp3 M q c i (27 + q) k := by
    intro k hk
    unfold keepM hsF
    rw [if_neg (by omega)]
  have k2 : ∀ k, k ≠ 3 → k ≠ 4 → k ≠ 5 → kp2 M q c i (27 + q) k = kp1 M q c i (27 + q) k := by
    intro k a b e
    unfold kp2
    split
    · rw [up_k e, up_k b, up_k a]
    · rfl
  refine ⟨⟨?_, ?_, ?_, ?_, ?_⟩, fun hc => ⟨?_, ?_, ?_⟩, fun k hk o ho => ?_⟩
  · rw [lo 0 (by decide)]; unfold kp3; rw [up_k (by decide), k2 0 (by decide) (by decide) (by decide)]; unfold kp1; rw [up_k (by decide), up_k (by decide), up_k (by decide), up_s]
  · rw [lo 1 (by decide)]; unfold kp3; rw [up_k (by decide), k2 1 (by decide) (by decide) (by decide)]; unfold kp1; rw [up_k (by decide), up_k (by decide), up_s]
  · rw [lo 2 (by decide)]; unfold kp3; rw [up_k (by decide), k2 2 (by decide) (by decide) (by decide)]; unfold kp1; rw [up_k (by decide), up_s]
  · rw [lo 6 (by decide)]; unfold kp3; rw [up_k (by decide), k2 6 (by decide) (by decide) (by decide)]; unfold kp1; rw [up_s]
  · rw [lo 7 (by decide)]; unfold kp3; rw [up_s]
  · rw [lo 3 (by decide)]; unfold kp3; rw [up_k (by decide)]; unfold kp2; rw [if_pos hc, up_k (by decide), up_k (by decide), up_s]
  · rw [lo 4 (by decide)]; unfold kp3; rw [up_k (by decide)]; unfold kp2; rw [if_pos hc, up_k (by decide), up_s]
  · rw [lo 5 (by decide)]; unfold kp3; rw [up_k (by decide)]; unfold kp2; rw [if_pos hc, up_s]
  · unfold keepM hsF
    rw [if_pos (by omega), kp3_o (by decide) (by omega), kp3_o (by decide) (by omega), kp3_o (by decide) (by omega)]
    rcases ho with rfl | rfl | rfl
    · rw [if_pos (by omega), show (8 + 3 * k + (3 - 3) - 8) / 3 = k by omega]
    · rw [if_neg (by omega), if_pos (by omega), show (8 + 3 * k + (4 - 3) - 8) / 3 = k by omega]
    · rw [if_neg (by omega), if_neg (by omega), show (8 + 3 * k + (5 - 3) - 8) / 3 = k by omega]
/-- G1 is G with a step kept and then changed -/
def CHG (G : Mem) (c i : Int) (G1 : Mem) : Prop :=
  (∀ o, o < 119 → o ≠ 1 → (o < 3 ∨ 5 < o) → (o < 8 ∨ 12 < o) → (o < 25 ∨ 56 < o) → G1 o = G o) ∧ ((∀ k, k ≠ 12 → k ≠ 13 → G1 1 k = G 1 k) ∧ G 1 13 ≤ G1 1 13) ∧
  (∀ o, (o = 3 ∨ o = 4 ∨ o = 5) → ∀ k : Nat, G 1 0 ≤ k → G1 o k = G o k) ∧
  (∀ o, (o = 8 ∨ o = 9 ∨ o = 10) → ∀ k : Nat, ¬ (isC G c ∧ k = c.toNat) → G1 o k = G o k) ∧
  ((∀ k : Nat, ¬ (isIn G c i ∧ k = (c * 12 + i).toNat) → G1 11 k = G 11 k) ∧ (isIn G c i → G 11 (c * 12 + i).toNat = -1)) ∧
  (∀ k : Nat, (k : Int) < 5 * G 1 13 → G1 12 k = G 12 k) ∧ (∀ o, 25 ≤ o → o ≤ 56 → G1 o = keepM G (nxt G) c i o)
theorem CHG.eq {G G1 : Mem} {c i : Int} (hS : SI G) (hI : IB G) (h : CHG G c i G1) : EQ 29 (G 1 13) G (un G1) ∧ un G1 25 1 = min 29 (G 25 1) ∧ G1 25 1 = min 30 (G 25 1 + 1) := by
  obtain ⟨h1, ⟨h2, _⟩, h3, h4, ⟨h5, h6⟩, h7, h8⟩ := h
  have hn := nxt_ok hS
  have k25 := kp_25 (M := G) (q := nxt G) hn.1 (c := c) (i := i)
  have kr := kp_row (M := G) (q := nxt G) hn.1 (c := c) (i := i)
  have e25 := h8 25 (by decide) (by decide)
  have er : rw0 G1 = 27 + nxt G := by unfold rw0; rw [e25, k25.1]; omega
  have eR : G1 (rw0 G1) = keepM G (nxt G) c i (27 + nxt G) := by rw [er]; exact h8 _ (by omega) (by omega)
  obtain ⟨⟨r0, r1, r2, r6, r7⟩, rc, rh⟩ := kr
  have e10 : G1 1 0 = G 1 0 := h2 0 (by decide) (by decide)
  have e15 : G1 1 5 = G 1 5 := h2 5 (by decide) (by decide)
  have e7 : G1 7 = G 7 := h1 7 (by decide) (by decide) (by decide) (by decide) (by decide)
  refine ⟨⟨fun o a cc e => ?_, fun k hk => ?_, ?_, hS.1, fun j hj => ?_⟩, ?_, ?_⟩
  · funext k
    by_cases a1 : o = 1
    · subst a1
      rw [un_1, eR, r0, r1]
      by_cases k12 : k = 12
      · rw [if_pos k12, k12]
      · by_cases k13 : k = 13
        · rw [if_neg k12, if_pos k13, k13]
        · rw [if_neg k12, if_neg k13]
          exact h2 k k12 k13
    by_cases a3 : o = 3 ∨ o = 4 ∨ o = 5
    · rw [un_h a3, eR, r7, e10, show min (G 1 0) (G 1 0) = G 1 0 by omega]
      by_cases hk : k < (G 1 0).toNat
      · rw [if_pos hk]
        exact rh k hk o a3
      · rw [if_neg hk]
        exact h3 o a3 k (by omega)
    by_cases a8 : o = 8 ∨ o = 9 ∨ o = 10
    · rw [un_c a8, eR, r2]
      have : isC G1 c ↔ isC G c := by unfold isC; rw [e15]
      by_cases q : isC G c ∧ k = c.toNat
      · rw [if_pos ⟨this.mpr q.1, q.2⟩, q.2]
        have := rc q.1
        rcases a8 with rfl | rfl | rfl
        · exact this.1
        · exact this.2.1
        · exact this.2.2
      · rw [if_neg (fun z => q ⟨this.mp z.1, z.2⟩)]
        exact h4 o a8 k q
    by_cases a11 : o = 11
    · subst a11
      rw [un_11, eR, r2, r6]
      have : isIn G1 c i ↔ isIn G c i := by unfold isIn isC; rw [e15, e7]
      by_cases q : isIn G c i ∧ k = (c * 12 + i).toNat
      · rw [if_pos ⟨this.mpr q.1, q.2⟩, q.2, h6 q.1]
      · rw [if_neg (fun z => q ⟨this.mp z.1, z.2⟩)]
        exact h5 k q
    rw [un_o (by unfold unO; omega), h1 o (by omega) a1 (by omega) (by omega) (by omega)]
  · rw [un_o (by decide)]
    exact h7 k hk
  · rw [un_25, if_pos rfl, e25, k25.1]
    have := hS.1
    omega
  · have hq : rq G j ≠ 27 + nxt G := by unfold rq; have := hS.1; omega
    have hb : 27 ≤ rq G j ∧ rq G j ≤ 56 := by unfold rq; omega
    rw [un_o (by unfold unO; omega), h8 _ (by omega) (by omega), keepM_o (by omega) hq]
  · rw [un_25, if_neg (by decide), if_pos rfl, e25, k25.2]
    omega
  · rw [e25, k25.2]
/-- a row of the model stands for the island of G -/
def RW (G : Mem) (A : Nat → Int) (f : Nat) : Prop :=
  (∀ h : Nat, (h : Int) < G 1 0 → A (f + h) = G 3 h ∧ A (f + 8 + h) = G 4 h ∧ A (f + 16 + h) = G 5 h) ∧
  (∀ h : Nat, G 1 0 ≤ h → h < 8 → A (f + 8 + h) = 0 ∧ A (f + 16 + h) = 0) ∧
  (∀ c : Nat, (c : Int) < G 1 5 → A (f + 24 + 15 * c) = G 8 c ∧ A (f + 25 + 15 * c) = G 9 c ∧ A (f + 26 + 15 * c) = G 10 c ∧ ∀ i, i < 12 → A (f + 27 + 15 * c + i) = G 11 (12 * c + i)) ∧
  A (f + 114) = G 1 13 ∧ (∀ k : Nat, (k : Int) < 5 * G 1 13 → A (f + 115 + k) = G 12 k) ∧ A (f + 475) = G 1 12
abbrev szI (G : Mem) : Prop := G 1 0 ≤ 8 ∧ G 1 5 ≤ 6 ∧ G 1 13 ≤ 72
theorem RW.sh {G : Mem} {A A' : Nat → Int} {f f' : Nat} (hI : szI G) (h : RW G A f) (e : ∀ k, k < 476 → A' (f' + k) = A (f + k)) : RW G A' f' := by
  obtain ⟨h1, h2, h3, h4, h5, h6⟩ := h
  have ee : ∀ k m, m < 476 → k = m → A' (f' + k) = A (f + m) := fun k m a b => by rw [b]; exact e m a
  refine ⟨fun k hk => ?_, fun k hk hk8 => ?_, fun c hc => ?_, ?_, fun k hk => ?_, ?_⟩
  · have := h1 k hk
    rw [Nat.add_assoc f' 8, Nat.add_assoc f' 16, e k (by omega), e (8 + k) (by omega), e (16 + k) (by omega), ← Nat.add_assoc, ← Nat.add_assoc]
    exact this
  · have := h2 k hk hk8
    rw [Nat.add_assoc f' 8, Nat.add_assoc f' 16, e (8 + k) (by omega), e (16 + k) (by omega), ← Nat.add_assoc, ← Nat.add_assoc]
    exact this
  · have := h3 c hc
    refine ⟨?_, ?_, ?_, fun i hi => ?_⟩
    · rw [Nat.add_assoc f', e (24 + 15 * c) (by omega), ← Nat.add_assoc]; exact this.1
    · rw [Nat.add_assoc f', e (25 + 15 * c) (by omega), ← Nat.add_assoc]; exact this.2.1
    · rw [Nat.add_assoc f', e (26 + 15 * c) (by omega), ← Nat.add_assoc]; exact this.2.2.1
    · rw [show f' + 27 + 15 * c + i = f' + (27 + 15 * c + i) by omega, e (27 + 15 * c + i) (by omega), show f + (27 + 15 * c + i) = f + 27 + 15 * c + i by omega]; exact this.2.2.2 i hi
  · rw [e 114 (by omega)]; exact h4
  · rw [Nat.add_assoc f', e (115 + k) (by omega), ← Nat.add_assoc]; exact h5 k hk
  · rw [e 475 (by omega)]; exact h6
theorem RW.eq {n : Nat} {D : Int} {G G' : Mem} {A : Nat → Int} {f : Nat} (hE : EQ n D G G') (hD : G 1 13 ≤ D) (h : RW G A f) : RW G' A f := by
  obtain ⟨e1, e2, _⟩ := hE
  unfold RW at h ⊢
  rw [e1 1 (by decide) (by decide) (by decide), e1 3 (by decide) (by decide) (by decide), e1 4 (by decide) (by decide) (by decide), e1 5 (by decide) (by decide) (by decide), e1 8 (by decide) (by decide) (by decide), e1 9 (by decide) (by decide) (by decide), e1 10 (by decide) (by decide) (by decide), e1 11 (by decide) (by decide) (by decide)]
  exact ⟨h.1, h.2.1, h.2.2.1, h.2.2.2.1, fun k hk => by rw [e2 k (by omega)]; exact h.2.2.2.2.1 k hk, h.2.2.2.2.2⟩
