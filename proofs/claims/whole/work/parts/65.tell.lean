/-! TELLING A HOUSE, A CANDLE, A SEED -/
theorem aH_1 {X : Mem} {a b : Int} {k : Nat} (h : k ≠ 0) : addH X a b 1 k = X 1 k := by
  unfold addH
  rw [up_k h, up_o (by decide), up_o (by decide), up_o (by decide), up_o (by decide)]
theorem aH_10 (X : Mem) (a b : Int) : addH X a b 1 0 = X 1 0 + 1 := by unfold addH; rw [up_s]
theorem aH_o {X : Mem} {a b : Int} {o : Nat} (h : o ≠ 1) (h2 : o < 2 ∨ 5 < o) : addH X a b o = X o := by
  unfold addH
  rw [up_row h, up_row (by omega), up_row (by omega), up_row (by omega), up_row (by omega)]
theorem aH_n {X : Mem} {a b : Int} {o k : Nat} (h : o ≠ 1) (hk : k ≠ (X 1 0).toNat) : addH X a b o k = X o k := by
  unfold addH
  rw [up_o h, up_k hk, up_k hk, up_k hk, up_k hk]
theorem aH_h (X : Mem) (a b : Int) : addH X a b 2 (X 1 0).toNat = a ∧ addH X a b 3 (X 1 0).toNat = b ∧ addH X a b 4 (X 1 0).toNat = 0 ∧ addH X a b 5 (X 1 0).toNat = 0 := by
  unfold addH
  refine ⟨?_, ?_, ?_, ?_⟩
  · rw [up_o (by decide), up_o (by decide), up_o (by decide), up_o (by decide), up_s]
  · rw [up_o (by decide), up_o (by decide), up_o (by decide), up_s]
  · rw [up_o (by decide), up_o (by decide), up_s]
  · rw [up_o (by decide), up_s]
theorem un_10 (X : Mem) : un X 1 0 = X 1 0 := by rw [un_1, if_neg (by decide), if_neg (by decide)]
theorem un_15 (X : Mem) : un X 1 5 = X 1 5 := by rw [un_1, if_neg (by decide), if_neg (by decide)]
theorem un_aH {X : Mem} {a b : Int} (h0 : 0 ≤ X 1 0) (hr : rowC X) : un (addH X a b) = addH (un X) a b := by
  have er : rw0 (addH X a b) = rw0 X := by unfold rw0; rw [aH_o (by decide) (by decide)]
  have eR : addH X a b (rw0 X) = X (rw0 X) := aH_o (by unfold rw0; omega) (by unfold rw0; omega)
  have hr1 := hr.1
  funext o k
  by_cases a1 : o = 1
  · subst a1
    rw [un_1, er, eR]
    by_cases k0 : k = 0
    · subst k0
      rw [if_neg (by decide), if_neg (by decide), aH_10, aH_10, un_10]
    · rw [aH_1 k0, aH_1 k0, un_1]
  by_cases a3 : o = 3 ∨ o = 4 ∨ o = 5
  · rw [un_h a3, er, eR, aH_10, show min (X (rw0 X) 7) (X 1 0 + 1) = min (X (rw0 X) 7) (X 1 0) by omega]
    by_cases kh : k = (X 1 0).toNat
    · have e1 := aH_h X a b
      have e2 := aH_h (un X) a b
      rw [un_10] at e2
      rw [if_neg (by omega), kh]
      rcases a3 with rfl | rfl | rfl
      · rw [e1.2.1, e2.2.1]
      · rw [e1.2.2.1, e2.2.2.1]
      · rw [e1.2.2.2, e2.2.2.2]
    · rw [aH_n a1 kh, aH_n a1 (by rw [un_10]; exact kh), un_h a3]
  by_cases a8 : o = 8 ∨ o = 9 ∨ o = 10
  · rw [un_c a8, er, eR, aH_o a1 (by omega), aH_o a1 (by omega), un_c a8]
    unfold isC
    rw [aH_1 (by decide)]
  by_cases a11 : o = 11
  · subst a11
    rw [un_11, er, eR, aH_o a1 (by omega), aH_o a1 (by omega), un_11]
    unfold isIn isC
    rw [aH_1 (by decide), aH_o (o := 7) (by decide) (by decide)]
  by_cases a25 : o = 25
  · subst a25
    rw [un_25, aH_o a1 (by decide), aH_o a1 (by decide), un_25]
  rw [un_o (by unfold unO; omega)]
  by_cases a2 : o = 2
  · subst a2
    by_cases kh : k = (X 1 0).toNat
    · have e1 := aH_h X a b
      have e2 := aH_h (un X) a b
      rw [un_10] at e2
      rw [kh, e1.1, e2.1]
    · rw [aH_n a1 kh, aH_n a1 (by rw [un_10]; exact kh), un_o (by decide)]
  · rw [aH_o a1 (by omega), aH_o a1 (by omega), un_o (by unfold unO; omega)]
theorem und_10 : ∀ (j : Nat) (X : Mem), und j X 1 0 = X 1 0 ∧ und j X 1 5 = X 1 5
  | 0, _ => ⟨rfl, rfl⟩
  | j + 1, X => by
    have := und_10 j (un X)
    rw [un_10, un_15] at this
    exact this
theorem und_aH {G : Mem} {a b : Int} (h : AU G) : ∀ j : Nat, (j : Int) ≤ G 25 1 → und j (addH G a b) = addH (und j G) a b
  | 0, _ => rfl
  | j + 1, hj => by
    have h1 := h.2 j (by omega)
    rw [und_s, und_aH h j (by omega), und_s, un_aH (h1.1.1.1.1.1) (h1.2 (by rw [und_25]; omega))]
theorem GM.aH {X : Mem} {a b : Int} (hG : GM X) (ha : 0 ≤ a ∧ a ≤ 9 ∧ 0 ≤ b ∧ b ≤ 999) (h8 : X 1 0 < 8) : GM (addH X a b) := by
  obtain ⟨⟨⟨i1, i2, i3⟩, l2, l3, l4, l5⟩, hS, hO, hx, hD, hT⟩ := hG
  have hh := aH_h X a b
  have e7 : addH X a b 7 = X 7 := aH_o (by decide) (by decide)
  have e10 : addH X a b 10 = X 10 := aH_o (by decide) (by decide)
  refine ⟨⟨⟨?_, ?_, ?_⟩, fun h h9 => ?_, ?_, ?_, ?_⟩, ?_, ⟨fun c i hi => ?_, fun c hc => ?_⟩, ?_, ⟨?_, fun k hk => ?_⟩, fun c hc => ?_⟩
  · rw [aH_10]; omega
  · rw [aH_1 (by decide)]; exact i2
  · rw [e7]; exact i3
  · by_cases q : h = (X 1 0).toNat
    · rw [q, hh.1, hh.2.1, hh.2.2.1]; omega
    · rw [aH_n (by decide) q, aH_n (by decide) q, aH_n (by decide) q]; exact l2 h h9
  · rw [aH_o (by decide) (by decide)]; exact l3
  · rw [aH_1 (by decide)]; exact l4
  · intro ht
    unfold isT at ht
    rw [aH_1 (by decide), aH_1 (by decide)] at ht
    have := l5 ht
    unfold TxOk at this ⊢
    rw [aH_1 (by decide), aH_o (by omega) (by omega), aH_o (by omega) (by omega), aH_o (by omega) (by omega)]
    exact this
  · unfold SI; rw [aH_o (by decide) (by decide)]; exact hS
  · have hi2 : isIn X c i := by unfold isIn isC at hi ⊢; rw [aH_1 (by decide), e7] at hi; exact hi
    have eo : ownr (addH X a b) c i = ownr X c i := by unfold ownr isIn isC; rw [aH_1 (by decide), e7, aH_o (by decide) (by decide)]
    rw [eo]
    rcases hO.1 c i hi2 with q | q
    · exact Or.inl q
    · exact Or.inr ⟨q.1, by rw [aH_10]; have := q.2; omega⟩
  · have hc2 : isC X c := by unfold isC at hc ⊢; rw [aH_1 (by decide)] at hc; exact hc
    rw [e7, e10]; exact hO.2 c hc2
  · rw [aH_1 (by decide)]; exact hx
  · rw [aH_1 (by decide), aH_1 (by decide), dsum_c (B := X) _ (fun k _ => by rw [e10])]; exact hD.1
  · rw [aH_1 (by decide)]
    have := hD.2 k hk
    by_cases q : k = (X 1 0).toNat
    · rw [q, hh.2.2.2]; omega
    · rw [aH_n (by decide) q]; exact this
  · have hc2 : isC X c := by unfold isC at hc ⊢; rw [aH_1 (by decide)] at hc; exact hc
    have := hT c hc2
    rw [aH_o (o := 8) (by decide) (by decide), aH_o (o := 9) (by decide) (by decide), e7, e10]
    exact ⟨this.1, this.2.1, fun q => ⟨⟨(this.2.2 q).1.1, by rw [aH_10]; have := (this.2.2 q).1.2; omega⟩, (this.2.2 q).2⟩⟩
theorem rowC.aH {X : Mem} {a b : Int} (h : rowC X) : rowC (addH X a b) := by
  have er : rw0 (addH X a b) = rw0 X := by unfold rw0; rw [aH_o (by decide) (by decide)]
  have eR : addH X a b (rw0 X) = X (rw0 X) := aH_o (by unfold rw0; omega) (by unfold rw0; omega)
  obtain ⟨h1, h2, h3⟩ := h
  unfold rowC
  rw [er, eR, aH_10, aH_1 (by decide), aH_1 (by decide)]
  exact ⟨by omega, h2, h3⟩
theorem AU.aH {G : Mem} {a b : Int} (h : AU G) (ha : 0 ≤ a ∧ a ≤ 9 ∧ 0 ≤ b ∧ b ≤ 999) (h8 : G 1 0 < 8) : AU (addH G a b) := by
  have e25 : addH G a b 25 = G 25 := aH_o (by decide) (by decide)
  refine ⟨by rw [e25]; exact h.1, fun j hj => ?_⟩
  rw [e25] at hj
  rw [und_aH h j hj]
  have h1 := h.2 j hj
  refine ⟨h1.1.aH ha (by rw [(und_10 j G).1]; exact h8), fun hc => (h1.2 ?_).aH⟩
  rw [aH_o (by decide) (by decide)] at hc
  exact hc
theorem RW.aH {X : Mem} {a b : Int} {A A' : Nat → Int} {f h : Nat} (hh : X 1 0 = h) (h8 : h < 8) (hsz : szI X) (hr : RW X A f) (e1 : ∀ k, k < 476 → k ≠ h → A' (f + k) = A (f + k)) (e2 : A' (f + h) = b) : RW (addH X a b) A' f := by
  obtain ⟨r1, r2, r3, r4, r5, r6⟩ := hr
  have ha := aH_h X a b
  have hhn : (X 1 0).toNat = h := by omega
  rw [hhn] at ha
  have z := r2 h (by omega) h8
  refine ⟨fun k hk => ?_, fun k hk hk8 => ?_, fun c hc => ?_, ?_, fun k hk => ?_, ?_⟩
  · rw [aH_10, hh] at hk
    by_cases q : k = h
    · subst q
      rw [e2, ha.2.1, ha.2.2.1, ha.2.2.2, Nat.add_assoc f 8, Nat.add_assoc f 16, e1 (8 + k) (by omega) (by omega), e1 (16 + k) (by omega) (by omega), ← Nat.add_assoc, ← Nat.add_assoc]
      exact ⟨rfl, z⟩
    · rw [aH_n (by decide) (by omega), aH_n (by decide) (by omega), aH_n (by decide) (by omega), Nat.add_assoc f 8, Nat.add_assoc f 16, e1 k (by omega) q, e1 (8 + k) (by omega) (by omega), e1 (16 + k) (by omega) (by omega), ← Nat.add_assoc, ← Nat.add_assoc]
      exact r1 k (by omega)
  · rw [aH_10, hh] at hk
    rw [Nat.add_assoc f 8, Nat.add_assoc f 16, e1 (8 + k) (by omega) (by omega), e1 (16 + k) (by omega) (by omega), ← Nat.add_assoc, ← Nat.add_assoc]
    exact r2 k (by omega) hk8
  · rw [aH_1 (by decide)] at hc
    have := r3 c hc
    have h5 := hsz.2.1
    rw [aH_o (o := 8) (by decide) (by decide), aH_o (o := 9) (by decide) (by decide), aH_o (o := 10) (by decide) (by decide), aH_o (o := 11) (by decide) (by decide), Nat.add_assoc f 24, e1 (24 + 15 * c) (by omega) (by omega), Nat.add_assoc f 25, e1 (25 + 15 * c) (by omega) (by omega), Nat.add_assoc f 26, e1 (26 + 15 * c) (by omega) (by omega), ← Nat.add_assoc, ← Nat.add_assoc, ← Nat.add_assoc]
    refine ⟨this.1, this.2.1, this.2.2.1, fun i hi => ?_⟩
    rw [show f + 27 + 15 * c + i = f + (27 + 15 * c + i) by omega, e1 (27 + 15 * c + i) (by omega) (by omega), show f + (27 + 15 * c + i) = f + 27 + 15 * c + i by omega]
    exact this.2.2.2 i hi
  · rw [aH_1 (by decide), e1 114 (by omega) (by omega)]; exact r4
  · rw [aH_1 (by decide)] at hk
    have h5 := hsz.2.2
    rw [aH_o (by decide) (by decide), Nat.add_assoc f 115, e1 (115 + k) (by omega) (by omega), ← Nat.add_assoc]
    exact r5 k hk
  · rw [aH_1 (by decide), e1 475 (by omega) (by omega)]; exact r6
def houseA (A : Nat → Int) (n : Nat) (a b : Int) : Nat → Int := fun k => if k = 10 + (A 0).toNat then a else if k = 40 + (A 0).toNat then b else if 520 ≤ k ∧ k < 520 + 476 * n ∧ (k - 520) % 476 = (A 0).toNat then b else A k
theorem RA.aH {G : Mem} {A : Nat → Int} {a b : Int} (hA : AU G) (h : RA G A) (h8 : G 1 0 < 8) : RA (addH G a b) (setN (houseA A (A 4).toNat a b) 0 (A 0 + 1)) := by
  obtain ⟨⟨⟨a0, a1, a2, a3⟩, a10, a20⟩, a4, aR, aS⟩ := h
  have hG := hA.gm
  have hI := hG.1.1
  have hS := hG.2.1.2
  have i1 := hI.1
  have i2 := hI.2.1
  have eo : ∀ k, k < 520 → k ≠ 0 → k ≠ 10 + (A 0).toNat → k ≠ 40 + (A 0).toNat → setN (houseA A (A 4).toNat a b) 0 (A 0 + 1) k = A k := by
    intro k a b c e
    rw [setN_o b]
    unfold houseA
    rw [if_neg c, if_neg e, if_neg (by omega)]
  have hh := aH_h G a b
  refine ⟨⟨⟨?_, ?_, ?_, ?_⟩, fun k hk => ?_, fun k hk => ?_⟩, ?_, ?_, fun n hn j j1 jn => ?_⟩
  · rw [setN_s, aH_10, a0]
  · rw [eo 1 (by omega) (by omega) (by omega) (by omega), aH_1 (by decide)]; exact a1
  · rw [eo 2 (by omega) (by omega) (by omega) (by omega), aH_1 (by decide)]; exact a2
  · rw [eo 3 (by omega) (by omega) (by omega) (by omega), aH_1 (by decide)]; exact a3
  · rw [aH_10] at hk
    by_cases q : k = (G 1 0).toNat
    · rw [q, hh.1, setN_o (by omega)]
      unfold houseA
      rw [a0, if_pos rfl]
    · rw [eo _ (by omega) (by omega) (by omega) (by omega), aH_n (by decide) q]
      exact a10 k (by omega)
  · rw [aH_1 (by decide)] at hk
    rw [eo _ (by omega) (by omega) (by omega) (by omega), eo _ (by omega) (by omega) (by omega) (by omega), aH_o (o := 6) (by decide) (by decide), aH_o (o := 7) (by decide) (by decide)]
    exact a20 k hk
  · rw [eo 4 (by omega) (by omega) (by omega) (by omega), aH_o (by decide) (by decide)]; exact a4
  · refine RW.aH (h := (G 1 0).toNat) (by omega) (by omega) hG.sz aR (fun k hk hne => ?_) ?_
    · rw [eo _ (by omega) (by omega) (by omega) (by omega)]
    · rw [setN_o (by omega)]
      unfold houseA
      rw [a0, if_neg (by omega), if_pos rfl]
  · rw [aH_o (by decide) (by decide)] at hn
    rw [und_aH hA j (by omega)]
    have hrow := aS n hn j j1 jn
    have hu := und_10 j G
    refine RW.aH (h := (G 1 0).toNat) (by rw [hu.1]; omega) (by omega) (hA.2 j (by omega)).1.sz hrow (fun k hk hne => ?_) ?_
    · rw [setN_o (by omega)]
      unfold houseA
      rw [a0, if_neg (by omega), if_neg (by omega), if_neg (by omega)]
    · rw [setN_o (by omega)]
      unfold houseA
      rw [a0, if_neg (by omega), if_neg (by omega), if_pos (by omega)]
