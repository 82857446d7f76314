/-! TELLING A CANDLE, A SEED; TAKING BACK -/
theorem aC_1 {X : Mem} {a b : Int} {k : Nat} (h : k ≠ 5) : addC X a b 1 k = X 1 k := by
  unfold addC addC0
  rw [up_k h, fill_o (by decide), up_o (by decide), up_o (by decide), up_o (by decide), up_o (by decide), up_o (by decide)]
theorem aC_15 (X : Mem) (a b : Int) : addC X a b 1 5 = X 1 5 + 1 := by unfold addC; rw [up_s]
theorem aC_o {X : Mem} {a b : Int} {o : Nat} (h : o ≠ 1) (h2 : o < 6 ∨ 11 < o) : addC X a b o = X o := by
  funext k
  unfold addC addC0
  rw [up_o h, fill_o (by omega), up_o (by omega), up_o (by omega), up_o (by omega), up_o (by omega), up_o (by omega)]
theorem aC_n {X : Mem} {a b : Int} {o k : Nat} (h : o ≠ 1) (h11 : o ≠ 11) (hk : k ≠ (X 1 5).toNat) : addC X a b o k = X o k := by
  unfold addC addC0
  rw [up_o h, fill_o h11, up_k hk, up_k hk, up_k hk, up_k hk, up_k hk]
theorem aC_c (X : Mem) (a b : Int) : addC X a b 6 (X 1 5).toNat = a ∧ addC X a b 7 (X 1 5).toNat = b ∧ addC X a b 8 (X 1 5).toNat = 0 ∧ addC X a b 9 (X 1 5).toNat = -1 ∧ addC X a b 10 (X 1 5).toNat = 0 := by
  unfold addC addC0
  refine ⟨?_, ?_, ?_, ?_, ?_⟩
  · rw [up_o (by decide), fill_o (by decide), up_o (by decide), up_o (by decide), up_o (by decide), up_o (by decide), up_s]
  · rw [up_o (by decide), fill_o (by decide), up_o (by decide), up_o (by decide), up_o (by decide), up_s]
  · rw [up_o (by decide), fill_o (by decide), up_o (by decide), up_o (by decide), up_s]
  · rw [up_o (by decide), fill_o (by decide), up_o (by decide), up_s]
  · rw [up_o (by decide), fill_o (by decide), up_s]
theorem aC_11 (X : Mem) (a b : Int) (k : Nat) : addC X a b 11 k = if 12 * (X 1 5).toNat ≤ k ∧ k < 12 * (X 1 5).toNat + 12 then -1 else X 11 k := by
  unfold addC addC0 fill
  rw [up_o (by decide)]
  by_cases q : 12 * (X 1 5).toNat ≤ k ∧ k < 12 * (X 1 5).toNat + 12
  · rw [if_pos q, if_pos ⟨rfl, q⟩]
  · rw [if_neg q, if_neg (fun z => q z.2), up_o (by decide), up_o (by decide), up_o (by decide), up_o (by decide), up_o (by decide)]
theorem aC_isC {X : Mem} {a b c : Int} (h0 : 0 ≤ X 1 5) (h : c < X 1 5) : (isC (addC X a b) c ↔ isC X c) ∧ ∀ i, isIn (addC X a b) c i ↔ isIn X c i := by
  refine ⟨?_, fun i => ?_⟩
  · unfold isC; rw [aC_15]; omega
  · unfold isIn isC
    rw [aC_15]
    by_cases q : 0 ≤ c
    · rw [aC_n (by decide) (by decide) (by omega)]; omega
    · omega
theorem un_aC {X : Mem} {a b : Int} (hI : IB X) (hr : rowC X) : un (addC X a b) = addC (un X) a b := by
  have h0 := hI.2.1
  have er : rw0 (addC X a b) = rw0 X := by unfold rw0; rw [aC_o (by decide) (by decide)]
  have eR : addC X a b (rw0 X) = X (rw0 X) := aC_o (by unfold rw0; omega) (by unfold rw0; omega)
  have hc := aC_isC (a := a) (b := b) h0.1 hr.2.1
  have hr2 := hr.2.1
  funext o k
  by_cases a1 : o = 1
  · subst a1
    rw [un_1, er, eR]
    by_cases k0 : k = 5
    · subst k0
      rw [if_neg (by decide), if_neg (by decide), aC_15, aC_15, un_15]
    · rw [aC_1 k0, aC_1 k0, un_1]
  by_cases a3 : o = 3 ∨ o = 4 ∨ o = 5
  · rw [un_h a3, er, eR, aC_1 (by decide), aC_o a1 (by omega), aC_o a1 (by omega), un_h a3]
  have e1 := aC_c X a b
  have e2 := aC_c (un X) a b
  rw [un_15] at e2
  by_cases a8 : o = 8 ∨ o = 9 ∨ o = 10
  · rw [un_c a8, er, eR]
    by_cases kc : k = (X 1 5).toNat
    · rw [if_neg (fun z => by have := z.1.1; omega), kc]
      rcases a8 with rfl | rfl | rfl
      · rw [e1.2.2.1, e2.2.2.1]
      · rw [e1.2.2.2.1, e2.2.2.2.1]
      · rw [e1.2.2.2.2, e2.2.2.2.2]
    · rw [aC_n a1 (by omega) kc, aC_n a1 (by omega) (by rw [un_15]; exact kc), un_c a8]
      by_cases q : isC X (X (rw0 X) 2) ∧ k = (X (rw0 X) 2).toNat
      · rw [if_pos q, if_pos ⟨hc.1.mpr q.1, q.2⟩]
      · rw [if_neg q, if_neg (fun z => q ⟨hc.1.mp z.1, z.2⟩)]
  by_cases a11 : o = 11
  · subst a11
    rw [un_11, er, eR, aC_11, aC_11, un_15, un_11]
    by_cases q : isIn X (X (rw0 X) 2) (X (rw0 X) 6) ∧ k = (X (rw0 X) 2 * 12 + X (rw0 X) 6).toNat
    · have hl := hI.2.2 (X (rw0 X) 2).toNat (by have := q.1.1; omega)
      have hi := q.1.2
      have hcc := q.1.1
      rw [if_pos ⟨(hc.2 _).mpr q.1, q.2⟩, if_neg (by omega), if_pos q]
    · rw [if_neg (fun z => q ⟨(hc.2 _).mp z.1, z.2⟩), if_neg q]
  by_cases a25 : o = 25
  · subst a25
    rw [un_25, aC_o a1 (by decide), aC_o a1 (by decide), un_25]
  rw [un_o (by unfold unO; omega)]
  by_cases a6 : o = 6 ∨ o = 7
  · by_cases kc : k = (X 1 5).toNat
    · rw [kc]
      rcases a6 with rfl | rfl
      · rw [e1.1, e2.1]
      · rw [e1.2.1, e2.2.1]
    · rw [aC_n a1 (by omega) kc, aC_n a1 (by omega) (by rw [un_15]; exact kc), un_o (by unfold unO; omega)]
  · rw [aC_o a1 (by omega), aC_o a1 (by omega), un_o (by unfold unO; omega)]
theorem und_aC {G : Mem} {a b : Int} (h : AU G) : ∀ j : Nat, (j : Int) ≤ G 25 1 → und j (addC G a b) = addC (und j G) a b
  | 0, _ => rfl
  | j + 1, hj => by
    have h1 := h.2 j (by omega)
    rw [und_s, und_aC h j (by omega), und_s, un_aC (h1.1.1.1) (h1.2 (by rw [und_25]; omega))]
theorem GM.aC {X : Mem} {a b : Int} (hG : GM X) (ha : 1 ≤ a ∧ a ≤ 9 ∧ 1 ≤ b ∧ b ≤ 12) (h6 : X 1 5 < 6) : GM (addC X a b) := by
  obtain ⟨⟨⟨i1, i2, i3⟩, l2, l3, l4, l5⟩, hS, hO, hx, hD, hT⟩ := hG
  have hh := aC_c X a b
  have hcs : ∀ c, isC (addC X a b) c → isC X c ∨ c = X 1 5 := by
    intro c hc
    unfold isC at hc ⊢
    rw [aC_15] at hc
    omega
  refine ⟨⟨⟨?_, ?_, fun k hk => ?_⟩, fun h h9 => ?_, fun k hk => ?_, ?_, ?_⟩, ?_, ⟨fun c i hi => ?_, fun c hc => ?_⟩, ?_, ⟨?_, fun k hk => ?_⟩, fun c hc => ?_⟩
  · rw [aC_1 (by decide)]; exact i1
  · rw [aC_15]; omega
  · by_cases q : k = (X 1 5).toNat
    · rw [q, hh.2.1]; omega
    · rw [aC_n (by decide) (by decide) q]; exact i3 k hk
  · rw [aC_o (o := 2) (by decide) (by decide), aC_o (o := 3) (by decide) (by decide), aC_o (o := 4) (by decide) (by decide)]; exact l2 h h9
  · by_cases q : k = (X 1 5).toNat
    · rw [q, hh.1]; omega
    · rw [aC_n (by decide) (by decide) q]; exact l3 k hk
  · rw [aC_1 (by decide)]; exact l4
  · intro ht
    unfold isT at ht
    rw [aC_1 (by decide), aC_1 (by decide)] at ht
    have := l5 ht
    unfold TxOk at this ⊢
    rw [aC_1 (by decide), aC_o (by omega) (by omega), aC_o (by omega) (by omega), aC_o (by omega) (by omega)]
    exact this
  · unfold SI; rw [aC_o (by decide) (by decide)]; exact hS
  · have hb : 0 ≤ i := hi.2.1
    have hi12 : i < 12 := by
      have h1 := hi.2.2
      have hc0 := hi.1.1
      by_cases q : c.toNat = (X 1 5).toNat
      · rw [q, hh.2.1] at h1; omega
      · rw [aC_n (by decide) (by decide) q] at h1
        have := i3 c.toNat (by have := hi.1.2; rw [aC_15] at this; omega)
        omega
    rcases hcs c hi.1 with q | q
    · have hi2 : isIn X c i := ((aC_isC i2.1 q.2).2 i).mp hi
      have eo : ownr (addC X a b) c i = ownr X c i := by
        unfold ownr
        rw [if_pos hi, if_pos hi2, aC_11, if_neg (by have := q.2; have := q.1; omega)]
      rw [eo]
      rcases hO.1 c i hi2 with q | q
      · exact Or.inl q
      · exact Or.inr ⟨q.1, by rw [aC_1 (by decide)]; exact q.2⟩
    · refine Or.inl ?_
      unfold ownr
      rw [if_pos hi, aC_11, if_pos (by omega)]
  · rcases hcs c hc with q | q
    · rw [aC_n (by decide) (by decide) (by have := q.1; have := q.2; omega), aC_n (by decide) (by decide) (by have := q.1; have := q.2; omega)]; exact hO.2 c q
    · rw [q, hh.2.2.2.2, hh.2.1]; omega
  · rw [aC_1 (by decide)]; exact hx
  · rw [aC_1 (by decide), aC_15, show (X 1 5 + 1).toNat = (X 1 5).toNat + 1 by omega]
    unfold dsum
    rw [dsum_c (B := X) _ (fun k hk => aC_n (by decide) (by decide) (by omega)), hh.2.2.2.2, Int.add_zero]; exact hD.1
  · rw [aC_1 (by decide), aC_o (by decide) (by decide)]; exact hD.2 k hk
  · unfold isH
    rw [aC_1 (k := 0) (by decide)]
    rcases hcs c hc with q | q
    · have q1 := q.1
      have q2 := q.2
      rw [aC_n (o := 8) (by decide) (by decide) (by omega), aC_n (o := 9) (by decide) (by decide) (by omega), aC_n (o := 10) (by decide) (by decide) (by omega), aC_n (o := 7) (by decide) (by decide) (by omega)]; exact hT c q
    · rw [q, hh.2.2.1, hh.2.2.2.2]
      exact ⟨by omega, fun _ => rfl, fun z => by omega⟩
theorem rowC.aC {X : Mem} {a b : Int} (h : rowC X) : rowC (addC X a b) := by
  have er : rw0 (addC X a b) = rw0 X := by unfold rw0; rw [aC_o (by decide) (by decide)]
  have eR : addC X a b (rw0 X) = X (rw0 X) := aC_o (by unfold rw0; omega) (by unfold rw0; omega)
  obtain ⟨h1, h2, h3⟩ := h
  unfold rowC
  rw [er, eR, aC_15, aC_1 (by decide), aC_1 (by decide)]
  exact ⟨h1, by omega, h3⟩
theorem AU.aC {G : Mem} {a b : Int} (h : AU G) (ha : 1 ≤ a ∧ a ≤ 9 ∧ 1 ≤ b ∧ b ≤ 12) (h6 : G 1 5 < 6) : AU (addC G a b) := by
  have e25 : addC G a b 25 = G 25 := aC_o (by decide) (by decide)
  refine ⟨by rw [e25]; exact h.1, fun j hj => ?_⟩
  rw [e25] at hj
  rw [und_aC h j hj]
  have h1 := h.2 j hj
  refine ⟨h1.1.aC ha (by rw [(und_10 j G).2]; exact h6), fun hc => (h1.2 ?_).aC⟩
  rw [aC_o (by decide) (by decide)] at hc
  exact hc
/-- the fifteen places of a candle newly told -/
def c15 (k : Nat) : Int := if k = 0 then 0 else if k = 2 then 0 else -1
theorem RW.aC {X : Mem} {a b : Int} {A A' : Nat → Int} {f c : Nat} (hc : X 1 5 = c) (h6 : c < 6) (hsz : szI X) (hr : RW X A f) (e1 : ∀ k, k < 476 → (k < 24 + 15 * c ∨ 39 + 15 * c ≤ k) → A' (f + k) = A (f + k)) (e2 : ∀ k, k < 15 → A' (f + (24 + 15 * c + k)) = c15 k) : RW (addC X a b) A' f := by
  obtain ⟨r1, r2, r3, r4, r5, r6⟩ := hr
  have ha := aC_c X a b
  have hcn : (X 1 5).toNat = c := by omega
  rw [hcn] at ha
  refine ⟨fun k hk => ?_, fun k hk hk8 => ?_, fun m hm => ?_, ?_, fun k hk => ?_, ?_⟩
  · rw [aC_1 (by decide)] at hk
    have h0 := hsz.1
    rw [aC_o (o := 3) (by decide) (by decide), aC_o (o := 4) (by decide) (by decide), aC_o (o := 5) (by decide) (by decide), Nat.add_assoc f 8, Nat.add_assoc f 16, e1 k (by omega) (by omega), e1 (8 + k) (by omega) (by omega), e1 (16 + k) (by omega) (by omega), ← Nat.add_assoc, ← Nat.add_assoc]
    exact r1 k hk
  · rw [aC_1 (by decide)] at hk
    rw [Nat.add_assoc f 8, Nat.add_assoc f 16, e1 (8 + k) (by omega) (by omega), e1 (16 + k) (by omega) (by omega), ← Nat.add_assoc, ← Nat.add_assoc]
    exact r2 k hk hk8
  · rw [aC_15, hc] at hm
    by_cases q : m = c
    · subst q
      have z0 := e2 0 (by omega)
      have z1 := e2 1 (by omega)
      have z2 := e2 2 (by omega)
      rw [ha.2.2.1, ha.2.2.2.1, ha.2.2.2.2]
      refine ⟨?_, ?_, ?_, fun i hi => ?_⟩
      · rw [show f + 24 + 15 * m = f + (24 + 15 * m + 0) by omega, z0]; rfl
      · rw [show f + 25 + 15 * m = f + (24 + 15 * m + 1) by omega, z1]; rfl
      · rw [show f + 26 + 15 * m = f + (24 + 15 * m + 2) by omega, z2]; rfl
      · rw [show f + 27 + 15 * m + i = f + (24 + 15 * m + (3 + i)) by omega, e2 (3 + i) (by omega), aC_11, if_pos (by omega)]
        unfold c15
        rw [if_neg (by omega), if_neg (by omega)]
    · have := r3 m (by omega)
      rw [aC_n (o := 8) (by decide) (by decide) (by omega), aC_n (o := 9) (by decide) (by decide) (by omega), aC_n (o := 10) (by decide) (by decide) (by omega), Nat.add_assoc f 24, e1 (24 + 15 * m) (by omega) (by omega), Nat.add_assoc f 25, e1 (25 + 15 * m) (by omega) (by omega), Nat.add_assoc f 26, e1 (26 + 15 * m) (by omega) (by omega), ← Nat.add_assoc, ← Nat.add_assoc, ← Nat.add_assoc]
      refine ⟨this.1, this.2.1, this.2.2.1, fun i hi => ?_⟩
      rw [show f + 27 + 15 * m + i = f + (27 + 15 * m + i) by omega, e1 (27 + 15 * m + i) (by omega) (by omega), show f + (27 + 15 * m + i) = f + 27 + 15 * m + i by omega, aC_11, if_neg (by omega)]
      exact this.2.2.2 i hi
  · rw [aC_1 (by decide), e1 114 (by omega) (by omega)]; exact r4
  · rw [aC_1 (by decide)] at hk
    have h5 := hsz.2.2
    rw [aC_o (by decide) (by decide), Nat.add_assoc f 115, e1 (115 + k) (by omega) (by omega), ← Nat.add_assoc]
    exact r5 k hk
  · rw [aC_1 (by decide), e1 475 (by omega) (by omega)]; exact r6
def cndA (A : Nat → Int) (f c : Nat) : Nat → Int := fun k => if f + (24 + 15 * c) ≤ k ∧ k < f + (39 + 15 * c) then c15 (k - (f + (24 + 15 * c))) else A k
def cndS (A : Nat → Int) (c : Nat) : Nat → Nat → Int
  | 0 => A
  | n + 1 => cndA (cndS A c n) (520 + 476 * n) c
theorem cndS_lo {A : Nat → Int} {c : Nat} : ∀ n k, k < 520 → cndS A c n k = A k
  | 0, _, _ => rfl
  | n + 1, k, h => by
    show cndA (cndS A c n) (520 + 476 * n) c k = _
    unfold cndA
    rw [if_neg (by omega), cndS_lo n k h]
theorem cndS_at {A : Nat → Int} {c : Nat} (hc : c < 6) {r k : Nat} (hk : k < 476) : ∀ n, cndS A c n (520 + 476 * r + k) = if r < n ∧ 24 + 15 * c ≤ k ∧ k < 39 + 15 * c then c15 (k - (24 + 15 * c)) else A (520 + 476 * r + k)
  | 0 => by rw [if_neg (by omega)]; rfl
  | n + 1 => by
    show cndA (cndS A c n) (520 + 476 * n) c _ = _
    unfold cndA
    by_cases q : r = n
    · subst q
      by_cases q2 : 24 + 15 * c ≤ k ∧ k < 39 + 15 * c
      · rw [if_pos (by omega), if_pos (by omega)]
        congr 1
        omega
      · rw [if_neg (by omega), cndS_at hc hk r, if_neg (by omega), if_neg (by omega)]
    · rw [if_neg (by omega), cndS_at hc hk n]
      by_cases q2 : r < n ∧ 24 + 15 * c ≤ k ∧ k < 39 + 15 * c
      · rw [if_pos q2, if_pos (by omega)]
      · rw [if_neg q2, if_neg (by omega)]
def candleA (A : Nat → Int) (n : Nat) (a b : Int) : Nat → Int := cndS (cndA (setN (setN A (20 + 2 * (A 1).toNat) a) (21 + 2 * (A 1).toNat) b) 40 (A 1).toNat) (A 1).toNat n
theorem RA.aC {G : Mem} {A : Nat → Int} {a b : Int} (hA : AU G) (h : RA G A) (h6 : G 1 5 < 6) : RA (addC G a b) (setN (candleA A (A 4).toNat a b) 1 (A 1 + 1)) := by
  obtain ⟨⟨⟨a0, a1, a2, a3⟩, a10, a20⟩, a4, aR, aS⟩ := h
  have hG := hA.gm
  have hI := hG.1.1
  have hS := hG.2.1.2
  have i1 := hI.1
  have i2 := hI.2.1
  have eo : ∀ k, k < 520 → k ≠ 1 → k ≠ 20 + 2 * (A 1).toNat → k ≠ 21 + 2 * (A 1).toNat → (k < 64 + 15 * (A 1).toNat ∨ 79 + 15 * (A 1).toNat ≤ k) → setN (candleA A (A 4).toNat a b) 1 (A 1 + 1) k = A k := by
    intro k a b c e f
    rw [setN_o b]
    unfold candleA
    rw [cndS_lo _ _ a]
    unfold cndA
    rw [if_neg (by omega), setN_o e, setN_o c]
  have hh := aC_c G a b
  refine ⟨⟨⟨?_, ?_, ?_, ?_⟩, fun k hk => ?_, fun k hk => ?_⟩, ?_, ?_, fun n hn j j1 jn => ?_⟩
  · rw [eo 0 (by omega) (by omega) (by omega) (by omega) (by omega), aC_1 (by decide)]; exact a0
  · rw [setN_s, aC_15, a1]
  · rw [eo 2 (by omega) (by omega) (by omega) (by omega) (by omega), aC_1 (by decide)]; exact a2
  · rw [eo 3 (by omega) (by omega) (by omega) (by omega) (by omega), aC_1 (by decide)]; exact a3
  · rw [aC_1 (by decide)] at hk
    rw [eo _ (by omega) (by omega) (by omega) (by omega) (by omega), aC_o (by decide) (by decide)]
    exact a10 k hk
  · rw [aC_15] at hk
    by_cases q : k = (G 1 5).toNat
    · rw [q, hh.1, hh.2.1, setN_o (by omega), setN_o (by omega)]
      unfold candleA
      rw [cndS_lo _ _ (by omega), cndS_lo _ _ (by omega)]
      unfold cndA
      rw [if_neg (by omega), if_neg (by omega), a1, setN_o (by omega), setN_s, setN_s]
      exact ⟨rfl, rfl⟩
    · rw [eo _ (by omega) (by omega) (by omega) (by omega) (by omega), eo _ (by omega) (by omega) (by omega) (by omega) (by omega), aC_n (by decide) (by decide) q, aC_n (by decide) (by decide) q]
      exact a20 k (by omega)
  · rw [eo 4 (by omega) (by omega) (by omega) (by omega) (by omega), aC_o (by decide) (by decide)]; exact a4
  · refine RW.aC (c := (G 1 5).toNat) (by omega) (by omega) hG.sz aR (fun k hk hne => ?_) (fun k hk => ?_)
    · rw [eo _ (by omega) (by omega) (by omega) (by omega) (by omega)]
    · rw [setN_o (by omega)]
      unfold candleA
      rw [cndS_lo _ _ (by omega)]
      unfold cndA
      rw [a1, if_pos (by omega)]
      congr 1
      omega
  · rw [aC_o (by decide) (by decide)] at hn
    rw [und_aC hA j (by omega)]
    have hrow := aS n hn j j1 jn
    have hu := und_10 j G
    have ek : ∀ k, k < 476 → setN (candleA A (A 4).toNat a b) 1 (A 1 + 1) (520 + 476 * (n - j) + k) = if 24 + 15 * (G 1 5).toNat ≤ k ∧ k < 39 + 15 * (G 1 5).toNat then c15 (k - (24 + 15 * (G 1 5).toNat)) else A (520 + 476 * (n - j) + k) := by
      intro k hk
      rw [setN_o (by omega)]
      unfold candleA
      rw [a1, cndS_at (by omega) hk]
      by_cases q : 24 + 15 * (G 1 5).toNat ≤ k ∧ k < 39 + 15 * (G 1 5).toNat
      · rw [if_pos (by omega), if_pos q]
      · rw [if_neg (by omega), if_neg q]
        unfold cndA
        rw [if_neg (by omega), setN_o (by omega), setN_o (by omega)]
    refine RW.aC (c := (G 1 5).toNat) (by rw [hu.2]; omega) (by omega) (hA.2 j (by omega)).1.sz hrow (fun k hk hne => ?_) (fun k hk => ?_)
    · rw [ek k hk, if_neg (by omega)]
    · rw [ek _ (by omega), if_pos (by omega)]
      congr 1
      omega
