/-! A SEED; TAKING BACK; WHAT OTHER CALLS LEAVE -/
theorem un_sd {X : Mem} {v : Int} : un (up X 1 12 v) = un X := by
  have er : rw0 (up X 1 12 v) = rw0 X := by unfold rw0; rw [up_o (by decide)]
  have eR : up X 1 12 v (rw0 X) = X (rw0 X) := up_row (by unfold rw0; omega)
  funext o k
  by_cases a1 : o = 1
  · subst a1
    rw [un_1, un_1, er, eR]
    by_cases k12 : k = 12
    · rw [if_pos k12, if_pos k12]
    · rw [if_neg k12, if_neg k12, up_k k12]
  by_cases a3 : o = 3 ∨ o = 4 ∨ o = 5
  · rw [un_h a3, un_h a3, er, eR, up_k (k' := 0) (by decide), up_o a1]
  by_cases a8 : o = 8 ∨ o = 9 ∨ o = 10
  · rw [un_c a8, un_c a8, er, eR, up_o a1]
    unfold isC
    rw [up_k (by decide)]
  by_cases a11 : o = 11
  · subst a11
    rw [un_11, un_11, er, eR, up_o a1]
    unfold isIn isC
    rw [up_k (k' := 5) (by decide), up_o (o' := 7) (by decide)]
  by_cases a25 : o = 25
  · subst a25
    rw [un_25, un_25, up_o a1, up_o a1, up_o a1]
  rw [un_o (by unfold unO; omega), un_o (by unfold unO; omega), up_o a1]
theorem AU.sd {G : Mem} {v : Int} (h : AU G) (hv : 0 ≤ v ∧ v ≤ 50000) : AU (up G 1 12 v) := by
  have e25 : up G 1 12 v 25 = G 25 := up_row (by decide)
  refine ⟨by rw [e25]; exact h.1, fun j hj => ?_⟩
  rw [e25] at hj
  cases j with
  | zero =>
    have h0 := h.2 0 (by have := h.1; omega)
    obtain ⟨hl, hS, hO, hx, hD, hT⟩ := h0.1
    refine ⟨⟨?_, ?_, ?_, ?_, ?_, ?_⟩, fun hc => ?_⟩
    · show LW (up G 1 12 v)
      unfold LW IB isT TxOk at hl ⊢
      rw [up_k (k' := 0) (by decide), up_k (k' := 5) (by decide), up_k (k' := 15) (by decide), up_k (k' := 16) (by decide), up_row (o' := 2) (by decide), up_row (o' := 3) (by decide), up_row (o' := 4) (by decide), up_row (o' := 6) (by decide), up_row (o' := 7) (by decide), up_row (by omega), up_row (by omega), up_row (by omega)]
      exact hl
    · show SI (up G 1 12 v)
      unfold SI; rw [e25]; exact hS
    · show OWN (up G 1 12 v)
      unfold OWN ownr isIn isC isH at hO ⊢
      rw [up_k (k' := 0) (by decide), up_k (k' := 5) (by decide), up_row (o' := 7) (by decide), up_row (o' := 10) (by decide), up_row (o' := 11) (by decide)]
      exact hO
    · show 0 ≤ up G 1 12 v 1 12 ∧ up G 1 12 v 1 12 ≤ 50000
      rw [up_s]; exact hv
    · show DR (up G 1 12 v)
      unfold DR
      rw [up_k (k' := 13) (by decide), up_k (k' := 5) (by decide), up_row (o' := 5) (by decide), dsum_c (B := G) _ (fun k _ => by rw [up_row (by decide)])]
      exact hD
    · show ST (up G 1 12 v)
      unfold ST isC isH at hT ⊢
      rw [up_k (k' := 0) (by decide), up_k (k' := 5) (by decide), up_row (o' := 7) (by decide), up_row (o' := 8) (by decide), up_row (o' := 9) (by decide), up_row (o' := 10) (by decide)]
      exact hT
    · have hr := h0.2 (by show 1 ≤ G 25 1; have : up G 1 12 v 25 1 = G 25 1 := by rw [e25]
                          rw [← this]; exact hc)
      have er : rw0 (up G 1 12 v) = rw0 G := by unfold rw0; rw [up_o (by decide)]
      show rowC (up G 1 12 v)
      unfold rowC
      rw [er, up_row (o' := rw0 G) (by unfold rw0; omega), up_k (by decide), up_k (by decide), up_k (by decide)]
      exact hr
  | succ j =>
    show GR (und j (un (up G 1 12 v)))
    rw [un_sd]
    exact h.2 (j + 1) hj
theorem RW.fr {X Y : Mem} {A : Nat → Int} {f : Nat} (h : RW X A f) (e1 : Y 1 0 = X 1 0 ∧ Y 1 5 = X 1 5 ∧ Y 1 12 = X 1 12 ∧ Y 1 13 = X 1 13) (eo : ∀ o, 3 ≤ o → o ≤ 12 → Y o = X o) : RW Y A f := by
  unfold RW at h ⊢
  rw [e1.1, e1.2.1, e1.2.2.1, e1.2.2.2, eo 3 (by decide) (by decide), eo 4 (by decide) (by decide), eo 5 (by decide) (by decide), eo 8 (by decide) (by decide), eo 9 (by decide) (by decide), eo 10 (by decide) (by decide), eo 11 (by decide) (by decide), eo 12 (by decide) (by decide)]
  exact h
theorem RA.sd {G : Mem} {A : Nat → Int} {v : Int} (hA : AU G) (h : RA G A) : RA (up G 1 12 v) (setN A 515 v) := by
  obtain ⟨⟨⟨a0, a1, a2, a3⟩, a10, a20⟩, a4, aR, aS⟩ := h
  have hG := hA.gm
  have i1 := hG.1.1.1
  have i2 := hG.1.1.2.1
  have hsz := hG.sz
  refine ⟨⟨⟨?_, ?_, ?_, ?_⟩, fun k hk => ?_, fun k hk => ?_⟩, ?_, ?_, fun n hn j j1 jn => ?_⟩
  · rw [setN_o (by decide), up_k (by decide)]; exact a0
  · rw [setN_o (by decide), up_k (by decide)]; exact a1
  · rw [setN_o (by decide), up_k (by decide)]; exact a2
  · rw [setN_o (by decide), up_k (by decide)]; exact a3
  · rw [up_k (by decide)] at hk; rw [setN_o (by omega), up_o (by decide)]; exact a10 k hk
  · rw [up_k (by decide)] at hk; rw [setN_o (by omega), setN_o (by omega), up_o (by decide), up_o (by decide)]; exact a20 k hk
  · rw [setN_o (by decide), up_o (by decide)]; exact a4
  · obtain ⟨r1, r2, r3, r4, r5, r6⟩ := aR
    refine ⟨fun k hk => ?_, fun k hk hk8 => ?_, fun c hc => ?_, ?_, fun k hk => ?_, ?_⟩
    · rw [up_k (by decide)] at hk; rw [setN_o (by omega), setN_o (by omega), setN_o (by omega), up_o (by decide), up_o (by decide), up_o (by decide)]; exact r1 k hk
    · rw [up_k (by decide)] at hk; rw [setN_o (by omega), setN_o (by omega)]; exact r2 k hk hk8
    · rw [up_k (by decide)] at hc
      rw [setN_o (by omega), setN_o (by omega), setN_o (by omega), up_o (by decide), up_o (by decide), up_o (by decide)]
      have := r3 c hc
      exact ⟨this.1, this.2.1, this.2.2.1, fun i hi => by rw [setN_o (by omega), up_o (by decide)]; exact this.2.2.2 i hi⟩
    · rw [setN_o (by decide), up_k (by decide)]; exact r4
    · rw [up_k (by decide)] at hk; rw [setN_o (by omega), up_o (by decide)]; exact r5 k hk
    · rw [setN_s, up_s]
  · rw [up_o (by decide)] at hn
    obtain ⟨i, rfl⟩ : ∃ i, j = i + 1 := ⟨j - 1, by omega⟩
    have hrow := aS n hn (i + 1) j1 jn
    show RW (und i (un (up G 1 12 v))) _ _
    rw [un_sd]
    exact RW.sh (hA.2 (i + 1) (by omega)).1.sz hrow (fun k hk => setN_o (by omega))
theorem RA.u1 {G : Mem} {A : Nat → Int} (hA : AU G) (h : RA G A) (h1 : 1 ≤ G 25 1) : RA (un G) (unA A) := by
  obtain ⟨⟨⟨a0, a1, a2, a3⟩, a10, a20⟩, a4, aR, aS⟩ := h
  have hG := hA.gm
  have i1 := hG.1.1.1
  have i2 := hG.1.1.2.1
  have hS := hG.2.1.2
  have eo : ∀ k, (k < 40 ∨ 516 ≤ k) → k ≠ 4 → unA A k = A k := by
    intro k hk h4
    unfold unA
    rw [cpA_lo (by omega), setN_o h4]
  have e4 : unA A 4 = A 4 - 1 := by
    unfold unA
    rw [cpA_lo (by omega), setN_s]
  refine ⟨⟨⟨?_, ?_, ?_, ?_⟩, fun k hk => ?_, fun k hk => ?_⟩, ?_, ?_, fun n hn j j1 jn => ?_⟩
  · rw [eo 0 (by decide) (by decide), un_10]; exact a0
  · rw [eo 1 (by decide) (by decide), un_15]; exact a1
  · rw [eo 2 (by decide) (by decide), un_1, if_neg (by decide), if_neg (by decide)]; exact a2
  · rw [eo 3 (by decide) (by decide), un_1, if_neg (by decide), if_neg (by decide)]; exact a3
  · rw [un_10] at hk; rw [eo _ (by omega) (by omega), un_o (by decide)]; exact a10 k hk
  · rw [un_15] at hk; rw [eo _ (by omega) (by omega), eo _ (by omega) (by omega), un_o (by decide), un_o (by decide)]; exact a20 k hk
  · rw [e4, un_251, a4]
  · have hrow := aS (G 25 1).toNat (by omega) 1 (by omega) (by omega)
    refine RW.sh (hA.2 1 (by omega)).1.sz hrow (fun k hk => ?_)
    unfold unA cpA
    rw [if_pos (by omega), setN_o (by omega), a4]
    congr 1
    omega
  · rw [un_251] at hn
    have hrow := aS (n + 1) (by omega) (j + 1) (by omega) (by omega)
    refine RW.sh (hA.2 (j + 1) (by omega)).1.sz hrow (fun k hk => ?_)
    rw [eo _ (by omega) (by omega), show n + 1 - (j + 1) = n - j by omega]
/-- the same but for what texts and readers hold -/
def AG (G G' : Mem) : Prop := (∀ k, k ≠ 15 → k ≠ 16 → G' 1 k = G 1 k) ∧ ∀ o, (2 ≤ o ∧ o ≤ 12) ∨ (25 ≤ o ∧ o ≤ 56) → G' o = G o
theorem AG.u1 {G G' : Mem} (hS : 0 ≤ G 25 2 ∧ G 25 2 < 30) (h : AG G G') : AG (un G) (un G') := by
  obtain ⟨h1, h2⟩ := h
  have er : rw0 G' = rw0 G := by unfold rw0; rw [h2 25 (by omega)]
  have eR : G' (rw0 G) = G (rw0 G) := h2 _ (by unfold rw0; omega)
  have e0 := h1 0 (by decide) (by decide)
  have e5 := h1 5 (by decide) (by decide)
  refine ⟨fun k a b => ?_, fun o ho => ?_⟩
  · rw [un_1, un_1, er, eR, h1 k a b]
  · funext k
    have eo := h2 o ho
    by_cases a3 : o = 3 ∨ o = 4 ∨ o = 5
    · rw [un_h a3, un_h a3, er, eR, e0, eo]
    by_cases a8 : o = 8 ∨ o = 9 ∨ o = 10
    · rw [un_c a8, un_c a8, er, eR, eo]
      unfold isC
      rw [e5]
    by_cases a11 : o = 11
    · subst a11
      rw [un_11, un_11, er, eR, eo]
      unfold isIn isC
      rw [e5, h2 7 (by omega)]
    by_cases a25 : o = 25
    · subst a25
      rw [un_25, un_25, eo]
    rw [un_o (by unfold unO; omega), un_o (by unfold unO; omega), eo]
theorem und_o {o : Nat} (h : unO o) : ∀ (j : Nat) (X : Mem), und j X o = X o
  | 0, _ => rfl
  | j + 1, X => by rw [und_s, un_o h, und_o h j X]
theorem und_1t {k : Nat} (h1 : k ≠ 12) (h2 : k ≠ 13) : ∀ (j : Nat) (X : Mem), und j X 1 k = X 1 k
  | 0, _ => rfl
  | j + 1, X => by rw [und_s, un_1, if_neg h1, if_neg h2, und_1t h1 h2 j X]
theorem AG.ud {G G' : Mem} (hA : AU G) (h : AG G G') : ∀ j : Nat, (j : Int) ≤ G 25 1 → AG (und j G) (und j G')
  | 0, _ => h
  | j + 1, hj => by
    rw [und_s, und_s]
    exact (AG.ud hA h j (by omega)).u1 (hA.2 j (by omega)).1.2.1.1
theorem GM.ag {G G' : Mem} (hG : GM G) (h : AG G G') (ht : G' 1 15 ≤ 4) (hT : isT G' (G' 1 16) → TxOk G' (G' 1 16).toNat) : GM G' := by
  obtain ⟨h1, h2⟩ := h
  obtain ⟨⟨hI, l2, l3, l4, l5⟩, hS, hO, hx, hD, hT2⟩ := hG
  have e0 := h1 0 (by decide) (by decide)
  have e5 := h1 5 (by decide) (by decide)
  have e12 := h1 12 (by decide) (by decide)
  have e13 := h1 13 (by decide) (by decide)
  refine ⟨⟨?_, ?_, ?_, ht, hT⟩, ?_, ?_, ?_, ?_, ?_⟩
  · unfold IB; rw [e0, e5, h2 7 (by omega)]; exact hI
  · rw [h2 2 (by omega), h2 3 (by omega), h2 4 (by omega)]; exact l2
  · rw [h2 6 (by omega)]; exact l3
  · unfold SI; rw [h2 25 (by omega)]; exact hS
  · unfold OWN ownr isIn isC isH at hO ⊢; rw [e0, e5, h2 7 (by omega), h2 10 (by omega), h2 11 (by omega)]; exact hO
  · rw [e12]; exact hx
  · unfold DR; rw [e13, e5, h2 5 (by omega), dsum_c (B := G) _ (fun k _ => by rw [h2 10 (by omega)])]; exact hD
  · unfold ST isC isH at hT2 ⊢; rw [e0, e5, h2 7 (by omega), h2 8 (by omega), h2 9 (by omega), h2 10 (by omega)]; exact hT2
theorem AU.ag {G G' : Mem} (hA : AU G) (h : AG G G') (ht : G' 1 15 ≤ 4) (hT : isT G' (G' 1 16) → TxOk G' (G' 1 16).toNat) : AU G' := by
  have e25 : G' 25 = G 25 := h.2 25 (by omega)
  refine ⟨by rw [e25]; exact hA.1, fun j hj => ?_⟩
  rw [e25] at hj
  have hg := AG.ud hA h j hj
  have hgr := hA.2 j hj
  have e15 : und j G' 1 15 = G' 1 15 := und_1t (by decide) (by decide) j G'
  have e16 : und j G' 1 16 = G' 1 16 := und_1t (by decide) (by decide) j G'
  refine ⟨hgr.1.ag hg (by rw [e15]; exact ht) ?_, fun hc => ?_⟩
  · intro hi
    unfold isT at hi
    rw [e15, e16] at hi
    have := hT hi
    unfold TxOk at this ⊢
    rw [e16, und_o (by unfold unO; omega), und_o (by unfold unO; omega), und_o (by unfold unO; omega)]
    exact this
  · rw [und_25, e25] at hc
    have hr := hgr.2 (by rw [und_25]; exact hc)
    have hs := hgr.1.2.1.1
    have er : rw0 (und j G') = rw0 (und j G) := by unfold rw0; rw [hg.2 25 (by omega)]
    have eR : und j G' (rw0 (und j G)) = und j G (rw0 (und j G)) := hg.2 _ (by unfold rw0; omega)
    unfold rowC at hr ⊢
    rw [er, eR, hg.1 0 (by decide) (by decide), hg.1 5 (by decide) (by decide), hg.1 13 (by decide) (by decide)]
    exact hr
theorem RA.ag {G G' : Mem} {A A' : Nat → Int} (hA : AU G) (h : AG G G') (hr : RA G A) (h2 : A' 2 = G' 1 15) (h3 : A' 3 = G' 1 16) (ho : ∀ k, k ≠ 2 → k ≠ 3 → A' k = A k) : RA G' A' := by
  obtain ⟨⟨⟨a0, a1, a2, a3⟩, a10, a20⟩, a4, aR, aS⟩ := hr
  have e0 := h.1 0 (by decide) (by decide)
  have e5 := h.1 5 (by decide) (by decide)
  have e25 : G' 25 = G 25 := h.2 25 (by omega)
  refine ⟨⟨⟨?_, ?_, h2, h3⟩, fun k hk => ?_, fun k hk => ?_⟩, ?_, ?_, fun n hn j j1 jn => ?_⟩
  · rw [ho 0 (by decide) (by decide), e0]; exact a0
  · rw [ho 1 (by decide) (by decide), e5]; exact a1
  · rw [e0] at hk; rw [ho _ (by omega) (by omega), h.2 2 (by omega)]; exact a10 k hk
  · rw [e5] at hk; rw [ho _ (by omega) (by omega), ho _ (by omega) (by omega), h.2 6 (by omega), h.2 7 (by omega)]; exact a20 k hk
  · rw [ho 4 (by decide) (by decide), e25]; exact a4
  · exact (RW.sh hA.gm.sz aR (fun k _ => ho _ (by omega) (by omega))).fr ⟨e0, e5, h.1 12 (by decide) (by decide), h.1 13 (by decide) (by decide)⟩ (fun o a b => h.2 o (by omega))
  · rw [e25] at hn
    have hg := AG.ud hA h j (by omega)
    exact (RW.sh (hA.2 j (by omega)).1.sz (aS n hn j j1 jn) (fun k _ => ho _ (by omega) (by omega))).fr ⟨hg.1 0 (by decide) (by decide), hg.1 5 (by decide) (by decide), hg.1 12 (by decide) (by decide), hg.1 13 (by decide) (by decide)⟩ (fun o a b => hg.2 o (by omega))
