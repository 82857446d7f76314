/-! THE IMAGE -/
abbrev inb (o k : Nat) : Prop := (2 ≤ o ∧ o ≤ 5 ∧ k < 8) ∨ (6 ≤ o ∧ o ≤ 10 ∧ k < 6) ∨ (o = 11 ∧ k < 72) ∨ (o = 12 ∧ k < 360) ∨ (o = 25 ∧ (k = 1 ∨ k = 2)) ∨ (27 ≤ o ∧ o ≤ 56 ∧ k < 32)
/-- the same in what island and steps hold -/
def AB (G G' : Mem) : Prop := (G' 1 0 = G 1 0 ∧ G' 1 5 = G 1 5 ∧ G' 1 12 = G 1 12 ∧ G' 1 13 = G 1 13) ∧ ∀ o k, inb o k → G' o k = G o k
theorem AB.u1 {G G' : Mem} (hI : IB G) (hS : 0 ≤ G 25 2 ∧ G 25 2 < 30) (h : AB G G') : AB (un G) (un G') := by
  obtain ⟨⟨e0, e5, e12, e13⟩, h2⟩ := h
  have er : rw0 G' = rw0 G := by unfold rw0; rw [h2 25 2 (by omega)]
  have hb : 27 ≤ rw0 G ∧ rw0 G ≤ 56 := by unfold rw0; omega
  have eR : ∀ k, k < 32 → G' (rw0 G) k = G (rw0 G) k := fun k hk => h2 _ k (by omega)
  have i0 := hI.1
  have i5 := hI.2.1
  refine ⟨⟨by rw [un_10, un_10, e0], by rw [un_15, un_15, e5], ?_, ?_⟩, fun o k ho => ?_⟩
  · rw [un_1, un_1, if_pos rfl, if_pos rfl, er, eR 0 (by decide)]
  · rw [un_1, un_1, if_neg (by decide), if_pos rfl, if_neg (by decide), if_pos rfl, er, eR 1 (by decide)]
  · have eo := h2 o k ho
    by_cases a3 : o = 3 ∨ o = 4 ∨ o = 5
    · rw [un_h a3, un_h a3, er, eR 7 (by decide), e0, eo]
      by_cases q : k < (min (G (rw0 G) 7) (G 1 0)).toNat
      · rw [if_pos q, if_pos q, eR _ (by omega)]
      · rw [if_neg q, if_neg q]
    by_cases a8 : o = 8 ∨ o = 9 ∨ o = 10
    · rw [un_c a8, un_c a8, er, eR 2 (by decide), eR (o - 5) (by omega), eo]
      unfold isC
      rw [e5]
    by_cases a11 : o = 11
    · subst a11
      rw [un_11, un_11, er, eR 2 (by decide), eR 6 (by decide), eo]
      have : isIn G' (G (rw0 G) 2) (G (rw0 G) 6) ↔ isIn G (G (rw0 G) 2) (G (rw0 G) 6) := by
        unfold isIn isC
        rw [e5]
        by_cases q : 0 ≤ G (rw0 G) 2 ∧ G (rw0 G) 2 < G 1 5
        · rw [h2 7 (G (rw0 G) 2).toNat (by omega)]
        · exact ⟨fun z => absurd z.1 q, fun z => absurd z.1 q⟩
      by_cases q : isIn G (G (rw0 G) 2) (G (rw0 G) 6) ∧ k = (G (rw0 G) 2 * 12 + G (rw0 G) 6).toNat
      · rw [if_pos q, if_pos ⟨this.mpr q.1, q.2⟩]
      · rw [if_neg q, if_neg (fun z => q ⟨this.mp z.1, z.2⟩)]
    by_cases a25 : o = 25
    · subst a25
      rw [un_25, un_25, h2 25 2 (by omega), h2 25 1 (by omega), eo]
    rw [un_o (by unfold unO; omega), un_o (by unfold unO; omega), eo]
theorem AB.ud {G G' : Mem} (hA : AU G) (h : AB G G') : ∀ j : Nat, (j : Int) ≤ G 25 1 → AB (und j G) (und j G')
  | 0, _ => h
  | j + 1, hj => by
    rw [und_s, und_s]
    exact (AB.ud hA h j (by omega)).u1 (hA.2 j (by omega)).1.1.1 (hA.2 j (by omega)).1.2.1.1
theorem GM.ab {G G' : Mem} (hG : GM G) (h : AB G G') (ht : G' 1 15 ≤ 4) (hT : isT G' (G' 1 16) → TxOk G' (G' 1 16).toNat) : GM G' := by
  obtain ⟨⟨e0, e5, e12, e13⟩, h2⟩ := h
  obtain ⟨⟨hI, l2, l3, l4, l5⟩, hS, hO, hx, hD, hT2⟩ := hG
  have i5 := hI.2.1
  have hin : ∀ c i, isIn G' c i ↔ isIn G c i := by
    intro c i
    unfold isIn isC
    rw [e5]
    by_cases q : 0 ≤ c ∧ c < G 1 5
    · rw [h2 7 c.toNat (by omega)]
    · exact ⟨fun z => absurd z.1 q, fun z => absurd z.1 q⟩
  have how : ∀ c i, ownr G' c i = ownr G c i := by
    intro c i
    unfold ownr
    by_cases q : isIn G c i
    · have hl := hI.2.2 c.toNat (by have := q.1; omega)
      have q1 := q.1
      have q2 := q.2
      rw [if_pos q, if_pos ((hin c i).mpr q), h2 11 _ (by omega)]
    · rw [if_neg q, if_neg (fun z => q ((hin c i).mp z))]
  refine ⟨⟨⟨?_, ?_, fun k hk => ?_⟩, fun k hk => ?_, fun k hk => ?_, ht, hT⟩, ?_, ⟨fun c i hi => ?_, fun c hc => ?_⟩, ?_, ⟨?_, fun k hk => ?_⟩, fun c hc => ?_⟩
  · rw [e0]; exact hI.1
  · rw [e5]; exact i5
  · rw [h2 7 k (by omega)]; exact hI.2.2 k hk
  · rw [h2 2 k (by omega), h2 3 k (by omega), h2 4 k (by omega)]; exact l2 k hk
  · rw [h2 6 k (by omega)]; exact l3 k hk
  · unfold SI; rw [h2 25 1 (by omega), h2 25 2 (by omega)]; exact hS
  · rw [how]
    rcases hO.1 c i ((hin c i).mp hi) with q | q
    · exact Or.inl q
    · exact Or.inr (by unfold isH at q ⊢; rw [e0]; exact q)
  · have hc2 : isC G c := by unfold isC at hc ⊢; rw [e5] at hc; exact hc
    rw [h2 10 _ (by have := hc2.1; have := hc2.2; omega), h2 7 _ (by have := hc2.1; have := hc2.2; omega)]; exact hO.2 c hc2
  · rw [e12]; exact hx
  · rw [e13, e5, dsum_c (B := G) _ (fun k hk => h2 10 k (by omega))]; exact hD.1
  · rw [e13, h2 5 k (by omega)]; exact hD.2 k hk
  · have hc2 : isC G c := by unfold isC at hc ⊢; rw [e5] at hc; exact hc
    unfold isH
    have hb : c.toNat < 6 := by have := hc2.1; have := hc2.2; omega
    rw [e0, h2 8 _ (by omega), h2 9 _ (by omega), h2 10 _ (by omega), h2 7 _ (by omega)]
    exact hT2 c hc2
theorem AU.ab {G G' : Mem} (hA : AU G) (h : AB G G') (ht : G' 1 15 ≤ 4) (hT : isT G' (G' 1 16) → TxOk G' (G' 1 16).toNat) : AU G' := by
  have e25 : G' 25 1 = G 25 1 := h.2 25 1 (by omega)
  refine ⟨by rw [e25]; exact hA.1, fun j hj => ?_⟩
  rw [e25] at hj
  have hg := AB.ud hA h j hj
  have hgr := hA.2 j hj
  have e15 : und j G' 1 15 = G' 1 15 := und_1t (by decide) (by decide) j G'
  have e16 : und j G' 1 16 = G' 1 16 := und_1t (by decide) (by decide) j G'
  refine ⟨hgr.1.ab hg (by rw [e15]; exact ht) ?_, fun hc => ?_⟩
  · intro hi
    unfold isT at hi
    rw [e15, e16] at hi
    have := hT hi
    unfold TxOk at this ⊢
    rw [e16, und_o (by unfold unO; omega), und_o (by unfold unO; omega), und_o (by unfold unO; omega)]
    exact this
  · rw [und_25, e25] at hc
    have hr := hgr.2 (by rw [und_25]; exact hc)
    have hs := hgr.1.2.1.1
    have er : rw0 (und j G') = rw0 (und j G) := by unfold rw0; rw [hg.2 25 2 (by omega)]
    have hb : 27 ≤ rw0 (und j G) ∧ rw0 (und j G) ≤ 56 := by unfold rw0; omega
    unfold rowC at hr ⊢
    rw [er, hg.2 _ 7 (by omega), hg.2 _ 2 (by omega), hg.2 _ 1 (by omega), hg.1.1, hg.1.2.1, hg.1.2.2.2]
    exact hr
theorem RW.ab {X Y : Mem} {A : Nat → Int} {f : Nat} (hsz : szI X) (h : RW X A f) (e : AB X Y) : RW Y A f := by
  obtain ⟨⟨e0, e5, e12, e13⟩, h2⟩ := e
  obtain ⟨r1, r2, r3, r4, r5, r6⟩ := h
  have s1 := hsz.1
  have s2 := hsz.2.1
  have s3 := hsz.2.2
  refine ⟨fun k hk => ?_, fun k hk hk8 => ?_, fun c hc => ?_, ?_, fun k hk => ?_, ?_⟩
  · rw [e0] at hk; rw [h2 3 k (by omega), h2 4 k (by omega), h2 5 k (by omega)]; exact r1 k hk
  · rw [e0] at hk; exact r2 k hk hk8
  · rw [e5] at hc
    have := r3 c hc
    rw [h2 8 c (by omega), h2 9 c (by omega), h2 10 c (by omega)]
    exact ⟨this.1, this.2.1, this.2.2.1, fun i hi => by rw [h2 11 _ (by omega)]; exact this.2.2.2 i hi⟩
  · rw [e13]; exact r4
  · rw [e13] at hk; rw [h2 12 k (by omega)]; exact r5 k hk
  · rw [e12]; exact r6
theorem RA.ab {G G' : Mem} {A A' : Nat → Int} (hA : AU G) (h : AB G G') (h15 : G' 1 15 = G 1 15) (h16 : G' 1 16 = G 1 16) (hr : RA G A) (ho : ∀ k, k < 14800 → A' k = A k) : RA G' A' := by
  obtain ⟨⟨⟨a0, a1, a2, a3⟩, a10, a20⟩, a4, aR, aS⟩ := hr
  have hG := hA.gm
  have i1 := hG.1.1.1
  have i2 := hG.1.1.2.1
  have hS := hG.2.1.2
  obtain ⟨⟨e0, e5, e12, e13⟩, h2⟩ := h
  refine ⟨⟨⟨?_, ?_, ?_, ?_⟩, fun k hk => ?_, fun k hk => ?_⟩, ?_, ?_, fun n hn j j1 jn => ?_⟩
  · rw [ho 0 (by decide), e0]; exact a0
  · rw [ho 1 (by decide), e5]; exact a1
  · rw [ho 2 (by decide), h15]; exact a2
  · rw [ho 3 (by decide), h16]; exact a3
  · rw [e0] at hk; rw [ho _ (by omega), h2 2 k (by omega)]; exact a10 k hk
  · rw [e5] at hk; rw [ho _ (by omega), ho _ (by omega), h2 6 k (by omega), h2 7 k (by omega)]; exact a20 k hk
  · rw [ho 4 (by decide), h2 25 1 (by omega)]; exact a4
  · exact RW.ab hG.sz (RW.sh hG.sz aR (fun k hk => ho _ (by omega))) ⟨⟨e0, e5, e12, e13⟩, h2⟩
  · rw [h2 25 1 (by omega)] at hn
    have hsz := (hA.2 j (by omega)).1.sz
    exact RW.ab hsz (RW.sh hsz (aS n hn j j1 jn) (fun k hk => ho _ (by omega))) (AB.ud hA ⟨⟨e0, e5, e12, e13⟩, h2⟩ j (by omega))
/-- the kept island as if it were the island -/
def bk (G : Mem) : Mem := fun o k => if o = 1 then G 13 k else if (2 ≤ o ∧ o ≤ 12) ∧ inb o k then G (o + 12) k else if o = 25 then G 57 k else if (27 ≤ o ∧ o ≤ 56) ∧ inb o k then G (o + 32) k else if o < 90 then 0 else G o k
theorem bk_eq {G G1 : Mem} (h : ∀ o, (13 ≤ o ∧ o ≤ 24) ∨ (57 ≤ o ∧ o ≤ 88) → G1 o = G o) : (∀ o, o < 90 → bk G1 o = bk G o) ∧ ∀ o, 90 ≤ o → bk G1 o = G1 o := by
  refine ⟨fun o ho => ?_, fun o ho => ?_⟩
  · funext k
    unfold bk
    by_cases a1 : o = 1
    · rw [if_pos a1, if_pos a1, h 13 (by omega)]
    rw [if_neg a1, if_neg a1]
    by_cases a2 : (2 ≤ o ∧ o ≤ 12) ∧ inb o k
    · rw [if_pos a2, if_pos a2, h _ (by omega)]
    rw [if_neg a2, if_neg a2]
    by_cases a3 : o = 25
    · rw [if_pos a3, if_pos a3, h 57 (by omega)]
    rw [if_neg a3, if_neg a3]
    by_cases a4 : (27 ≤ o ∧ o ≤ 56) ∧ inb o k
    · rw [if_pos a4, if_pos a4, h _ (by omega)]
    rw [if_neg a4, if_neg a4, if_pos ho, if_pos ho]
  · funext k
    unfold bk
    rw [if_neg (by omega), if_neg (by omega), if_neg (by omega), if_neg (by omega), if_neg (by omega)]
theorem cpy_n {M : Mem} {f t n o k : Nat} (h : o ≠ t) : cpy M f t n o k = M o k := by unfold cpy; rw [if_neg (fun z => h z.1)]
def imgM (G : Mem) : Mem := cpS (cpI G 13 1) 57 25
theorem img_0 (G : Mem) : imgM G 13 0 = G 1 0 ∧ imgM G 13 5 = G 1 5 ∧ imgM G 13 12 = G 1 12 ∧ imgM G 13 13 = G 1 13 ∧ imgM G 13 15 = G 1 15 ∧ imgM G 13 16 = G 1 16 := by
  unfold imgM cpS
  refine ⟨?_, ?_, ?_, ?_, ?_, ?_⟩ <;> simp [cpR, cpI, cpy, up]
theorem img_1 {G : Mem} {k : Nat} (h : k < 8) : imgM G 14 k = G 2 k := by
  unfold imgM cpS
  simp [cpR, cpI, cpy, up, h]
theorem img_2 {G : Mem} {k : Nat} (h : k < 8) : imgM G 15 k = G 3 k := by
  unfold imgM cpS
  simp [cpR, cpI, cpy, up, h]
theorem img_3 {G : Mem} {k : Nat} (h : k < 8) : imgM G 16 k = G 4 k := by
  unfold imgM cpS
  simp [cpR, cpI, cpy, up, h]
theorem img_4 {G : Mem} {k : Nat} (h : k < 8) : imgM G 17 k = G 5 k := by
  unfold imgM cpS
  simp [cpR, cpI, cpy, up, h]
theorem img_5 {G : Mem} {k : Nat} (h : k < 6) : imgM G 18 k = G 6 k := by
  unfold imgM cpS
  simp [cpR, cpI, cpy, up, h]
theorem img_6 {G : Mem} {k : Nat} (h : k < 6) : imgM G 19 k = G 7 k := by
  unfold imgM cpS
  simp [cpR, cpI, cpy, up, h]
theorem img_7 {G : Mem} {k : Nat} (h : k < 6) : imgM G 20 k = G 8 k := by
  unfold imgM cpS
  simp [cpR, cpI, cpy, up, h]
theorem img_8 {G : Mem} {k : Nat} (h : k < 6) : imgM G 21 k = G 9 k := by
  unfold imgM cpS
  simp [cpR, cpI, cpy, up, h]
theorem img_9 {G : Mem} {k : Nat} (h : k < 6) : imgM G 22 k = G 10 k := by
  unfold imgM cpS
  simp [cpR, cpI, cpy, up, h]
theorem img_10 {G : Mem} {k : Nat} (h : k < 72) : imgM G 23 k = G 11 k := by
  unfold imgM cpS
  simp [cpR, cpI, cpy, up, h]
theorem img_11 {G : Mem} {k : Nat} (h : k < 360) : imgM G 24 k = G 12 k := by
  unfold imgM cpS
  simp [cpR, cpI, cpy, up, h]
theorem img_s (G : Mem) : imgM G 57 1 = G 25 1 ∧ imgM G 57 2 = G 25 2 := by
  unfold imgM cpS
  refine ⟨?_, ?_⟩ <;> simp [cpR, cpI, cpy, up]
theorem img_r {G : Mem} {q k : Nat} (hq : q < 30) (h : k < 32) : imgM G (59 + q) k = G (27 + q) k := by
  unfold imgM cpS cpR
  rw [if_pos (by omega), show 59 + q - (57 + 2) + (25 + 2) = 27 + q by omega]
  unfold cpI cpy up
  simp only []
  repeat (rw [if_neg (by omega)])
theorem img_o {G : Mem} {o : Nat} (h1 : o < 13 ∨ 24 < o) (h2 : o < 57 ∨ 88 < o) : imgM G o = G o := by
  funext k
  unfold imgM cpS cpR
  rw [if_neg (by omega), up_o (by omega), up_o (by omega)]
  unfold cpI
  rw [cpy_n (by omega), cpy_n (by omega), cpy_n (by omega), cpy_n (by omega), cpy_n (by omega), cpy_n (by omega), cpy_n (by omega), cpy_n (by omega), cpy_n (by omega), cpy_n (by omega), cpy_n (by omega), up_o (by omega), up_o (by omega), up_o (by omega), up_o (by omega), up_o (by omega), up_o (by omega)]
def bckM (G : Mem) : Mem := cpS (cpI G 1 13) 25 57
theorem bck_0 (G : Mem) : bckM G 1 0 = G 13 0 ∧ bckM G 1 5 = G 13 5 ∧ bckM G 1 12 = G 13 12 ∧ bckM G 1 13 = G 13 13 ∧ bckM G 1 15 = G 13 15 ∧ bckM G 1 16 = G 13 16 := by
  unfold bckM cpS
  refine ⟨?_, ?_, ?_, ?_, ?_, ?_⟩ <;> simp [cpR, cpI, cpy, up]
theorem bck_1 {G : Mem} {k : Nat} (h : k < 8) : bckM G 2 k = G 14 k := by
  unfold bckM cpS
  simp [cpR, cpI, cpy, up, h]
theorem bck_2 {G : Mem} {k : Nat} (h : k < 8) : bckM G 3 k = G 15 k := by
  unfold bckM cpS
  simp [cpR, cpI, cpy, up, h]
theorem bck_3 {G : Mem} {k : Nat} (h : k < 8) : bckM G 4 k = G 16 k := by
  unfold bckM cpS
  simp [cpR, cpI, cpy, up, h]
theorem bck_4 {G : Mem} {k : Nat} (h : k < 8) : bckM G 5 k = G 17 k := by
  unfold bckM cpS
  simp [cpR, cpI, cpy, up, h]
theorem bck_5 {G : Mem} {k : Nat} (h : k < 6) : bckM G 6 k = G 18 k := by
  unfold bckM cpS
  simp [cpR, cpI, cpy, up, h]
theorem bck_6 {G : Mem} {k : Nat} (h : k < 6) : bckM G 7 k = G 19 k := by
  unfold bckM cpS
  simp [cpR, cpI, cpy, up, h]
theorem bck_7 {G : Mem} {k : Nat} (h : k < 6) : bckM G 8 k = G 20 k := by
  unfold bckM cpS
  simp [cpR, cpI, cpy, up, h]
theorem bck_8 {G : Mem} {k : Nat} (h : k < 6) : bckM G 9 k = G 21 k := by
  unfold bckM cpS
  simp [cpR, cpI, cpy, up, h]
theorem bck_9 {G : Mem} {k : Nat} (h : k < 6) : bckM G 10 k = G 22 k := by
  unfold bckM cpS
  simp [cpR, cpI, cpy, up, h]
theorem bck_10 {G : Mem} {k : Nat} (h : k < 72) : bckM G 11 k = G 23 k := by
  unfold bckM cpS
  simp [cpR, cpI, cpy, up, h]
theorem bck_11 {G : Mem} {k : Nat} (h : k < 360) : bckM G 12 k = G 24 k := by
  unfold bckM cpS
  simp [cpR, cpI, cpy, up, h]
theorem bck_s (G : Mem) : bckM G 25 1 = G 57 1 ∧ bckM G 25 2 = G 57 2 := by
  unfold bckM cpS
  refine ⟨?_, ?_⟩ <;> simp [cpR, cpI, cpy, up]
theorem bck_r {G : Mem} {q k : Nat} (hq : q < 30) (h : k < 32) : bckM G (27 + q) k = G (59 + q) k := by
  unfold bckM cpS cpR
  rw [if_pos (by omega), show 27 + q - (25 + 2) + (57 + 2) = 59 + q by omega]
  unfold cpI cpy up
  simp only []
  repeat (rw [if_neg (by omega)])
theorem bck_o {G : Mem} {o : Nat} (h1 : o < 1 ∨ 12 < o) (h2 : o < 25 ∨ 56 < o) : bckM G o = G o := by
  funext k
  unfold bckM cpS cpR
  rw [if_neg (by omega), up_o (by omega), up_o (by omega)]
  unfold cpI
  rw [cpy_n (by omega), cpy_n (by omega), cpy_n (by omega), cpy_n (by omega), cpy_n (by omega), cpy_n (by omega), cpy_n (by omega), cpy_n (by omega), cpy_n (by omega), cpy_n (by omega), cpy_n (by omega), up_o (by omega), up_o (by omega), up_o (by omega), up_o (by omega), up_o (by omega), up_o (by omega)]
theorem img_ab (G : Mem) : AB G (bk (imgM G)) ∧ bk (imgM G) 1 15 = G 1 15 ∧ bk (imgM G) 1 16 = G 1 16 := by
  have e1 : ∀ k, bk (imgM G) 1 k = imgM G 13 k := fun k => by unfold bk; rw [if_pos rfl]
  have e0 := img_0 G
  refine ⟨⟨⟨(e1 0).trans e0.1, (e1 5).trans e0.2.1, (e1 12).trans e0.2.2.1, (e1 13).trans e0.2.2.2.1⟩, fun o k h => ?_⟩, (e1 15).trans e0.2.2.2.2.1, (e1 16).trans e0.2.2.2.2.2⟩
  unfold bk
  by_cases a2 : 2 ≤ o ∧ o ≤ 12
  · rw [if_neg (by omega), if_pos ⟨a2, h⟩]
    obtain ⟨r, rfl⟩ : ∃ r, o = 1 + r := ⟨o - 1, by omega⟩
    rcases (show r = 1 ∨ r = 2 ∨ r = 3 ∨ r = 4 ∨ r = 5 ∨ r = 6 ∨ r = 7 ∨ r = 8 ∨ r = 9 ∨ r = 10 ∨ r = 11 by omega) with q | q | q | q | q | q | q | q | q | q | q <;> subst q
    · exact img_1 (by omega)
    · exact img_2 (by omega)
    · exact img_3 (by omega)
    · exact img_4 (by omega)
    · exact img_5 (by omega)
    · exact img_6 (by omega)
    · exact img_7 (by omega)
    · exact img_8 (by omega)
    · exact img_9 (by omega)
    · exact img_10 (by omega)
    · exact img_11 (by omega)
  · rw [if_neg (by omega), if_neg (fun z => a2 z.1)]
    by_cases a25 : o = 25
    · rw [if_pos a25]
      subst a25
      rcases (show k = 1 ∨ k = 2 by omega) with q | q <;> subst q
      · exact (img_s G).1
      · exact (img_s G).2
    · rw [if_neg a25, if_pos ⟨by omega, h⟩]
      obtain ⟨q, rfl⟩ : ∃ q, o = 27 + q := ⟨o - 27, by omega⟩
      rw [show 27 + q + 32 = 59 + q by omega]
      exact img_r (by omega) (by omega)
theorem bck_ab (G : Mem) : AB (bk G) (bckM G) ∧ bckM G 1 15 = bk G 1 15 ∧ bckM G 1 16 = bk G 1 16 := by
  have e1 : ∀ k, bk G 1 k = G 13 k := fun k => by unfold bk; rw [if_pos rfl]
  have e0 := bck_0 G
  refine ⟨⟨⟨e0.1.trans (e1 0).symm, e0.2.1.trans (e1 5).symm, e0.2.2.1.trans (e1 12).symm, e0.2.2.2.1.trans (e1 13).symm⟩, fun o k h => ?_⟩, e0.2.2.2.2.1.trans (e1 15).symm, e0.2.2.2.2.2.trans (e1 16).symm⟩
  unfold bk
  by_cases a2 : 2 ≤ o ∧ o ≤ 12
  · rw [if_neg (by omega), if_pos ⟨a2, h⟩]
    obtain ⟨r, rfl⟩ : ∃ r, o = 1 + r := ⟨o - 1, by omega⟩
    rcases (show r = 1 ∨ r = 2 ∨ r = 3 ∨ r = 4 ∨ r = 5 ∨ r = 6 ∨ r = 7 ∨ r = 8 ∨ r = 9 ∨ r = 10 ∨ r = 11 by omega) with q | q | q | q | q | q | q | q | q | q | q <;> subst q
    · exact bck_1 (by omega)
    · exact bck_2 (by omega)
    · exact bck_3 (by omega)
    · exact bck_4 (by omega)
    · exact bck_5 (by omega)
    · exact bck_6 (by omega)
    · exact bck_7 (by omega)
    · exact bck_8 (by omega)
    · exact bck_9 (by omega)
    · exact bck_10 (by omega)
    · exact bck_11 (by omega)
  · rw [if_neg (by omega), if_neg (fun z => a2 z.1)]
    by_cases a25 : o = 25
    · rw [if_pos a25]
      subst a25
      rcases (show k = 1 ∨ k = 2 by omega) with q | q <;> subst q
      · exact (bck_s G).1
      · exact (bck_s G).2
    · rw [if_neg a25, if_pos ⟨by omega, h⟩]
      obtain ⟨q, rfl⟩ : ∃ q, o = 27 + q := ⟨o - 27, by omega⟩
      rw [show 27 + q + 32 = 59 + q by omega]
      exact bck_r (by omega) (by omega)
