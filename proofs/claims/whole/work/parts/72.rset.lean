/-! A ROW OF THE MODEL AND ONE WRITE -/
theorem RW.h {X : Mem} {A : Nat → Int} {f o k n : Nat} {v : Int} (hr : RW X A f) (hsz : szI X) (ho : o = 3 ∨ o = 4 ∨ o = 5) (hk : (k : Int) < X 1 0) (hn : n = f + 8 * (o - 3) + k) : RW (up X o k v) (setN A n v) f := by
  obtain ⟨r1, r2, r3, r4, r5, r6⟩ := hr
  have s1 := hsz.1
  have s2 := hsz.2.1
  have s3 := hsz.2.2
  have e1 : up X o k v 1 = X 1 := up_row (by omega)
  unfold RW
  rw [e1]
  refine ⟨fun m hm => ?_, fun m hm hm8 => ?_, fun c hc => ?_, ?_, fun m hm => ?_, ?_⟩
  · have q := r1 m hm
    by_cases e : m = k
    · subst e
      rcases ho with rfl | rfl | rfl
      · rw [show f + m = n by omega, setN_s, up_s, setN_o (by omega), setN_o (by omega), up_o (by decide), up_o (by decide)]; exact ⟨rfl, q.2⟩
      · rw [show f + 8 + m = n by omega, setN_s, up_s, setN_o (by omega), setN_o (by omega), up_o (by decide), up_o (by decide)]; exact ⟨q.1, rfl, q.2.2⟩
      · rw [show f + 16 + m = n by omega, setN_s, up_s, setN_o (by omega), setN_o (by omega), up_o (by decide), up_o (by decide)]; exact ⟨q.1, q.2.1, rfl⟩
    · rw [setN_o (by omega), setN_o (by omega), setN_o (by omega), up_k e, up_k e, up_k e]; exact q
  · rw [setN_o (by omega), setN_o (by omega)]; exact r2 m hm hm8
  · have q := r3 c hc
    rw [setN_o (by omega), setN_o (by omega), setN_o (by omega), up_o (by omega), up_o (by omega), up_o (by omega)]
    exact ⟨q.1, q.2.1, q.2.2.1, fun i hi => by rw [setN_o (by omega), up_o (by omega)]; exact q.2.2.2 i hi⟩
  · rw [setN_o (by omega)]; exact r4
  · rw [setN_o (by omega), up_o (by omega)]; exact r5 m hm
  · rw [setN_o (by omega)]; exact r6
theorem RW.c {X : Mem} {A : Nat → Int} {f o k n : Nat} {v : Int} (hr : RW X A f) (hsz : szI X) (ho : o = 8 ∨ o = 9 ∨ o = 10) (hk : (k : Int) < X 1 5) (hn : n = f + (16 + o) + 15 * k) : RW (up X o k v) (setN A n v) f := by
  obtain ⟨r1, r2, r3, r4, r5, r6⟩ := hr
  have s1 := hsz.1
  have s2 := hsz.2.1
  have s3 := hsz.2.2
  have e1 : up X o k v 1 = X 1 := up_row (by omega)
  unfold RW
  rw [e1]
  refine ⟨fun m hm => ?_, fun m hm hm8 => ?_, fun c hc => ?_, ?_, fun m hm => ?_, ?_⟩
  · rw [setN_o (by omega), setN_o (by omega), setN_o (by omega), up_o (by omega), up_o (by omega), up_o (by omega)]; exact r1 m hm
  · rw [setN_o (by omega), setN_o (by omega)]; exact r2 m hm hm8
  · have q := r3 c hc
    have q4 : ∀ i, i < 12 → setN A n v (f + 27 + 15 * c + i) = up X o k v 11 (12 * c + i) := fun i hi => by rw [setN_o (by omega), up_o (by omega)]; exact q.2.2.2 i hi
    by_cases e : c = k
    · subst e
      rcases ho with rfl | rfl | rfl
      · rw [show f + 24 + 15 * c = n by omega, setN_s, up_s, setN_o (by omega), setN_o (by omega), up_o (by decide), up_o (by decide)]; exact ⟨rfl, q.2.1, q.2.2.1, q4⟩
      · rw [show f + 25 + 15 * c = n by omega, setN_s, up_s, setN_o (by omega), setN_o (by omega), up_o (by decide), up_o (by decide)]; exact ⟨q.1, rfl, q.2.2.1, q4⟩
      · rw [show f + 26 + 15 * c = n by omega, setN_s, up_s, setN_o (by omega), setN_o (by omega), up_o (by decide), up_o (by decide)]; exact ⟨q.1, q.2.1, rfl, q4⟩
    · rw [setN_o (by omega), setN_o (by omega), setN_o (by omega), up_k e, up_k e, up_k e]
      exact ⟨q.1, q.2.1, q.2.2.1, q4⟩
  · rw [setN_o (by omega)]; exact r4
  · rw [setN_o (by omega), up_o (by omega)]; exact r5 m hm
  · rw [setN_o (by omega)]; exact r6
theorem RW.ow {X : Mem} {A : Nat → Int} {f c i k n : Nat} {v : Int} (hr : RW X A f) (hsz : szI X) (hc : (c : Int) < X 1 5) (hi : i < 12) (hk : k = 12 * c + i) (hn : n = f + 27 + 15 * c + i) : RW (up X 11 k v) (setN A n v) f := by
  obtain ⟨r1, r2, r3, r4, r5, r6⟩ := hr
  have s1 := hsz.1
  have s2 := hsz.2.1
  have s3 := hsz.2.2
  have e1 : up X 11 k v 1 = X 1 := up_row (by omega)
  unfold RW
  rw [e1]
  refine ⟨fun m hm => ?_, fun m hm hm8 => ?_, fun c2 hc2 => ?_, ?_, fun m hm => ?_, ?_⟩
  · rw [setN_o (by omega), setN_o (by omega), setN_o (by omega), up_o (by omega), up_o (by omega), up_o (by omega)]; exact r1 m hm
  · rw [setN_o (by omega), setN_o (by omega)]; exact r2 m hm hm8
  · have q := r3 c2 hc2
    rw [setN_o (by omega), setN_o (by omega), setN_o (by omega), up_o (by omega), up_o (by omega), up_o (by omega)]
    refine ⟨q.1, q.2.1, q.2.2.1, fun i2 hi2 => ?_⟩
    by_cases e : c2 = c ∧ i2 = i
    · rw [show f + 27 + 15 * c2 + i2 = n by omega, setN_s, show 12 * c2 + i2 = k by omega, up_s]
    · rw [setN_o (by omega), up_k (by omega)]; exact q.2.2.2 i2 hi2
  · rw [setN_o (by omega)]; exact r4
  · rw [setN_o (by omega), up_o (by omega)]; exact r5 m hm
  · rw [setN_o (by omega)]; exact r6
theorem RW.x {X : Mem} {A : Nat → Int} {f n : Nat} {v : Int} (hr : RW X A f) (hsz : szI X) (hn : n = f + 475) : RW (up X 1 12 v) (setN A n v) f := by
  obtain ⟨r1, r2, r3, r4, r5, r6⟩ := hr
  have s1 := hsz.1
  have s2 := hsz.2.1
  have s3 := hsz.2.2
  refine ⟨fun m hm => ?_, fun m hm hm8 => ?_, fun c hc => ?_, ?_, fun m hm => ?_, ?_⟩
  · rw [up_k (by decide)] at hm; rw [setN_o (by omega), setN_o (by omega), setN_o (by omega), up_o (by decide), up_o (by decide), up_o (by decide)]; exact r1 m hm
  · rw [up_k (by decide)] at hm; rw [setN_o (by omega), setN_o (by omega)]; exact r2 m hm hm8
  · rw [up_k (by decide)] at hc
    have q := r3 c hc
    rw [setN_o (by omega), setN_o (by omega), setN_o (by omega), up_o (by decide), up_o (by decide), up_o (by decide)]
    exact ⟨q.1, q.2.1, q.2.2.1, fun i hi => by rw [setN_o (by omega), up_o (by decide)]; exact q.2.2.2 i hi⟩
  · rw [setN_o (by omega), up_k (by decide)]; exact r4
  · rw [up_k (by decide)] at hm; rw [setN_o (by omega), up_o (by decide)]; exact r5 m hm
  · rw [hn, setN_s, up_s]
theorem aD_1 {X : Mem} {c i h m t : Int} {k : Nat} (hk : k ≠ 13) : addD X c i h m t 1 k = X 1 k := by
  unfold addD
  rw [up_k hk, up_o (by decide), up_o (by decide), up_o (by decide), up_o (by decide), up_o (by decide)]
theorem aD_o {X : Mem} {c i h m t : Int} {o : Nat} (h1 : o ≠ 1) (h12 : o ≠ 12) : addD X c i h m t o = X o := by
  unfold addD
  rw [up_row h1, up_row h12, up_row h12, up_row h12, up_row h12, up_row h12]
/-- one drip more -/
theorem RW.d {X : Mem} {A : Nat → Int} {f n : Nat} {c i h m t : Int} (hr : RW X A f) (hsz : szI X) (hd : 0 ≤ X 1 13 ∧ X 1 13 < 72) (hn : n = f + 115 + 5 * (X 1 13).toNat) : RW (addD X c i h m t) (setN (setN (setN (setN (setN (setN A n c) (n + 1) i) (n + 2) h) (n + 3) m) (n + 4) t) (f + 114) (X 1 13 + 1)) f := by
  obtain ⟨r1, r2, r3, r4, r5, r6⟩ := hr
  have s1 := hsz.1
  have s2 := hsz.2.1
  have lo : ∀ k, (k < f + 114 ∨ (f + 114 < k ∧ k < n) ∨ n + 5 ≤ k) → setN (setN (setN (setN (setN (setN A n c) (n + 1) i) (n + 2) h) (n + 3) m) (n + 4) t) (f + 114) (X 1 13 + 1) k = A k := by
    intro k hk
    rw [setN_o (by omega), setN_o (by omega), setN_o (by omega), setN_o (by omega), setN_o (by omega), setN_o (by omega)]
  have e13 : addD X c i h m t 1 13 = X 1 13 + 1 := by unfold addD; rw [up_s]
  refine ⟨fun k hk => ?_, fun k hk hk8 => ?_, fun c2 hc2 => ?_, ?_, fun k hk => ?_, ?_⟩
  · rw [aD_1 (by decide)] at hk; rw [lo _ (by omega), lo _ (by omega), lo _ (by omega), aD_o (by decide) (by decide), aD_o (by decide) (by decide), aD_o (by decide) (by decide)]; exact r1 k hk
  · rw [aD_1 (by decide)] at hk; rw [lo _ (by omega), lo _ (by omega)]; exact r2 k hk hk8
  · rw [aD_1 (by decide)] at hc2
    have q := r3 c2 hc2
    rw [lo _ (by omega), lo _ (by omega), lo _ (by omega), aD_o (by decide) (by decide), aD_o (by decide) (by decide), aD_o (by decide) (by decide), aD_o (by decide) (by decide)]
    exact ⟨q.1, q.2.1, q.2.2.1, fun i hi => by rw [lo _ (by omega)]; exact q.2.2.2 i hi⟩
  · rw [setN_s, e13]
  · rw [e13] at hk
    by_cases q : (k : Int) < 5 * X 1 13
    · rw [lo _ (by omega)]
      unfold addD
      rw [up_o (by decide), up_k (by omega), up_k (by omega), up_k (by omega), up_k (by omega), up_k (by omega)]
      exact r5 k q
    · obtain ⟨z, hz⟩ : ∃ z : Nat, k = 5 * (X 1 13).toNat + z := ⟨k - 5 * (X 1 13).toNat, by omega⟩
      rw [show f + 115 + k = n + z by omega, setN_o (by omega)]
      unfold addD
      rw [up_o (by decide)]
      rcases (show z = 0 ∨ z = 1 ∨ z = 2 ∨ z = 3 ∨ z = 4 by omega) with q | q | q | q | q <;> subst q
      · rw [setN_o (by omega), setN_o (by omega), setN_o (by omega), setN_o (by omega), Nat.add_zero, setN_s, up_k (by omega), up_k (by omega), up_k (by omega), up_k (by omega), show k = (X 1 13 * 5).toNat by omega, up_s]
      · rw [setN_o (by omega), setN_o (by omega), setN_o (by omega), setN_s, up_k (by omega), up_k (by omega), up_k (by omega), show k = (X 1 13 * 5 + 1).toNat by omega, up_s]
      · rw [setN_o (by omega), setN_o (by omega), setN_s, up_k (by omega), up_k (by omega), show k = (X 1 13 * 5 + 2).toNat by omega, up_s]
      · rw [setN_o (by omega), setN_s, up_k (by omega), show k = (X 1 13 * 5 + 3).toNat by omega, up_s]
      · rw [setN_s, show k = (X 1 13 * 5 + 4).toNat by omega, up_s]
  · rw [lo _ (by omega), aD_1 (by decide)]; exact r6
theorem RW.kp {X : Mem} {A : Nat → Int} {f q : Nat} {c i : Int} (hr : RW X A f) (hq : q < 30) : RW (keepM X q c i) A f := by
  have e1 : keepM X q c i 1 = X 1 := keepM_o (by decide) (by omega)
  exact hr.fr ⟨by rw [e1], by rw [e1], by rw [e1], by rw [e1]⟩ (fun o a b => keepM_o (by omega) (by omega))
theorem szI.kp {X : Mem} {q : Nat} {c i : Int} (h : szI X) (hq : q < 30) : szI (keepM X q c i) := by
  have e1 : keepM X q c i 1 = X 1 := keepM_o (by decide) (by omega)
  unfold szI; rw [e1]; exact h
/-- everything a game needs of class and model -/
def TH (G : Mem) : Prop := ∀ c : Nat, (c : Int) < G 1 5 → 1 ≤ G 6 c ∧ 1 ≤ G 7 c
def GS (G M : Mem) : Prop := AU G ∧ TH G ∧ RA G (M 135) ∧ TXS G M
def FD (M M1 : Mem) : Prop := ∀ o, o ≠ 135 → o ≠ 156 → o ≠ 157 → M1 o = M o
theorem FM.fd {M M1 : Mem} (h : FM M M1) : FD M M1 := fun o _ b c => h o b c
theorem FD.tr {M M1 M2 : Mem} (h : FD M M1) (h2 : FD M1 M2) : FD M M2 := fun o a b c => (h2 o a b c).trans (h o a b c)
theorem FD.a {M M1 : Mem} {A : Nat → Int} (h : FD M M1) : FD M (setA M1 A) := fun o a b c => by rw [setA_o a]; exact h o a b c
theorem FD.rf (M : Mem) : FD M M := fun _ _ _ _ => rfl
theorem TXS.fr {G G1 M M1 : Mem} (h : TXS G M) (h1 : G1 1 15 = G 1 15) (h2 : G1 1 16 = G 1 16) (h3 : ∀ o, 90 ≤ o → o ≤ 113 → G1 o = G o) (h4 : ∀ o, 138 ≤ o → o ≤ 145 → M1 o = M o) : TXS G1 M1 := by
  obtain ⟨a, b, c⟩ := h
  refine ⟨by rw [h1]; exact a, by unfold isT at b ⊢; rw [h1, h2]; exact b, fun t ht => ?_⟩
  rw [h1] at ht
  obtain ⟨acc, ⟨d1, d2⟩, d3, d4⟩ := c t ht
  refine ⟨acc, ⟨?_, by rw [h3 _ (by omega) (by omega)]; exact d2⟩, d3, ?_⟩
  · unfold SCR lwR at d1 ⊢
    rw [h3 (90 + 6 * t) (by omega) (by omega), h3 (91 + 6 * t) (by omega) (by omega), h3 (92 + 6 * t) (by omega) (by omega), h3 (93 + 6 * t) (by omega) (by omega), h3 (94 + 6 * t) (by omega) (by omega), h3 (95 + 6 * t) (by omega) (by omega)]
    exact d1
  · unfold MSC at d4 ⊢
    rw [h4 138 (by decide) (by decide), h4 139 (by decide) (by decide), h4 140 (by decide) (by decide), h4 141 (by decide) (by decide), h4 142 (by decide) (by decide), h4 143 (by decide) (by decide), h4 144 (by decide) (by decide), h4 145 (by decide) (by decide)]
    exact d4
theorem GS.fm {G M M1 : Mem} (h : GS G M) (hf : FM M M1) : GS G M1 := ⟨h.1, h.2.1, by rw [hf 135 (by decide) (by decide)]; exact h.2.2.1, h.2.2.2.fr rfl rfl (fun _ _ _ => rfl) (fun o a b => hf o (by omega) (by omega))⟩
/-- a step of both -/
theorem GS.step {G G1 M M1 : Mem} {c i : Int} (h : GS G M) (hc : CHG G c i G1) (hcc : c < G 1 5) (hG1 : GM G1) (hr : RW G1 (M1 135) 40) (hlo : ∀ k, k < 40 → M1 135 k = keepA (M 135) k) (hhi : ∀ k, 520 ≤ k → M1 135 k = keepA (M 135) k) (hf : FD M M1) : GS G1 M1 := by
  obtain ⟨h1, h2, h3, h4⟩ := h
  have e1 := hc.2.1.1
  refine ⟨h1.step hc hcc hG1, fun k hk => ?_, h3.step h1 hc hr hlo hhi, h4.fr (e1 15 (by decide) (by decide)) (e1 16 (by decide) (by decide)) (fun o a b => hc.1 o (by omega) (by omega) (by omega) (by omega) (by omega)) (fun o a b => hf o (by omega) (by omega) (by omega))⟩
  rw [e1 5 (by decide) (by decide)] at hk
  rw [hc.1 6 (by decide) (by decide) (by decide) (by decide) (by decide), hc.1 7 (by decide) (by decide) (by decide) (by decide) (by decide)]
  exact h2 k hk
