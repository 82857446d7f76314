/-! WHAT A GAME KEEPS -/
def dsum (M : Mem) : Nat → Int
  | 0 => 0
  | n + 1 => dsum M n + M 10 n
theorem dsum_c {A B : Mem} : ∀ n, (∀ k, k < n → A 10 k = B 10 k) → dsum A n = dsum B n
  | 0, _ => rfl
  | n + 1, h => by
    unfold dsum
    rw [dsum_c n (fun k hk => h k (by omega)), h n (by omega)]
theorem dsum_u {M M1 : Mem} {c : Nat} (ho : ∀ k, k ≠ c → M1 10 k = M 10 k) : ∀ n, dsum M1 n = dsum M n + (if c < n then M1 10 c - M 10 c else 0)
  | 0 => by simp [dsum]
  | n + 1 => by
    unfold dsum
    rw [dsum_u ho n]
    by_cases e : n = c
    · subst e
      rw [if_neg (by omega), if_pos (by omega)]
      omega
    · rw [ho n e]
      by_cases q : c < n
      · rw [if_pos q, if_pos (by omega)]; omega
      · rw [if_neg q, if_neg (by omega)]; omega
theorem dsum_b {M : Mem} : ∀ n, (∀ k, k < n → 0 ≤ M 10 k ∧ M 10 k ≤ 12) → 0 ≤ dsum M n ∧ dsum M n ≤ 12 * n
  | 0, _ => by simp [dsum]
  | n + 1, h => by
    have := dsum_b n (fun k hk => h k (by omega))
    have := h n (by omega)
    unfold dsum
    omega
theorem dsum_l {M : Mem} {c : Nat} : ∀ n, c < n → (∀ k, k < n → 0 ≤ M 10 k ∧ M 10 k ≤ 12) → M 10 c < 12 → dsum M n + 1 ≤ 12 * n
  | 0, h, _, _ => by omega
  | n + 1, hc, h, hl => by
    have h2 := h n (by omega)
    unfold dsum
    by_cases e : c = n
    · subst e
      have := dsum_b c (fun k hk => h k (by omega))
      omega
    · have := dsum_l n (by omega) (fun k hk => h k (by omega)) hl
      omega
def DR (M : Mem) : Prop := M 1 13 = dsum M (M 1 5).toNat ∧ ∀ k, k < 8 → 0 ≤ M 5 k ∧ M 5 k ≤ 99 * M 1 13
def ST (M : Mem) : Prop := ∀ c, isC M c → (0 ≤ M 8 c.toNat ∧ M 8 c.toNat ≤ 3) ∧ (M 8 c.toNat = 0 → M 10 c.toNat = 0) ∧ (M 8 c.toNat = 1 ∨ M 8 c.toNat = 2 → isH M (M 9 c.toNat) ∧ M 10 c.toNat < M 7 c.toNat)
def GM (M : Mem) : Prop := LW M ∧ SI M ∧ OWN M ∧ (0 ≤ M 1 12 ∧ M 1 12 ≤ 50000) ∧ DR M ∧ ST M
theorem GM.nx {M : Mem} (h : GM M) : ∀ k, k < (M 1 5).toNat → 0 ≤ M 10 k ∧ M 10 k ≤ 12 := by
  intro k hk
  have h1 := h.2.2.1.2 k ⟨by omega, by omega⟩
  have h2 := h.1.1.len (c := (k : Int)) ⟨by omega, by omega⟩
  rw [Int.toNat_natCast] at h1 h2
  omega
theorem GM.dr {M : Mem} (h : GM M) : 0 ≤ M 1 13 ∧ M 1 13 ≤ 72 := by
  have h1 := dsum_b _ h.nx
  have h2 := h.1.1.2.1
  have h3 := h.2.2.2.2.1.1
  omega
theorem GM.lt {M : Mem} (h : GM M) : ∀ k, k < 8 → 0 ≤ M 5 k ∧ M 5 k ≤ 1000000000 := by
  intro k hk
  have h1 := h.dr
  have h2 := h.2.2.2.2.1.2 k hk
  omega
theorem GM.step {M M1 : Mem} (hG : GM M) (h1 : ∀ k, k ≠ 12 → k ≠ 13 → M1 1 k = M 1 k) (hr : ∀ o, (o = 2 ∨ o = 6 ∨ o = 7) ∨ (90 ≤ o ∧ o ≤ 113) → M1 o = M o) (h34 : ∀ k, k < 8 → (0 ≤ M1 3 k ∧ M1 3 k ≤ 999) ∧ (0 ≤ M1 4 k ∧ M1 4 k ≤ 999)) (hS : SI M1) (hO1 : ∀ c i, isIn M c i → M1 11 (c * 12 + i).toNat = -1 ∨ isH M (M1 11 (c * 12 + i).toNat)) (hO2 : ∀ c, isC M c → 0 ≤ M1 10 c.toNat ∧ M1 10 c.toNat ≤ M 7 c.toNat) (hx : 0 ≤ M1 1 12 ∧ M1 1 12 ≤ 50000) (hD : M1 1 13 = dsum M1 (M 1 5).toNat ∧ ∀ k, k < 8 → 0 ≤ M1 5 k ∧ M1 5 k ≤ 99 * M1 1 13) (hT : ∀ c, isC M c → (0 ≤ M1 8 c.toNat ∧ M1 8 c.toNat ≤ 3) ∧ (M1 8 c.toNat = 0 → M1 10 c.toNat = 0) ∧ (M1 8 c.toNat = 1 ∨ M1 8 c.toNat = 2 → isH M (M1 9 c.toNat) ∧ M1 10 c.toNat < M 7 c.toNat)) : GM M1 := by
  have e0 := h1 0 (by decide) (by decide)
  have e5 := h1 5 (by decide) (by decide)
  have e15 := h1 15 (by decide) (by decide)
  have e16 := h1 16 (by decide) (by decide)
  have e7 := hr 7 (by omega)
  refine ⟨?_, hS, ⟨?_, ?_⟩, hx, ?_, ?_⟩
  · have hl := hG.1
    unfold LW IB isT TxOk at hl ⊢
    rw [e0, e5, e15, e16, e7, hr 2 (by omega), hr 6 (by omega)]
    refine ⟨hl.1, fun k hk => ⟨(hl.2.1 k hk).1, h34 k hk⟩, hl.2.2.1, hl.2.2.2.1, fun ht => ?_⟩
    have h4 : (M 1 16).toNat < 4 := by have := hl.2.2.2.1; omega
    rw [hr (93 + 6 * (M 1 16).toNat) (by omega), hr (92 + 6 * (M 1 16).toNat) (by omega), hr (91 + 6 * (M 1 16).toNat) (by omega)]
    exact hl.2.2.2.2 ht
  · intro c i hin
    have hin2 : isIn M c i := by unfold isIn isC at hin ⊢; rw [e5, e7] at hin; exact hin
    unfold ownr
    rw [if_pos hin]
    unfold isH
    rw [e0]
    exact hO1 c i hin2
  · intro c hc
    unfold isC at hc
    rw [e5] at hc
    rw [e7]
    exact hO2 c hc
  · unfold DR
    rw [e5]
    exact hD
  · intro c hc
    unfold isC at hc
    rw [e5] at hc
    unfold isH
    rw [e7, e0]
    exact hT c hc
theorem keepM_25 {M : Mem} {q : Nat} {c i : Int} : keepM M q c i 25 1 = min 30 (M 25 1 + 1) ∧ keepM M q c i 25 2 = q := by
  have e : keepM M q c i 25 = kp1 M q c i 25 := by
    unfold keepM
    rw [hsF_o (by omega)]
    unfold kp3
    rw [up_row (by omega)]
    unfold kp2
    split
    · rw [up_row (by omega), up_row (by omega), up_row (by omega)]
    · rfl
  rw [e]
  unfold kp1
  rw [up_row (by omega), up_row (by omega), up_row (by omega), up_row (by omega)]
  exact ⟨up_s _ _ _ _, by rw [up_k (by decide), up_s]⟩
theorem SI.kp {M M1 : Mem} {c i : Int} (h : SI M) (e : M1 25 = keepM M (nxt M) c i 25) : SI M1 := by
  unfold SI
  rw [e, keepM_25.1, keepM_25.2]
  have h1 := (nxt_ok h).1
  have h2 := h.2
  omega
theorem OWN.o11 {M : Mem} (h : OWN M) {c i : Int} (hi : isIn M c i) : M 11 (c * 12 + i).toNat = -1 ∨ isH M (M 11 (c * 12 + i).toNat) := by
  have := h.1 c i hi
  unfold ownr at this
  rw [if_pos hi] at this
  exact this
theorem GM.buy {M : Mem} (hG : GM M) {h c i : Int} (hk : okBuy M h c i) : GM (buyM M h c i) := by
  have hq := (nxt_ok hG.2.1).1
  have ko : ∀ o, o ≠ 25 → o < 27 ∨ 57 ≤ o → keepM M (nxt M) c i o = M o := fun o a b => keepM_o a (by omega)
  have hw := hG.1.2.1 h.toNat (by have := hk.1; have := hG.1.1.1; omega)
  have ht := (tellV_b M 0 h c i).1
  have hp := hk.2.2.2.2
  refine hG.step (fun k _ _ => ?_) (fun o ho => ?_) (fun k hk8 => ?_) (hG.2.1.kp (c := c) (i := i) ?_) (fun c1 i1 hin => ?_) (fun c1 hc1 => ?_) ?_ ⟨?_, ?_⟩ ?_
  · unfold buyM; rw [up_o (by decide), up_o (by decide), ko 1 (by decide) (by decide)]
  · unfold buyM; rw [up_row (by omega), up_row (by omega), ko o (by omega) (by omega)]
  · unfold buyM
    refine ⟨?_, ?_⟩
    · rw [up_o (by decide)]
      by_cases e : k = h.toNat
      · subst e; rw [up_s]; omega
      · rw [up_k e, ko 3 (by decide) (by decide)]; exact (hG.1.2.1 k hk8).2.1
    · rw [up_o (by decide), up_o (by decide), ko 4 (by decide) (by decide)]; exact (hG.1.2.1 k hk8).2.2
  · unfold buyM; rw [up_row (by decide), up_row (by decide)]
  · unfold buyM
    by_cases e : (c1 * 12 + i1).toNat = (c * 12 + i).toNat
    · rw [e, up_s]; exact Or.inr hk.1
    · rw [up_k e, up_o (by decide), ko 11 (by decide) (by decide)]; exact hG.2.2.1.o11 hin
  · unfold buyM; rw [up_o (by decide), up_o (by decide), ko 10 (by decide) (by decide)]; exact hG.2.2.1.2 c1 hc1
  · unfold buyM; rw [up_o (by decide), up_o (by decide), ko 1 (by decide) (by decide)]; exact hG.2.2.2.1
  · have e : dsum (buyM M h c i) (M 1 5).toNat = dsum M (M 1 5).toNat := dsum_c _ (fun k _ => by unfold buyM; rw [up_o (by decide), up_o (by decide), ko 10 (by decide) (by decide)])
    rw [e]
    unfold buyM; rw [up_o (by decide), up_o (by decide), ko 1 (by decide) (by decide)]; exact hG.2.2.2.2.1.1
  · unfold buyM; rw [up_row (by decide), up_row (by decide), ko 5 (by decide) (by decide), up_row (by decide), up_row (by decide), ko 1 (by decide) (by decide)]; exact hG.2.2.2.2.1.2
  · have eo : ∀ o, o ≠ 25 → o < 27 ∨ 57 ≤ o → o ≠ 3 → o ≠ 11 → buyM M h c i o = M o := fun o a b c3 c11 => by unfold buyM; rw [up_row c11, up_row c3, ko o a b]
    rw [eo 8 (by decide) (by decide) (by decide) (by decide), eo 9 (by decide) (by decide) (by decide) (by decide), eo 10 (by decide) (by decide) (by decide) (by decide)]; exact hG.2.2.2.2.2
theorem GM.l1 {M : Mem} (hG : GM M) {c : Int} (hk : okL1 M c) : GM (light1 M c) := by
  have hq := (nxt_ok hG.2.1).1
  have ko : ∀ o, o ≠ 25 → o < 27 ∨ 57 ≤ o → keepM M (nxt M) c (-1) o = M o := fun o a b => keepM_o a (by omega)
  have hin : isIn M c 0 := by
    have := hk.2.2
    unfold ownr at this
    by_cases q : isIn M c 0
    · exact q
    · rw [if_neg q] at this; exact absurd rfl this
  have hown := (hG.2.2.1.1 c 0 hin).resolve_left hk.2.2
  have e8 : light1 M c 8 = up M 8 c.toNat 1 8 := by unfold light1; rw [up_row (by decide)]; exact up_c (ko 8 (by decide) (by decide)) rfl
  have e9 : light1 M c 9 = up M 9 c.toNat (ownr M c 0) 9 := by unfold light1; exact up_c (by rw [up_row (by decide), ko 9 (by decide) (by decide)]) rfl
  have eo : ∀ o, o ≠ 25 → o < 27 ∨ 57 ≤ o → o ≠ 8 → o ≠ 9 → light1 M c o = M o := fun o a b c8 c9 => by unfold light1; rw [up_row c9, up_row c8, ko o a b]
  refine hG.step (fun k _ _ => ?_) (fun o ho => ?_) (fun k hk8 => ?_) (hG.2.1.kp (c := c) (i := -1) ?_) (fun c1 i1 hin => ?_) (fun c1 hc1 => ?_) ?_ ⟨?_, ?_⟩ (fun c1 hc1 => ?_)
  · rw [eo 1 (by decide) (by decide) (by decide) (by decide)]
  · exact eo o (by omega) (by omega) (by omega) (by omega)
  · rw [eo 3 (by decide) (by decide) (by decide) (by decide), eo 4 (by decide) (by decide) (by decide) (by decide)]; exact (hG.1.2.1 k hk8).2
  · unfold light1; rw [up_row (by decide), up_row (by decide)]
  · rw [eo 11 (by decide) (by decide) (by decide) (by decide)]; exact hG.2.2.1.o11 hin
  · rw [eo 10 (by decide) (by decide) (by decide) (by decide)]; exact hG.2.2.1.2 c1 hc1
  · rw [eo 1 (by decide) (by decide) (by decide) (by decide)]; exact hG.2.2.2.1
  · rw [dsum_c (B := M) _ (fun k _ => by rw [eo 10 (by decide) (by decide) (by decide) (by decide)]), eo 1 (by decide) (by decide) (by decide) (by decide)]; exact hG.2.2.2.2.1.1
  · rw [eo 5 (by decide) (by decide) (by decide) (by decide), eo 1 (by decide) (by decide) (by decide) (by decide)]; exact hG.2.2.2.2.1.2
  · have h0 := hG.2.2.2.2.2 c1 hc1
    rw [eo 10 (by decide) (by decide) (by decide) (by decide), e8, e9]
    by_cases e : c1.toNat = c.toNat
    · rw [e, up_s, up_s]
      have := (hG.2.2.2.2.2 c hk.1).2.1 hk.2.1
      exact ⟨by omega, by omega, fun _ => ⟨hown, by have := hin.2; omega⟩⟩
    · rw [up_k e, up_k e]; exact h0
theorem GM.l2 {M : Mem} (hG : GM M) {c : Int} (hk : okL2 M c) : GM (light2 M c) := by
  have hq := (nxt_ok hG.2.1).1
  have ko : ∀ o, o ≠ 25 → o < 27 ∨ 57 ≤ o → keepM M (nxt M) c (-1) o = M o := fun o a b => keepM_o a (by omega)
  have hw := hG.1.2.1 (M 9 c.toNat).toNat (by have := hk.2.2.1; have := hG.1.1.1; omega)
  have hp := hk.2.2.2
  have e8 : light2 M c 8 = up M 8 c.toNat 1 8 := by unfold light2; exact up_c (by rw [up_row (by decide), ko 8 (by decide) (by decide)]) rfl
  have e3 : light2 M c 3 = up M 3 (M 9 c.toNat).toNat (M 3 (M 9 c.toNat).toNat - 1) 3 := by unfold light2; rw [up_row (by decide)]; exact up_c (ko 3 (by decide) (by decide)) rfl
  have eo : ∀ o, o ≠ 25 → o < 27 ∨ 57 ≤ o → o ≠ 8 → o ≠ 3 → light2 M c o = M o := fun o a b c8 c3 => by unfold light2; rw [up_row c8, up_row c3, ko o a b]
  refine hG.step (fun k _ _ => ?_) (fun o ho => ?_) (fun k hk8 => ?_) (hG.2.1.kp (c := c) (i := -1) ?_) (fun c1 i1 hin => ?_) (fun c1 hc1 => ?_) ?_ ⟨?_, ?_⟩ (fun c1 hc1 => ?_)
  · rw [eo 1 (by decide) (by decide) (by decide) (by decide)]
  · exact eo o (by omega) (by omega) (by omega) (by omega)
  · rw [e3, eo 4 (by decide) (by decide) (by decide) (by decide)]
    refine ⟨?_, (hG.1.2.1 k hk8).2.2⟩
    by_cases e : k = (M 9 c.toNat).toNat
    · subst e; rw [up_s]; omega
    · rw [up_k e]; exact (hG.1.2.1 k hk8).2.1
  · unfold light2; rw [up_row (by decide), up_row (by decide)]
  · rw [eo 11 (by decide) (by decide) (by decide) (by decide)]; exact hG.2.2.1.o11 hin
  · rw [eo 10 (by decide) (by decide) (by decide) (by decide)]; exact hG.2.2.1.2 c1 hc1
  · rw [eo 1 (by decide) (by decide) (by decide) (by decide)]; exact hG.2.2.2.1
  · rw [dsum_c (B := M) _ (fun k _ => by rw [eo 10 (by decide) (by decide) (by decide) (by decide)]), eo 1 (by decide) (by decide) (by decide) (by decide)]; exact hG.2.2.2.2.1.1
  · rw [eo 5 (by decide) (by decide) (by decide) (by decide), eo 1 (by decide) (by decide) (by decide) (by decide)]; exact hG.2.2.2.2.1.2
  · have h0 := hG.2.2.2.2.2 c1 hc1
    rw [eo 10 (by decide) (by decide) (by decide) (by decide), e8, eo 9 (by decide) (by decide) (by decide) (by decide)]
    by_cases e : c1.toNat = c.toNat
    · have h9 := (hG.2.2.2.2.2 c hk.1).2.2 (Or.inr hk.2.1)
      rw [e, up_s]
      exact ⟨by omega, by omega, fun _ => h9⟩
    · rw [up_k e]; exact h0
