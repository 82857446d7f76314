/-! THE CODES' HEIGHTS -/
theorem wfc_op {k : Int} (hk : k = 43 ∨ k = 45 ∨ k = 42 ∨ k = 47) {h : Nat} : wfc [opc k] (h + 2) (h + 1) := by
  have : 10008 ≤ opc k ∧ opc k < 10012 := by
    unfold opc
    split
    · omega
    split
    · omega
    split <;> omega
  exact ⟨by omega, Or.inr (Or.inr ⟨this.1, this.2, by omega, rfl⟩)⟩
theorem lf_wf {K V : Nat → Int} {law : Int} {t h : Nat} (hV : K t = 1 → 0 ≤ V t) (hk : K t = 1 ∨ K t = 2) (hh : h < 20) (e : (lf K V law t).1 = 0) : wfc (lf K V law t).2.2 h (h + 1) := by
  unfold lf at e ⊢
  by_cases k2 : K t = 2
  · rw [if_pos k2] at e ⊢
    by_cases q : V t < 10 ∨ 18 ≤ V t
    · rw [if_pos q] at e; exact absurd e n10
    rw [if_neg q] at e ⊢
    by_cases q2 : 16 ≤ V t ∧ law ≠ 0
    · rw [if_pos q2] at e; exact absurd e (show ¬ (5 : Int) = 0 by decide)
    rw [if_neg q2]
    exact ⟨by omega, Or.inl ⟨by omega, hh, rfl⟩⟩
  · rw [if_neg k2] at e ⊢
    have := hV (by omega)
    by_cases q : 9999 < V t
    · rw [if_pos q] at e; exact absurd e (show ¬ (2 : Int) = 0 by decide)
    rw [if_neg q]
    exact ⟨this, Or.inl ⟨by omega, hh, rfl⟩⟩
theorem Ps_wf {K V : Nat → Int} {law : Int} (hV : ∀ t, K t = 1 → 0 ≤ V t) : ∀ f m o t h, o ≤ 8 → (Ps K V law f m o t).1 = 0 →
    (m = 0 → h ≤ 2 * o → wfc (Ps K V law f m o t).2.2 h (h + 1)) ∧ (m = 1 → h ≤ 2 * o → wfc (Ps K V law f m o t).2.2 (h + 1) (h + 1)) ∧ (m = 2 → h ≤ 2 * o + 1 → wfc (Ps K V law f m o t).2.2 h (h + 1)) ∧ (m = 3 → h ≤ 2 * o + 1 → wfc (Ps K V law f m o t).2.2 (h + 1) (h + 1)) ∧ (4 ≤ m → h ≤ 2 * o + 2 → wfc (Ps K V law f m o t).2.2 h (h + 1))
  | 0, m, o, t, h, _, e => absurd e n90
  | f + 1, 0, o, t, h, ho, e => by
    refine ⟨fun _ hh => ?_, fun z => absurd z (by decide), fun z => absurd z (by decide), fun z => absurd z (by decide), fun z => absurd z (by decide)⟩
    unfold Ps at e ⊢
    by_cases q : (Ps K V law f 2 o t).1 = 0
    · rw [if_pos q] at e ⊢
      exact wfc_app ((Ps_wf hV f 2 o t h ho q).2.2.1 rfl (by omega)) ((Ps_wf hV f 1 o _ h ho e).2.1 rfl hh)
    · rw [if_neg q] at e
      exact absurd e q
  | f + 1, 1, o, t, h, ho, e => by
    refine ⟨fun z => absurd z (by decide), fun _ hh => ?_, fun z => absurd z (by decide), fun z => absurd z (by decide), fun z => absurd z (by decide)⟩
    unfold Ps at e ⊢
    by_cases k : K t = 43 ∨ K t = 45
    · rw [if_pos k] at e ⊢
      by_cases q : (Ps K V law f 2 o (t + 1)).1 = 0
      · rw [if_pos q] at e ⊢
        exact wfc_app (wfc_app ((Ps_wf hV f 2 o (t + 1) (h + 1) ho q).2.2.1 rfl (by omega)) (wfc_op (by omega))) ((Ps_wf hV f 1 o _ h ho e).2.1 rfl hh)
      · rw [if_neg q] at e
        exact absurd e q
    · rw [if_neg k]
      rfl
  | f + 1, 2, o, t, h, ho, e => by
    refine ⟨fun z => absurd z (by decide), fun z => absurd z (by decide), fun _ hh => ?_, fun z => absurd z (by decide), fun z => absurd z (by decide)⟩
    unfold Ps at e ⊢
    by_cases q : (Ps K V law f 4 o t).1 = 0
    · rw [if_pos q] at e ⊢
      exact wfc_app ((Ps_wf hV f 4 o t h ho q).2.2.2.2 (by decide) (by omega)) ((Ps_wf hV f 3 o _ h ho e).2.2.2.1 rfl hh)
    · rw [if_neg q] at e
      exact absurd e q
  | f + 1, 3, o, t, h, ho, e => by
    refine ⟨fun z => absurd z (by decide), fun z => absurd z (by decide), fun z => absurd z (by decide), fun _ hh => ?_, fun z => absurd z (by decide)⟩
    unfold Ps at e ⊢
    by_cases k : K t = 42 ∨ K t = 47
    · rw [if_pos k] at e ⊢
      by_cases q : (Ps K V law f 4 o (t + 1)).1 = 0
      · rw [if_pos q] at e ⊢
        exact wfc_app (wfc_app ((Ps_wf hV f 4 o (t + 1) (h + 1) ho q).2.2.2.2 (by decide) (by omega)) (wfc_op (by omega))) ((Ps_wf hV f 3 o _ h ho e).2.2.2.1 rfl hh)
      · rw [if_neg q] at e
        exact absurd e q
    · rw [if_neg k]
      rfl
  | f + 1, m + 4, o, t, h, ho, e => by
    refine ⟨fun z => absurd z (by omega), fun z => absurd z (by omega), fun z => absurd z (by omega), fun z => absurd z (by omega), fun _ hh => ?_⟩
    unfold Ps at e ⊢
    by_cases k1 : K t = 1 ∨ K t = 2
    · rw [if_pos k1] at e ⊢
      exact lf_wf (hV t) k1 (by omega) e
    rw [if_neg k1] at e ⊢
    by_cases k2 : ¬ (K t = 40 ∨ K t = 45)
    · rw [if_pos k2] at e
      exact absurd e n10
    rw [if_neg k2] at e ⊢
    by_cases o8 : 8 ≤ o
    · rw [if_pos o8] at e
      exact absurd e n30
    rw [if_neg o8] at e ⊢
    by_cases k3 : K t = 45
    · rw [if_pos k3] at e ⊢
      by_cases q : (Ps K V law f 4 (o + 1) (t + 1)).1 = 0
      · rw [if_pos q]
        exact wfc_app ((Ps_wf hV f 4 (o + 1) (t + 1) h (by omega) q).2.2.2.2 (by decide) (by omega)) ⟨by decide, Or.inr (Or.inl ⟨rfl, by omega, rfl⟩)⟩
      · rw [if_neg q] at e
        exact absurd e q
    · rw [if_neg k3] at e ⊢
      by_cases q : (Ps K V law f 0 (o + 1) (t + 1)).1 = 0
      · rw [if_pos q] at e ⊢
        by_cases k4 : K (Ps K V law f 0 (o + 1) (t + 1)).2.1 = 41
        · rw [if_pos k4]
          exact (Ps_wf hV f 0 (o + 1) (t + 1) h (by omega) q).1 rfl (by omega)
        · rw [if_neg k4] at e
          exact absurd e n10
      · rw [if_neg q] at e
        exact absurd e q
theorem clF_wf {K V : Nat → Int} {F c t : Nat} {tld : Bool} (hV : ∀ t, K t = 1 → 0 ≤ V t) (h : (clF K V F tld c t).1 = 0) (h4 : V t < 4) : wfc (clF K V F tld c t).2.2 0 1 := by
  unfold clF at h ⊢
  by_cases k0 : K t = 2 ∧ 0 ≤ V t ∧ V t ≤ 7
  · rw [if_pos k0] at h ⊢
    by_cases k1 : V t < 4 ∧ tld = true
    · rw [if_pos k1] at h
      exact absurd h (show ¬ (4 : Int) = 0 by decide)
    rw [if_neg k1] at h ⊢
    by_cases k2 : 24 ≤ c
    · rw [if_pos k2] at h
      exact absurd h (show ¬ (6 : Int) = 0 by decide)
    rw [if_neg k2, if_pos h4] at h ⊢
    by_cases q : (Ps K V (V t) F 0 0 (t + 1)).1 = 0
    · rw [if_pos q] at h ⊢
      by_cases k4 : K (Ps K V (V t) F 0 0 (t + 1)).2.1 = 59
      · rw [if_pos k4]
        exact (Ps_wf hV F 0 0 (t + 1) 0 (by omega) q).1 rfl (by omega)
      · rw [if_neg k4] at h
        exact absurd h n10
    · rw [if_neg q] at h
      exact absurd h q
  · rw [if_neg k0] at h
    exact absurd h n10
/-- what holds of every text that was read: at most 24 clauses, each sum well formed -/
def accOk (acc : List Cz) : Prop := acc.length ≤ 24 ∧ ∀ c ∈ acc, (0 ≤ c.1 ∧ c.1 ≤ 7) ∧ (c.1 < 4 → wfc c.2.2.2.2 0 1)
theorem Tx_ok {K V : Nat → Int} {F N : Nat} (hK : ∀ t, N ≤ t → K t = 0) (hV : ∀ t, K t = 1 → 0 ≤ V t) : ∀ n t acc, accOk acc → accOk (Tx K V F n t acc).2.2
  | 0, t, acc, h => h
  | n + 1, t, acc, h => by
    unfold Tx
    split
    · exact h
    split
    · rename_i e
      have hok := clF_ok hK e
      refine Tx_ok hK hV n _ _ ⟨by rw [List.length_append, List.length_singleton]; omega, fun c hc => ?_⟩
      rcases List.mem_append.mp hc with q | q
      · exact h.2 c q
      · have : c = _ := List.mem_singleton.mp q
        subst this
        unfold mkC
        split
        · rename_i v4
          exact ⟨hok.2.2.1, fun _ => clF_wf hV e v4⟩
        · rename_i v4
          exact ⟨hok.2.2.1, fun z => absurd z v4⟩
    · exact h
