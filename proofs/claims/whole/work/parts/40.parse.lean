/-! THE LANGUAGE OF SUMS: over tokens K (kinds) V (values), from the t-th on; answers (fault or 0, where it stopped, codes) -/
def lf (K V : Nat → Int) (law : Int) (t : Nat) : Int × Nat × List Int :=
  if K t = 2 then (if V t < 10 ∨ 18 ≤ V t then (1, t, []) else if 16 ≤ V t ∧ law ≠ 0 then (5, t, []) else (0, t + 1, [9990 + V t]))
  else (if 9999 < V t then (2, t, []) else (0, t + 1, [V t]))
def opc (k : Int) : Int := if k = 43 then 10008 else if k = 45 then 10009 else if k = 42 then 10010 else 10011
def Ps (K V : Nat → Int) (law : Int) : Nat → Nat → Nat → Nat → Int × Nat × List Int
  | 0, _, _, t => (9, t, [])
  | f + 1, 0, o, t => if (Ps K V law f 2 o t).1 = 0 then ((Ps K V law f 1 o (Ps K V law f 2 o t).2.1).1, (Ps K V law f 1 o (Ps K V law f 2 o t).2.1).2.1, (Ps K V law f 2 o t).2.2 ++ (Ps K V law f 1 o (Ps K V law f 2 o t).2.1).2.2) else Ps K V law f 2 o t
  | f + 1, 1, o, t => if K t = 43 ∨ K t = 45 then (if (Ps K V law f 2 o (t + 1)).1 = 0 then ((Ps K V law f 1 o (Ps K V law f 2 o (t + 1)).2.1).1, (Ps K V law f 1 o (Ps K V law f 2 o (t + 1)).2.1).2.1, ((Ps K V law f 2 o (t + 1)).2.2 ++ [opc (K t)]) ++ (Ps K V law f 1 o (Ps K V law f 2 o (t + 1)).2.1).2.2) else Ps K V law f 2 o (t + 1)) else (0, t, [])
  | f + 1, 2, o, t => if (Ps K V law f 4 o t).1 = 0 then ((Ps K V law f 3 o (Ps K V law f 4 o t).2.1).1, (Ps K V law f 3 o (Ps K V law f 4 o t).2.1).2.1, (Ps K V law f 4 o t).2.2 ++ (Ps K V law f 3 o (Ps K V law f 4 o t).2.1).2.2) else Ps K V law f 4 o t
  | f + 1, 3, o, t => if K t = 42 ∨ K t = 47 then (if (Ps K V law f 4 o (t + 1)).1 = 0 then ((Ps K V law f 3 o (Ps K V law f 4 o (t + 1)).2.1).1, (Ps K V law f 3 o (Ps K V law f 4 o (t + 1)).2.1).2.1, ((Ps K V law f 4 o (t + 1)).2.2 ++ [opc (K t)]) ++ (Ps K V law f 3 o (Ps K V law f 4 o (t + 1)).2.1).2.2) else Ps K V law f 4 o (t + 1)) else (0, t, [])
  | f + 1, _ + 4, o, t => if K t = 1 ∨ K t = 2 then lf K V law t
    else if ¬ (K t = 40 ∨ K t = 45) then (1, t, [])
    else if 8 ≤ o then (3, t, [])
    else if K t = 45 then (if (Ps K V law f 4 (o + 1) (t + 1)).1 = 0 then (0, (Ps K V law f 4 (o + 1) (t + 1)).2.1, (Ps K V law f 4 (o + 1) (t + 1)).2.2 ++ [10012]) else Ps K V law f 4 (o + 1) (t + 1))
    else if (Ps K V law f 0 (o + 1) (t + 1)).1 = 0 then (if K (Ps K V law f 0 (o + 1) (t + 1)).2.1 = 41 then (0, (Ps K V law f 0 (o + 1) (t + 1)).2.1 + 1, (Ps K V law f 0 (o + 1) (t + 1)).2.2) else (1, (Ps K V law f 0 (o + 1) (t + 1)).2.1, []))
    else Ps K V law f 0 (o + 1) (t + 1)
def isLp (m : Nat) : Nat := if m = 1 ∨ m = 3 then 0 else 1
theorem n10 : ¬ (1 : Int) = 0 := by decide
theorem n30 : ¬ (3 : Int) = 0 := by decide
theorem n90 : ¬ (9 : Int) = 0 := by decide
theorem n09 : (0 : Int) ≠ 9 := by decide
theorem n19 : (1 : Int) ≠ 9 := by decide
theorem n39 : (3 : Int) ≠ 9 := by decide
theorem lf_ok {K V : Nat → Int} {law : Int} {t : Nat} : (lf K V law t).1 ≠ 9 ∧ t ≤ (lf K V law t).2.1 ∧ (lf K V law t).2.1 ≤ t + 1 ∧ ((lf K V law t).1 = 0 → (lf K V law t).2.1 = t + 1 ∧ (lf K V law t).2.2.length = 1) := by
  unfold lf
  split
  · split
    · simp
    split
    · simp
    · simp
  · split
    · simp
    · simp
/-- it never steps behind the end; a code for a token -/
theorem Ps_ok {K V : Nat → Int} {law : Int} {N : Nat} (hK : ∀ t, N ≤ t → K t = 0) : ∀ f m o t, t ≤ N → t ≤ (Ps K V law f m o t).2.1 ∧ (Ps K V law f m o t).2.1 ≤ N ∧ ((Ps K V law f m o t).1 = 0 → (Ps K V law f m o t).2.2.length + t ≤ (Ps K V law f m o t).2.1 ∧ t + isLp m ≤ (Ps K V law f m o t).2.1)
  | 0, m, o, t, ht => ⟨Nat.le_refl _, ht, fun h => absurd h n90⟩
  | f + 1, 0, o, t, ht => by
    have h1 := Ps_ok (V := V) (law := law) hK f 2 o t ht
    unfold Ps
    by_cases q : (Ps K V law f 2 o t).1 = 0
    · rw [if_pos q]
      have h2 := Ps_ok (V := V) (law := law) hK f 1 o _ h1.2.1
      have h3 := h1.2.2 q
      refine ⟨Nat.le_trans h1.1 h2.1, h2.2.1, fun e => ?_⟩
      have h4 := h2.2.2 e
      unfold isLp at h3 h4 ⊢
      simp only [List.length_append] at h3 h4 ⊢
      simp at h3 h4 ⊢
      omega
    · rw [if_neg q]
      exact ⟨h1.1, h1.2.1, fun e => absurd e q⟩
  | f + 1, 1, o, t, ht => by
    unfold Ps
    by_cases k : K t = 43 ∨ K t = 45
    · have ht1 : t + 1 ≤ N := by
        have : ¬ N ≤ t := fun z => by have := hK t z; omega
        omega
      have h1 := Ps_ok (V := V) (law := law) hK f 2 o (t + 1) ht1
      rw [if_pos k]
      by_cases q : (Ps K V law f 2 o (t + 1)).1 = 0
      · rw [if_pos q]
        have h2 := Ps_ok (V := V) (law := law) hK f 1 o _ h1.2.1
        have h3 := h1.2.2 q
        refine ⟨Nat.le_trans (Nat.le_trans (Nat.le_succ t) h1.1) h2.1, h2.2.1, fun e => ?_⟩
        have h4 := h2.2.2 e
        unfold isLp at h3 h4 ⊢
        simp only [List.length_append, List.length_cons, List.length_nil] at h3 h4 ⊢
        simp at h3 h4 ⊢
        omega
      · rw [if_neg q]
        exact ⟨by omega, h1.2.1, fun e => absurd e q⟩
    · rw [if_neg k]
      exact ⟨Nat.le_refl _, ht, fun _ => by unfold isLp; simp⟩
  | f + 1, 2, o, t, ht => by
    have h1 := Ps_ok (V := V) (law := law) hK f 4 o t ht
    unfold Ps
    by_cases q : (Ps K V law f 4 o t).1 = 0
    · rw [if_pos q]
      have h2 := Ps_ok (V := V) (law := law) hK f 3 o _ h1.2.1
      have h3 := h1.2.2 q
      refine ⟨Nat.le_trans h1.1 h2.1, h2.2.1, fun e => ?_⟩
      have h4 := h2.2.2 e
      unfold isLp at h3 h4 ⊢
      simp only [List.length_append] at h3 h4 ⊢
      simp at h3 h4 ⊢
      omega
    · rw [if_neg q]
      exact ⟨h1.1, h1.2.1, fun e => absurd e q⟩
  | f + 1, 3, o, t, ht => by
    unfold Ps
    by_cases k : K t = 42 ∨ K t = 47
    · have ht1 : t + 1 ≤ N := by
        have : ¬ N ≤ t := fun z => by have := hK t z; omega
        omega
      have h1 := Ps_ok (V := V) (law := law) hK f 4 o (t + 1) ht1
      rw [if_pos k]
      by_cases q : (Ps K V law f 4 o (t + 1)).1 = 0
      · rw [if_pos q]
        have h2 := Ps_ok (V := V) (law := law) hK f 3 o _ h1.2.1
        have h3 := h1.2.2 q
        refine ⟨Nat.le_trans (Nat.le_trans (Nat.le_succ t) h1.1) h2.1, h2.2.1, fun e => ?_⟩
        have h4 := h2.2.2 e
        unfold isLp at h3 h4 ⊢
        simp only [List.length_append, List.length_cons, List.length_nil] at h3 h4 ⊢
        simp at h3 h4 ⊢
        omega
      · rw [if_neg q]
        exact ⟨by omega, h1.2.1, fun e => absurd e q⟩
    · rw [if_neg k]
      exact ⟨Nat.le_refl _, ht, fun _ => by unfold isLp; simp⟩
  | f + 1, m + 4, o, t, ht => by
    have hm : isLp (m + 4) = 1 := by unfold isLp; rw [if_neg (by omega)]
    rw [hm]
    unfold Ps
    by_cases k0 : K t = 0
    · rw [if_neg (by omega), if_pos (by omega)]
      exact ⟨Nat.le_refl _, ht, fun e => absurd e n10⟩
    have ht1 : t + 1 ≤ N := by
      have : ¬ N ≤ t := fun z => k0 (hK t z)
      omega
    by_cases k1 : K t = 1 ∨ K t = 2
    · rw [if_pos k1]
      have hl := lf_ok (K := K) (V := V) (law := law) (t := t)
      exact ⟨hl.2.1, by omega, fun e => by have := hl.2.2.2 e; omega⟩
    rw [if_neg k1]
    by_cases k2 : K t = 40 ∨ K t = 45
    · rw [if_neg (fun z => z k2)]
      by_cases ho : 8 ≤ o
      · rw [if_pos ho]
        exact ⟨Nat.le_refl _, ht, fun e => absurd e n30⟩
      rw [if_neg ho]
      by_cases k3 : K t = 45
      · rw [if_pos k3]
        have h1 := Ps_ok (V := V) (law := law) hK f 4 (o + 1) (t + 1) ht1
        by_cases q : (Ps K V law f 4 (o + 1) (t + 1)).1 = 0
        · rw [if_pos q]
          have h3 := h1.2.2 q
          refine ⟨Nat.le_trans (Nat.le_succ t) h1.1, h1.2.1, fun _ => ?_⟩
          unfold isLp at h3
          simp only [List.length_append, List.length_cons, List.length_nil] at h3 ⊢
          simp at h3
          omega
        · rw [if_neg q]
          exact ⟨by omega, h1.2.1, fun e => absurd e q⟩
      · rw [if_neg k3]
        have h1 := Ps_ok (V := V) (law := law) hK f 0 (o + 1) (t + 1) ht1
        by_cases q : (Ps K V law f 0 (o + 1) (t + 1)).1 = 0
        · rw [if_pos q]
          have h3 := h1.2.2 q
          by_cases k4 : K (Ps K V law f 0 (o + 1) (t + 1)).2.1 = 41
          · rw [if_pos k4]
            have : ¬ N ≤ (Ps K V law f 0 (o + 1) (t + 1)).2.1 := fun z => by have := hK _ z; omega
            refine ⟨by have := h1.1; show t ≤ _ + 1; omega, by show _ + 1 ≤ N; omega, fun _ => ?_⟩
            show _ ≤ (Ps K V law f 0 (o + 1) (t + 1)).2.1 + 1 ∧ t + 1 ≤ (Ps K V law f 0 (o + 1) (t + 1)).2.1 + 1
            have := h1.1
            show (Ps K V law f 0 (o + 1) (t + 1)).2.2.length + t ≤ (Ps K V law f 0 (o + 1) (t + 1)).2.1 + 1 ∧ _
            omega
          · rw [if_neg k4]
            exact ⟨by have := h1.1; show t ≤ (Ps K V law f 0 (o + 1) (t + 1)).2.1; omega, h1.2.1, fun e => absurd e n10⟩
        · rw [if_neg q]
          exact ⟨by omega, h1.2.1, fun e => absurd e q⟩
    · rw [if_pos k2]
      exact ⟨Nat.le_refl _, ht, fun e => absurd e n10⟩
/-- the fuel suffices -/
def wgt (m : Nat) : Nat := if m = 0 then 3 else if m = 2 then 2 else 1
theorem Ps_fuel {K V : Nat → Int} {law : Int} {N : Nat} (hK : ∀ t, N ≤ t → K t = 0) : ∀ f m o t, t ≤ N → 4 * (N - t) + wgt m ≤ f → (Ps K V law f m o t).1 ≠ 9
  | 0, m, o, t, ht, hf => by unfold wgt at hf; split at hf <;> (try split at hf) <;> omega
  | f + 1, 0, o, t, ht, hf => by
    have h1 := Ps_fuel (V := V) (law := law) hK f 2 o t ht (by unfold wgt at hf ⊢; simp at hf ⊢; omega)
    have ho := Ps_ok (V := V) (law := law) hK f 2 o t ht
    unfold Ps
    by_cases q : (Ps K V law f 2 o t).1 = 0
    · rw [if_pos q]
      have := (ho.2.2 q).2
      exact Ps_fuel hK f 1 o _ ho.2.1 (by unfold wgt at hf ⊢; unfold isLp at this; simp at hf this ⊢; omega)
    · rw [if_neg q]; exact h1
  | f + 1, 1, o, t, ht, hf => by
    unfold Ps
    by_cases k : K t = 43 ∨ K t = 45
    · have ht1 : t + 1 ≤ N := by
        have : ¬ N ≤ t := fun z => by have := hK t z; omega
        omega
      have h1 := Ps_fuel (V := V) (law := law) hK f 2 o (t + 1) ht1 (by unfold wgt at hf ⊢; simp at hf ⊢; omega)
      have ho := Ps_ok (V := V) (law := law) hK f 2 o (t + 1) ht1
      rw [if_pos k]
      by_cases q : (Ps K V law f 2 o (t + 1)).1 = 0
      · rw [if_pos q]
        have := (ho.2.2 q).2
        exact Ps_fuel hK f 1 o _ ho.2.1 (by unfold wgt at hf ⊢; unfold isLp at this; simp at hf this ⊢; omega)
      · rw [if_neg q]; exact h1
    · rw [if_neg k]; exact n09
  | f + 1, 2, o, t, ht, hf => by
    have h1 := Ps_fuel (V := V) (law := law) hK f 4 o t ht (by unfold wgt at hf ⊢; simp at hf ⊢; omega)
    have ho := Ps_ok (V := V) (law := law) hK f 4 o t ht
    unfold Ps
    by_cases q : (Ps K V law f 4 o t).1 = 0
    · rw [if_pos q]
      have := (ho.2.2 q).2
      exact Ps_fuel hK f 3 o _ ho.2.1 (by unfold wgt at hf ⊢; unfold isLp at this; simp at hf this ⊢; omega)
    · rw [if_neg q]; exact h1
  | f + 1, 3, o, t, ht, hf => by
    unfold Ps
    by_cases k : K t = 42 ∨ K t = 47
    · have ht1 : t + 1 ≤ N := by
        have : ¬ N ≤ t := fun z => by have := hK t z; omega
        omega
      have h1 := Ps_fuel (V := V) (law := law) hK f 4 o (t + 1) ht1 (by unfold wgt at hf ⊢; simp at hf ⊢; omega)
      have ho := Ps_ok (V := V) (law := law) hK f 4 o (t + 1) ht1
      rw [if_pos k]
      by_cases q : (Ps K V law f 4 o (t + 1)).1 = 0
      · rw [if_pos q]
        have := (ho.2.2 q).2
        exact Ps_fuel hK f 3 o _ ho.2.1 (by unfold wgt at hf ⊢; unfold isLp at this; simp at hf this ⊢; omega)
      · rw [if_neg q]; exact h1
    · rw [if_neg k]; exact n09
  | f + 1, m + 4, o, t, ht, hf => by
    have hw : wgt (m + 4) = 1 := by unfold wgt; rw [if_neg (by omega), if_neg (by omega)]
    rw [hw] at hf
    unfold Ps
    by_cases k0 : K t = 0
    · rw [if_neg (by omega), if_pos (by omega)]; exact n19
    have ht1 : t + 1 ≤ N := by
      have : ¬ N ≤ t := fun z => k0 (hK t z)
      omega
    by_cases k1 : K t = 1 ∨ K t = 2
    · rw [if_pos k1]; exact lf_ok.1
    rw [if_neg k1]
    by_cases k2 : K t = 40 ∨ K t = 45
    · rw [if_neg (fun z => z k2)]
      by_cases ho : 8 ≤ o
      · rw [if_pos ho]; exact n39
      rw [if_neg ho]
      by_cases k3 : K t = 45
      · rw [if_pos k3]
        have h1 := Ps_fuel (V := V) (law := law) hK f 4 (o + 1) (t + 1) ht1 (by unfold wgt; simp; omega)
        by_cases q : (Ps K V law f 4 (o + 1) (t + 1)).1 = 0
        · rw [if_pos q]; exact n09
        · rw [if_neg q]; exact h1
      · rw [if_neg k3]
        have h1 := Ps_fuel (V := V) (law := law) hK f 0 (o + 1) (t + 1) ht1 (by unfold wgt; simp; omega)
        by_cases q : (Ps K V law f 0 (o + 1) (t + 1)).1 = 0
        · rw [if_pos q]
          split
          · exact n09
          · exact n19
        · rw [if_neg q]; exact h1
    · rw [if_pos k2]; exact n19
