/-! A CLAUSE -/
def clF (K V : Nat → Int) (F : Nat) (tld : Bool) (c t : Nat) : Int × Nat × List Int :=
  if K t = 2 ∧ 0 ≤ V t ∧ V t ≤ 7 then
    (if V t < 4 ∧ tld = true then (4, t, []) else if 24 ≤ c then (6, t, []) else
      if V t < 4 then (if (Ps K V (V t) F 0 0 (t + 1)).1 = 0 then (if K (Ps K V (V t) F 0 0 (t + 1)).2.1 = 59 then (0, (Ps K V (V t) F 0 0 (t + 1)).2.1 + 1, (Ps K V (V t) F 0 0 (t + 1)).2.2) else (1, (Ps K V (V t) F 0 0 (t + 1)).2.1, [])) else ((Ps K V (V t) F 0 0 (t + 1)).1, (Ps K V (V t) F 0 0 (t + 1)).2.1, []))
      else (if (ddF K V (V t) (t + 1)).1 = 0 then (if K (ddF K V (V t) (t + 1)).2 = 59 then (0, (ddF K V (V t) (t + 1)).2 + 1, []) else (1, (ddF K V (V t) (t + 1)).2, [])) else ((ddF K V (V t) (t + 1)).1, (ddF K V (V t) (t + 1)).2, [])))
  else (1, t, [])
def CLS (K V : Nat → Int) (j : Nat) (M M1 : Mem) (t : Nat) (k : Int) (c : Nat) (cs : List Int) (r2 r3 r5 : Nat → Int) : Prop :=
  ((∀ o, o ≠ 114 → (o < 90 + 6 * j ∨ 95 + 6 * j < o) → M1 o = M o) ∧ (∀ q, q ≠ 6 → q ≠ 7 → q ≠ 8 → q ≠ 9 → M1 114 q = M 114 q) ∧ CR K V M1 t) ∧ (M1 (90 + 6 * j) 1 = M (90 + 6 * j) 1 + cs.length ∧ M1 (90 + 6 * j) 6 = c + 1) ∧ ((∀ q : Nat, (q : Int) < M (90 + 6 * j) 1 → M1 (91 + 6 * j) q = M (91 + 6 * j) q) ∧ seg (M1 (91 + 6 * j)) (M (90 + 6 * j) 1).toNat cs.length = cs) ∧ M1 (92 + 6 * j) = r2 ∧ M1 (93 + 6 * j) = r3 ∧ M1 (94 + 6 * j) = setN (M (94 + 6 * j)) c k ∧ M1 (95 + 6 * j) = r5
def FC (Pl : Nat → Int) (j : Nat) (M M1 : Mem) (f : Int) (t : Nat) : Prop := (∀ o, o ≠ 114 → (o < 90 + 6 * j ∨ 95 + 6 * j < o) → M1 o = M o) ∧ (∀ q, q ≠ 6 → q ≠ 7 → q ≠ 8 → q ≠ 9 → q ≠ 11 → q ≠ 12 → M1 114 q = M 114 q) ∧ M1 114 11 = f ∧ M1 114 12 = Pl t
theorem fc_ref {K V Pl : Nat → Int} {j : Nat} (hj : j < 4) {M : Mem} {t : Nat} {f : Int} (ht : t ≤ 300) (hT : TK K V Pl M) (h : CR K V M t) : FC Pl j M (refM M f) f t := by
  have a := ref_fb (j := j) (f := f) hj ht hT h
  have b : ∀ o, o ≠ 114 → refM M f o = M o := fun o ho => by unfold refM; rw [up_row ho, up_row ho]
  exact ⟨fun o h1 _ => b o h1, fun q a1 a2 a3 _ a4 a5 => a.2.1 q a1 a2 a3 a4 a5, a.2.2⟩
/-- the clause's word behind, its law told -/
def clA (M : Mem) (v : Int) : Mem := up (advM M) 114 9 v
theorem clA_o {M : Mem} {v : Int} {o : Nat} (h : o ≠ 114) : clA M v o = M o := by
  unfold clA advM
  rw [up_row h, up_row h, up_row h, up_row h]
theorem clA_k {M : Mem} {v : Int} {k : Nat} (h6 : k ≠ 6) (h7 : k ≠ 7) (h8 : k ≠ 8) (h9 : k ≠ 9) : clA M v 114 k = M 114 k := by
  unfold clA advM
  rw [up_k h9, up_k h8, up_k h7, up_k h6]
theorem clA_tk {K V Pl : Nat → Int} {M : Mem} {v : Int} {t : Nat} (hT : TK K V Pl M) (h : CR K V M t) : TK K V Pl (clA M v) ∧ CR K V (clA M v) (t + 1) := by
  have a := adv_rs (j := 0) (by decide) hT h
  constructor
  · unfold TK tIn at hT ⊢
    rw [clA_o (o := 116) (by decide), clA_o (o := 117) (by decide), clA_o (o := 118) (by decide), clA_k (k := 5) (by decide) (by decide) (by decide) (by decide)]
    exact hT
  · unfold CR clA
    rw [up_k (by decide), up_k (by decide), up_k (by decide)]
    exact a.2
theorem fc_rf {Pl : Nat → Int} {j : Nat} (hj : j < 4) {M M2 : Mem} {v f : Int} {t : Nat} (h : RF j (clA M v) M2) (h1 : M2 114 11 = f) (h2 : M2 114 12 = Pl t) : FC Pl j M M2 f t :=
  ⟨fun o a b => by rw [h.1 o a (by omega) (by omega), clA_o a], fun q a6 a7 a8 a9 a11 a12 => by rw [h.2.1 q a6 a7 a8 a11 a12, clA_k a6 a7 a8 a9], h1, h2⟩
theorem fc_fb {Pl : Nat → Int} {j : Nat} (hj : j < 4) {M M2 : Mem} {v f : Int} {t : Nat} (h : FB Pl j (clA M v) M2 f t) : FC Pl j M M2 f t :=
  ⟨fun o a b => by rw [h.1 o a (by omega), clA_o a], fun q a6 a7 a8 a9 a11 a12 => by rw [h.2.1 q a6 a7 a8 a11 a12, clA_k a6 a7 a8 a9], h.2.2⟩
theorem cls_law {K V Pl : Nat → Int} {j : Nat} (hj : j < 4) {M M2 : Mem} {v : Int} {t c : Nat} {cs : List Int} (hc : M (90 + 6 * j) 6 = c) (hs : RS j (clA M v) M2 cs) (hT : TK K V Pl M2) (hC : CR K V M2 t) : CLS K V j M (addQ0 (addL0 (advM M2) j v (M (90 + 6 * j) 1)) j v) (t + 1) v c cs (setN (M (92 + 6 * j)) v.toNat (M (90 + 6 * j) 1)) (setN (M (93 + 6 * j)) v.toNat (M (90 + 6 * j) 1 + cs.length)) (M (95 + 6 * j)) := by
  obtain ⟨a1, a2, a3, a4, a5, a6⟩ := hs
  have ad := adv_st (j := j) hj hT hC
  have bo : ∀ o, o ≠ 114 → advM M2 o = M2 o := fun o ho => by unfold advM; rw [up_row ho, up_row ho, up_row ho]
  have m0 : ∀ o, o ≠ 114 → o ≠ 90 + 6 * j → o ≠ 91 + 6 * j → M2 o = M o := fun o x y z => by rw [a1.1 o x y z, clA_o x]
  have e6 : addL0 (advM M2) j v (M (90 + 6 * j) 1) (90 + 6 * j) 6 = c := by
    unfold addL0
    rw [up_o (by omega), up_o (by omega), bo _ (by omega), a1.2.2 6 (by decide), clA_o (by omega)]
    exact hc
  have e1 : advM M2 (90 + 6 * j) 1 = M (90 + 6 * j) 1 + cs.length := by rw [bo _ (by omega), a2, clA_o (by omega)]
  rw [clA_o (by omega)] at a3 a4
  unfold addQ0
  rw [e6]
  unfold addL0
  rw [e1]
  refine ⟨⟨fun o x y => ?_, fun q x6 x7 x8 x9 => ?_, ?_⟩, ⟨?_, ?_⟩, ⟨fun q hq => ?_, ?_⟩, ?_, ?_, ?_, ?_⟩
  · rw [up_row (by omega), up_row (by omega), up_row (by omega), up_row (by omega), bo o x, m0 o x (by omega) (by omega)]
  · rw [up_o (by omega), up_o (by omega), up_o (by omega), up_o (by omega), ad.2.1 q x6 x7 x8]
    by_cases h11 : q = 11
    · subst h11; rw [a5, clA_k (by decide) (by decide) (by decide) (by decide)]
    by_cases h12 : q = 12
    · subst h12; rw [a6, clA_k (by decide) (by decide) (by decide) (by decide)]
    rw [a1.2.1 q x6 x7 x8 h11 h12, clA_k x6 x7 x8 x9]
  · unfold CR
    rw [up_row (by omega), up_row (by omega), up_row (by omega), up_row (by omega)]
    exact ad.2.2.2
  · rw [up_k (by decide), up_o (by omega), up_o (by omega), up_o (by omega)]; exact e1
  · rw [up_s]
  · rw [up_o (by omega), up_o (by omega), up_o (by omega), up_o (by omega), bo _ (by omega), a3 q hq, clA_o (by omega)]
  · rw [up_row (by omega), up_row (by omega), up_row (by omega), up_row (by omega), bo _ (by omega)]; exact a4
  · rw [up_row (by omega), up_row (by omega), up_row (by omega), up_set, bo _ (by omega), m0 _ (by omega) (by omega) (by omega)]
  · rw [up_row (by omega), up_row (by omega), up_set, up_row (by omega), bo _ (by omega), m0 _ (by omega) (by omega) (by omega)]
  · rw [up_row (by omega), Int.toNat_natCast, up_set, up_row (by omega), up_row (by omega), bo _ (by omega), m0 _ (by omega) (by omega) (by omega)]
  · rw [up_row (by omega), up_row (by omega), up_row (by omega), up_row (by omega), bo _ (by omega), m0 _ (by omega) (by omega) (by omega)]
theorem cls_deed {K V Pl : Nat → Int} {j : Nat} (hj : j < 4) {M M2 : Mem} {v : Int} {t c : Nat} {nb : Nat → Int} (hc : M (90 + 6 * j) 6 = c) (hs : ST1 K V j (clA M v) M2 t nb) (hT : TK K V Pl M2) : CLS K V j M (addQ0 (advM M2) j v) (t + 1) v c [] (M (92 + 6 * j)) (M (93 + 6 * j)) nb := by
  obtain ⟨a1, a2, a3, a4⟩ := hs
  have ad := adv_st (j := j) hj hT a4
  have bo : ∀ o, o ≠ 114 → advM M2 o = M2 o := fun o ho => by unfold advM; rw [up_row ho, up_row ho, up_row ho]
  have m0 : ∀ o, o ≠ 114 → o ≠ 95 + 6 * j → M2 o = M o := fun o x y => by rw [a1 o x y, clA_o x]
  have e6 : advM M2 (90 + 6 * j) 6 = c := by
    rw [bo _ (by omega), m0 _ (by omega) (by omega)]
    exact hc
  unfold addQ0
  rw [e6]
  refine ⟨⟨fun o x y => ?_, fun q x6 x7 x8 x9 => ?_, ?_⟩, ⟨?_, ?_⟩, ⟨fun q hq => ?_, rfl⟩, ?_, ?_, ?_, ?_⟩
  · rw [up_row (by omega), up_row (by omega), bo o x, m0 o x (by omega)]
  · rw [up_o (by omega), up_o (by omega), ad.2.1 q x6 x7 x8, a2 q x6 x7 x8, clA_k x6 x7 x8 x9]
  · unfold CR
    rw [up_row (by omega), up_row (by omega)]
    exact ad.2.2.2
  · rw [up_k (by decide), up_o (by omega), bo _ (by omega), m0 _ (by omega) (by omega)]; simp
  · rw [up_s]
  · rw [up_o (by omega), up_o (by omega), bo _ (by omega), m0 _ (by omega) (by omega)]
  · rw [up_row (by omega), up_row (by omega), bo _ (by omega), m0 _ (by omega) (by omega)]
  · rw [up_row (by omega), up_row (by omega), bo _ (by omega), m0 _ (by omega) (by omega)]
  · rw [up_row (by omega), Int.toNat_natCast, up_set, bo _ (by omega), m0 _ (by omega) (by omega)]
  · rw [up_row (by omega), up_row (by omega), bo _ (by omega)]; exact a3
