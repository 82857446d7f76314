/-! A TEXT -/
theorem Ps_pos {K V : Nat → Int} {law : Int} : ∀ f m o t, (m = 0 ∨ m = 2 ∨ 4 ≤ m) → (Ps K V law f m o t).1 = 0 → 0 < (Ps K V law f m o t).2.2.length
  | 0, m, o, t, _, h => absurd h n90
  | f + 1, 0, o, t, _, h => by
    have ih := Ps_pos (K := K) (V := V) (law := law) f 2 o t (by omega)
    unfold Ps at h ⊢
    by_cases q : (Ps K V law f 2 o t).1 = 0
    · rw [if_pos q]
      have := ih q
      simp only [List.length_append]
      omega
    · rw [if_neg q] at h
      exact absurd h q
  | f + 1, 1, o, t, hm, h => by omega
  | f + 1, 2, o, t, _, h => by
    have ih := Ps_pos (K := K) (V := V) (law := law) f 4 o t (by omega)
    unfold Ps at h ⊢
    by_cases q : (Ps K V law f 4 o t).1 = 0
    · rw [if_pos q]
      have := ih q
      simp only [List.length_append]
      omega
    · rw [if_neg q] at h
      exact absurd h q
  | f + 1, 3, o, t, hm, h => by omega
  | f + 1, m + 4, o, t, _, h => by
    unfold Ps at h ⊢
    by_cases k1 : K t = 1 ∨ K t = 2
    · rw [if_pos k1] at h ⊢
      have := lf_ok.2.2.2 h
      omega
    rw [if_neg k1] at h ⊢
    by_cases k2 : ¬ (K t = 40 ∨ K t = 45)
    · rw [if_pos k2] at h
      exact absurd h n10
    rw [if_neg k2] at h ⊢
    by_cases ho : 8 ≤ o
    · rw [if_pos ho] at h
      exact absurd h n30
    rw [if_neg ho] at h ⊢
    by_cases k3 : K t = 45
    · rw [if_pos k3] at h ⊢
      by_cases q : (Ps K V law f 4 (o + 1) (t + 1)).1 = 0
      · rw [if_pos q]
        simp only [List.length_append, List.length_cons]
        omega
      · rw [if_neg q] at h
        exact absurd h q
    · rw [if_neg k3] at h ⊢
      have ih := Ps_pos (K := K) (V := V) (law := law) f 0 (o + 1) (t + 1) (by omega)
      by_cases q : (Ps K V law f 0 (o + 1) (t + 1)).1 = 0
      · rw [if_pos q] at h ⊢
        by_cases k4 : K (Ps K V law f 0 (o + 1) (t + 1)).2.1 = 41
        · rw [if_pos k4]
          exact ih q
        · rw [if_neg k4] at h
          exact absurd h n10
      · rw [if_neg q] at h
        exact absurd h q
/-- a clause as told: kind, three numbers, codes -/
abbrev Cz : Type := Int × Int × Int × Int × List Int
def mkC (V : Nat → Int) (t : Nat) (cs : List Int) : Cz := if V t < 4 then (V t, -1, -1, -1, cs) else (V t, V (t + 1), (if V t = 4 then V (t + 3) else -1), (if V t = 4 then V (t + 5) else -1), [])
def lawOf (acc : List Cz) (x : Int) : Option (List Int) := (acc.find? (fun c => c.1 == x)).map (fun c => c.2.2.2.2)
def Tx (K V : Nat → Int) (F : Nat) : Nat → Nat → List Cz → Int × Nat × List Cz
  | 0, t, acc => (0, t, acc)
  | n + 1, t, acc => if K t = 0 then (0, t, acc) else if (clF K V F (lawOf acc (V t)).isSome acc.length t).1 = 0 then Tx K V F n (clF K V F (lawOf acc (V t)).isSome acc.length t).2.1 (acc ++ [mkC V t (clF K V F (lawOf acc (V t)).isSome acc.length t).2.2]) else ((clF K V F (lawOf acc (V t)).isSome acc.length t).1, (clF K V F (lawOf acc (V t)).isSome acc.length t).2.1, acc)
theorem lawOf_app (acc : List Cz) (c : Cz) (x : Int) : lawOf (acc ++ [c]) x = (lawOf acc x).or (if c.1 = x then some c.2.2.2.2 else none) := by
  unfold lawOf
  rw [List.find?_append]
  cases h : acc.find? (fun c => c.1 == x) with
  | some a => rfl
  | none =>
    by_cases e : c.1 = x
    · rw [if_pos e]
      simp [List.find?_cons, e]
    · rw [if_neg e]
      simp [List.find?_cons, e]
def lwR (j : Nat) (M : Mem) (o : Option (List Int)) (x : Nat) : Prop :=
  match o with
  | none => M (93 + 6 * j) x = 0
  | some cs => 0 < cs.length ∧ 0 ≤ M (92 + 6 * j) x ∧ M (93 + 6 * j) x = M (92 + 6 * j) x + cs.length ∧ M (93 + 6 * j) x ≤ M (90 + 6 * j) 1 ∧ seg (M (91 + 6 * j)) (M (92 + 6 * j) x).toNat cs.length = cs
/-- script j holds these clauses -/
def SCR (j : Nat) (M : Mem) (acc : List Cz) : Prop := (M (90 + 6 * j) 6 = acc.length ∧ 0 ≤ M (90 + 6 * j) 1) ∧ (∀ (k : Nat) (c : Cz), acc[k]? = some c → M (94 + 6 * j) k = c.1 ∧ (4 ≤ c.1 → M (95 + 6 * j) (k * 3) = c.2.1) ∧ (c.1 = 4 → M (95 + 6 * j) (k * 3 + 1) = c.2.2.1 ∧ M (95 + 6 * j) (k * 3 + 2) = c.2.2.2.1)) ∧ ∀ x : Nat, x < 4 → lwR j M (lawOf acc x) x
theorem SCR.told {j : Nat} {M : Mem} {acc : List Cz} (h : SCR j M acc) {x : Int} (hx : 0 ≤ x ∧ x < 4) : (lawOf acc x).isSome = true ↔ 0 < M (93 + 6 * j) x.toNat := by
  have h1 := h.2.2 x.toNat (by omega)
  rw [show ((x.toNat : Nat) : Int) = x by omega] at h1
  cases e : lawOf acc x with
  | none =>
    rw [e] at h1
    have h2 : M (93 + 6 * j) x.toNat = 0 := h1
    rw [h2]
    simp
  | some cs =>
    rw [e] at h1
    obtain ⟨a, b, c, _⟩ := h1
    simp
    omega
theorem lwR_keep {K V : Nat → Int} {j : Nat} {M M1 : Mem} {t c : Nat} {k : Int} {cs : List Int} {r2 r3 r5 : Nat → Int} (h : CLS K V j M M1 t k c cs r2 r3 r5) {x : Nat} (h2 : r2 x = M (92 + 6 * j) x) (h3 : r3 x = M (93 + 6 * j) x) {o : Option (List Int)} (hl : lwR j M o x) : lwR j M1 o x := by
  obtain ⟨_, ⟨b1, _⟩, ⟨c1, _⟩, d2, d3, _⟩ := h
  unfold lwR at hl ⊢
  cases o with
  | none =>
    have : M (93 + 6 * j) x = 0 := hl
    show M1 (93 + 6 * j) x = 0
    rw [d3, h3]
    exact this
  | some ls =>
    obtain ⟨a1, a2, a3, a4, a5⟩ := hl
    refine ⟨a1, ?_, ?_, ?_, ?_⟩
    · rw [d2, h2]; exact a2
    · rw [d3, h3, d2, h2]; exact a3
    · rw [d3, h3, b1]; omega
    · rw [d2, h2]
      rw [← a5]
      rw [seg_len]
      exact seg_congr _ _ (fun q _ hq => c1 q (by omega))
theorem setN_s (g : Nat → Int) (i : Nat) (v : Int) : setN g i v i = v := by simp [setN]
theorem setN_o {g : Nat → Int} {i k : Nat} {v : Int} (h : k ≠ i) : setN g i v k = g k := by simp [setN, h]
theorem scr_law {K V : Nat → Int} {j : Nat} {M M1 : Mem} {t t1 c : Nat} {cs : List Int} {acc : List Cz} (hs : SCR j M acc) (hc : acc.length = c) (hv : 0 ≤ V t ∧ V t < 4) (hn : lawOf acc (V t) = none) (hp : 0 < cs.length) (h : CLS K V j M M1 t1 (V t) c cs (setN (M (92 + 6 * j)) (V t).toNat (M (90 + 6 * j) 1)) (setN (M (93 + 6 * j)) (V t).toNat (M (90 + 6 * j) 1 + cs.length)) (M (95 + 6 * j))) : SCR j M1 (acc ++ [mkC V t cs]) := by
  have hk := h
  obtain ⟨_, ⟨b1, b2⟩, ⟨c1, c2⟩, d2, d3, d4, d5⟩ := h
  have em : mkC V t cs = (V t, -1, -1, -1, cs) := by unfold mkC; rw [if_pos hv.2]
  refine ⟨⟨?_, ?_⟩, fun k cc hcc => ?_, fun x hx => ?_⟩
  · rw [b2, List.length_append, List.length_singleton]; omega
  · rw [b1]; have := hs.1.2; omega
  · rw [d4, d5]
    by_cases hkl : k < acc.length
    · rw [List.getElem?_append_left hkl] at hcc
      rw [setN_o (by omega)]
      exact hs.2.1 k cc hcc
    · have hk2 : k = acc.length := by
        have := (List.getElem?_eq_some_iff.mp hcc).1
        rw [List.length_append, List.length_singleton] at this
        omega
      subst hk2
      rw [List.getElem?_append_right (Nat.le_refl _), Nat.sub_self, em] at hcc
      have : cc = (V t, -1, -1, -1, cs) := (Option.some.inj hcc).symm
      subst this
      rw [hc, setN_s]
      exact ⟨rfl, fun z => absurd z (by show ¬ 4 ≤ V t; omega), fun z => absurd z (by show ¬ V t = 4; omega)⟩
  · rw [lawOf_app, em]
    by_cases e : V t = (x : Int)
    · rw [← e, hn, if_pos rfl]
      show lwR j M1 (some cs) x
      have hx2 : (V t).toNat = x := by omega
      rw [hx2] at d2 d3
      have hz := hs.1.2
      refine ⟨hp, ?_, ?_, ?_, ?_⟩
      · rw [d2, setN_s]; exact hz
      · rw [d3, setN_s, d2, setN_s]
      · rw [d3, setN_s, b1]; omega
      · rw [d2, setN_s]; exact c2
    · rw [if_neg e, Option.or_none]
      exact lwR_keep hk (setN_o (by omega)) (setN_o (by omega)) (hs.2.2 x hx)
theorem scr_deed {K V : Nat → Int} {j : Nat} {M M1 : Mem} {t t1 c : Nat} {acc : List Cz} (hs : SCR j M acc) (hc : acc.length = c) (hv : 4 ≤ V t) (cs : List Int) (h : CLS K V j M M1 t1 (V t) c [] (M (92 + 6 * j)) (M (93 + 6 * j)) (nbR V (V t) c (t + 1) (M (95 + 6 * j)))) : SCR j M1 (acc ++ [mkC V t cs]) := by
  have hk := h
  obtain ⟨_, ⟨b1, b2⟩, ⟨c1, c2⟩, d2, d3, d4, d5⟩ := h
  have em : mkC V t cs = (V t, V (t + 1), (if V t = 4 then V (t + 3) else -1), (if V t = 4 then V (t + 5) else -1), []) := by unfold mkC; rw [if_neg (by omega)]
  refine ⟨⟨?_, ?_⟩, fun k cc hcc => ?_, fun x hx => ?_⟩
  · rw [b2, List.length_append, List.length_singleton]; omega
  · rw [b1]; have := hs.1.2; simp; omega
  · rw [d4, d5]
    by_cases hkl : k < acc.length
    · rw [List.getElem?_append_left hkl] at hcc
      rw [setN_o (by omega)]
      have old : ∀ q, q < c * 3 → nbR V (V t) c (t + 1) (M (95 + 6 * j)) q = M (95 + 6 * j) q := fun q hq => by
        unfold nbR
        split
        · rw [setN_o (by omega), setN_o (by omega), setN_o (by omega)]
        · rw [setN_o (by omega)]
      rw [old _ (by omega), old _ (by omega), old _ (by omega)]
      exact hs.2.1 k cc hcc
    · have hk2 : k = acc.length := by
        have := (List.getElem?_eq_some_iff.mp hcc).1
        rw [List.length_append, List.length_singleton] at this
        omega
      subst hk2
      rw [List.getElem?_append_right (Nat.le_refl _), Nat.sub_self, em] at hcc
      have : cc = _ := (Option.some.inj hcc).symm
      subst this
      rw [hc, setN_s]
      refine ⟨rfl, fun _ => ?_, fun z => ?_⟩
      · unfold nbR
        split
        · rw [setN_o (by omega), setN_o (by omega), setN_s]
        · rw [setN_s]
      · have z4 : V t = 4 := z
        show nbR V (V t) c (t + 1) (M (95 + 6 * j)) (c * 3 + 1) = (if V t = 4 then V (t + 3) else -1) ∧ nbR V (V t) c (t + 1) (M (95 + 6 * j)) (c * 3 + 2) = (if V t = 4 then V (t + 5) else -1)
        unfold nbR
        rw [if_pos z4, if_pos z4, if_pos z4, setN_s, setN_o (by omega), setN_s]
        exact ⟨rfl, rfl⟩
  · rw [lawOf_app, em]
    rw [if_neg (by show ¬ V t = (x : Int); omega), Option.or_none]
    exact lwR_keep hk rfl rfl (hs.2.2 x hx)
