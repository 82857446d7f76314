/-! THE MODEL'S WEDDINGS -/
def nxP (n : Nat) (p : List Int) : Nat → Nat → Nat → Option Nat
  | 0, _, _ => none
  | f + 1, s, o => if o < n then (if p.getD o 0 ≠ -1 then nxP n p f s (o + 1) else if 0 < s then nxP n p f (s - 1) (o + 1) else some o) else none
def lmS (n : Nat) (p : List Int) (many left free c : Nat) : Option (List Int × Nat × Nat × Nat) :=
  if p.getD c 0 = -1 then (if 2 ≤ free ∧ 1 ≤ many / (free - 1) then (nxP n p 7 (left / (many / (free - 1))) (c + 1)).map (fun (o : Nat) => ((p.set c (o : Int)).set o (c : Int), many / (free - 1), left % (many / (free - 1)), free - 2)) else none) else some (p, many, left, free)
def lmR (n : Nat) : Nat → Nat → List Int × Nat × Nat × Nat → Option (List Int)
  | 0, _, st => some st.1
  | q + 1, c, st => (lmS n st.1 st.2.1 st.2.2.1 st.2.2.2 c).bind (lmR n q (c + 1))
def wedP (n : Nat) : List (List Int) :=
  if n = 2 then [[1, 0]] else if n = 4 then [[1, 0, 3, 2], [2, 3, 0, 1], [3, 2, 1, 0]] else
  [[1, 0, 3, 2, 5, 4], [1, 0, 4, 5, 2, 3], [1, 0, 5, 4, 3, 2], [2, 3, 0, 1, 5, 4], [2, 4, 0, 5, 1, 3], [2, 5, 0, 4, 3, 1], [3, 2, 1, 0, 5, 4], [3, 4, 5, 0, 1, 2], [3, 5, 4, 0, 2, 1], [4, 2, 1, 5, 0, 3], [4, 3, 5, 1, 0, 2], [4, 5, 3, 2, 0, 1], [5, 2, 1, 4, 3, 0], [5, 3, 4, 1, 2, 0], [5, 4, 3, 2, 1, 0]]
def waysN (n : Nat) : Nat := if n = 2 then 1 else if n = 4 then 3 else 15
theorem lm_all : ∀ n, n < 7 → (n = 2 ∨ n = 4 ∨ n = 6) → (wedP n).length = waysN n ∧ ∀ k, k < waysN n → lmR n n 0 (List.replicate n (-1), waysN n, k, n) = (wedP n)[k]? := by decide +kernel
theorem wed_b : ∀ n, n < 7 → (n = 2 ∨ n = 4 ∨ n = 6) → ∀ p ∈ wedP n, p.length = n ∧ ∀ c, c < n → 0 ≤ p.getD c 0 ∧ p.getD c 0 < n := by decide +kernel
def mxF (m : Nat → Int) (p : List Int) : Nat → Int
  | 0 => 0
  | c + 1 => if mxF m p c < m c + m (p.getD c 0).toNat then m c + m (p.getD c 0).toNat else mxF m p c
theorem mxF_s (m : Nat → Int) (p : List Int) (c : Nat) : mxF m p (c + 1) = max (mxF m p c) (m c + m (p.getD c 0).toNat) := by
  show (if mxF m p c < m c + m (p.getD c 0).toNat then m c + m (p.getD c 0).toNat else mxF m p c) = _
  by_cases h : mxF m p c < m c + m (p.getD c 0).toNat
  · rw [if_pos h]; omega
  · rw [if_neg h]; omega
theorem mx2_0 (m : Nat → Int) : mxF m [1, 0] 2 = max ((0 : Int)) (m 0 + m 1) := by
  rw [mxF_s, mxF_s]
  show max (max ((0 : Int)) (m 0 + m 1)) (m 1 + m 0) = _
  omega
theorem mar_2 (m : Nat → Int) : mar m 2 7 (List.replicate 2 (-1)) 0 0 = (wedP 2).map (fun p => (p, mxF m p 2)) := by
  have e : mar m 2 7 (List.replicate 2 (-1)) 0 0 = [([1, 0], max ((0 : Int)) (m 0 + m 1))] := by rfl
  rw [e]
  show _ = [([1, 0], mxF m [1, 0] 2)]
  rw [mx2_0]
theorem mx4_0 (m : Nat → Int) : mxF m [1, 0, 3, 2] 4 = max (max ((0 : Int)) (m 0 + m 1)) (m 2 + m 3) := by
  rw [mxF_s, mxF_s, mxF_s, mxF_s]
  show max (max (max (max ((0 : Int)) (m 0 + m 1)) (m 1 + m 0)) (m 2 + m 3)) (m 3 + m 2) = _
  omega
theorem mx4_1 (m : Nat → Int) : mxF m [2, 3, 0, 1] 4 = max (max ((0 : Int)) (m 0 + m 2)) (m 1 + m 3) := by
  rw [mxF_s, mxF_s, mxF_s, mxF_s]
  show max (max (max (max ((0 : Int)) (m 0 + m 2)) (m 1 + m 3)) (m 2 + m 0)) (m 3 + m 1) = _
  omega
theorem mx4_2 (m : Nat → Int) : mxF m [3, 2, 1, 0] 4 = max (max ((0 : Int)) (m 0 + m 3)) (m 1 + m 2) := by
  rw [mxF_s, mxF_s, mxF_s, mxF_s]
  show max (max (max (max ((0 : Int)) (m 0 + m 3)) (m 1 + m 2)) (m 2 + m 1)) (m 3 + m 0) = _
  omega
theorem mar_4 (m : Nat → Int) : mar m 4 7 (List.replicate 4 (-1)) 0 0 = (wedP 4).map (fun p => (p, mxF m p 4)) := by
  have e : mar m 4 7 (List.replicate 4 (-1)) 0 0 = [([1, 0, 3, 2], max (max ((0 : Int)) (m 0 + m 1)) (m 2 + m 3)), ([2, 3, 0, 1], max (max ((0 : Int)) (m 0 + m 2)) (m 1 + m 3)), ([3, 2, 1, 0], max (max ((0 : Int)) (m 0 + m 3)) (m 1 + m 2))] := by rfl
  rw [e]
  show _ = [([1, 0, 3, 2], mxF m [1, 0, 3, 2] 4), ([2, 3, 0, 1], mxF m [2, 3, 0, 1] 4), ([3, 2, 1, 0], mxF m [3, 2, 1, 0] 4)]
  rw [mx4_0, mx4_1, mx4_2]
theorem mx6_0 (m : Nat → Int) : mxF m [1, 0, 3, 2, 5, 4] 6 = max (max (max ((0 : Int)) (m 0 + m 1)) (m 2 + m 3)) (m 4 + m 5) := by
  rw [mxF_s, mxF_s, mxF_s, mxF_s, mxF_s, mxF_s]
  show max (max (max (max (max (max ((0 : Int)) (m 0 + m 1)) (m 1 + m 0)) (m 2 + m 3)) (m 3 + m 2)) (m 4 + m 5)) (m 5 + m 4) = _
  omega
theorem mx6_1 (m : Nat → Int) : mxF m [1, 0, 4, 5, 2, 3] 6 = max (max (max ((0 : Int)) (m 0 + m 1)) (m 2 + m 4)) (m 3 + m 5) := by
  rw [mxF_s, mxF_s, mxF_s, mxF_s, mxF_s, mxF_s]
  show max (max (max (max (max (max ((0 : Int)) (m 0 + m 1)) (m 1 + m 0)) (m 2 + m 4)) (m 3 + m 5)) (m 4 + m 2)) (m 5 + m 3) = _
  omega
theorem mx6_2 (m : Nat → Int) : mxF m [1, 0, 5, 4, 3, 2] 6 = max (max (max ((0 : Int)) (m 0 + m 1)) (m 2 + m 5)) (m 3 + m 4) := by
  rw [mxF_s, mxF_s, mxF_s, mxF_s, mxF_s, mxF_s]
  show max (max (max (max (max (max ((0 : Int)) (m 0 + m 1)) (m 1 + m 0)) (m 2 + m 5)) (m 3 + m 4)) (m 4 + m 3)) (m 5 + m 2) = _
  omega
theorem mx6_3 (m : Nat → Int) : mxF m [2, 3, 0, 1, 5, 4] 6 = max (max (max ((0 : Int)) (m 0 + m 2)) (m 1 + m 3)) (m 4 + m 5) := by
  rw [mxF_s, mxF_s, mxF_s, mxF_s, mxF_s, mxF_s]
  show max (max (max (max (max (max ((0 : Int)) (m 0 + m 2)) (m 1 + m 3)) (m 2 + m 0)) (m 3 + m 1)) (m 4 + m 5)) (m 5 + m 4) = _
  omega
theorem mx6_4 (m : Nat → Int) : mxF m [2, 4, 0, 5, 1, 3] 6 = max (max (max ((0 : Int)) (m 0 + m 2)) (m 1 + m 4)) (m 3 + m 5) := by
  rw [mxF_s, mxF_s, mxF_s, mxF_s, mxF_s, mxF_s]
  show max (max (max (max (max (max ((0 : Int)) (m 0 + m 2)) (m 1 + m 4)) (m 2 + m 0)) (m 3 + m 5)) (m 4 + m 1)) (m 5 + m 3) = _
  omega
theorem mx6_5 (m : Nat → Int) : mxF m [2, 5, 0, 4, 3, 1] 6 = max (max (max ((0 : Int)) (m 0 + m 2)) (m 1 + m 5)) (m 3 + m 4) := by
  rw [mxF_s, mxF_s, mxF_s, mxF_s, mxF_s, mxF_s]
  show max (max (max (max (max (max ((0 : Int)) (m 0 + m 2)) (m 1 + m 5)) (m 2 + m 0)) (m 3 + m 4)) (m 4 + m 3)) (m 5 + m 1) = _
  omega
theorem mx6_6 (m : Nat → Int) : mxF m [3, 2, 1, 0, 5, 4] 6 = max (max (max ((0 : Int)) (m 0 + m 3)) (m 1 + m 2)) (m 4 + m 5) := by
  rw [mxF_s, mxF_s, mxF_s, mxF_s, mxF_s, mxF_s]
  show max (max (max (max (max (max ((0 : Int)) (m 0 + m 3)) (m 1 + m 2)) (m 2 + m 1)) (m 3 + m 0)) (m 4 + m 5)) (m 5 + m 4) = _
  omega
theorem mx6_7 (m : Nat → Int) : mxF m [3, 4, 5, 0, 1, 2] 6 = max (max (max ((0 : Int)) (m 0 + m 3)) (m 1 + m 4)) (m 2 + m 5) := by
  rw [mxF_s, mxF_s, mxF_s, mxF_s, mxF_s, mxF_s]
  show max (max (max (max (max (max ((0 : Int)) (m 0 + m 3)) (m 1 + m 4)) (m 2 + m 5)) (m 3 + m 0)) (m 4 + m 1)) (m 5 + m 2) = _
  omega
theorem mx6_8 (m : Nat → Int) : mxF m [3, 5, 4, 0, 2, 1] 6 = max (max (max ((0 : Int)) (m 0 + m 3)) (m 1 + m 5)) (m 2 + m 4) := by
  rw [mxF_s, mxF_s, mxF_s, mxF_s, mxF_s, mxF_s]
  show max (max (max (max (max (max ((0 : Int)) (m 0 + m 3)) (m 1 + m 5)) (m 2 + m 4)) (m 3 + m 0)) (m 4 + m 2)) (m 5 + m 1) = _
  omega
theorem mx6_9 (m : Nat → Int) : mxF m [4, 2, 1, 5, 0, 3] 6 = max (max (max ((0 : Int)) (m 0 + m 4)) (m 1 + m 2)) (m 3 + m 5) := by
  rw [mxF_s, mxF_s, mxF_s, mxF_s, mxF_s, mxF_s]
  show max (max (max (max (max (max ((0 : Int)) (m 0 + m 4)) (m 1 + m 2)) (m 2 + m 1)) (m 3 + m 5)) (m 4 + m 0)) (m 5 + m 3) = _
  omega
theorem mx6_10 (m : Nat → Int) : mxF m [4, 3, 5, 1, 0, 2] 6 = max (max (max ((0 : Int)) (m 0 + m 4)) (m 1 + m 3)) (m 2 + m 5) := by
  rw [mxF_s, mxF_s, mxF_s, mxF_s, mxF_s, mxF_s]
  show max (max (max (max (max (max ((0 : Int)) (m 0 + m 4)) (m 1 + m 3)) (m 2 + m 5)) (m 3 + m 1)) (m 4 + m 0)) (m 5 + m 2) = _
  omega
theorem mx6_11 (m : Nat → Int) : mxF m [4, 5, 3, 2, 0, 1] 6 = max (max (max ((0 : Int)) (m 0 + m 4)) (m 1 + m 5)) (m 2 + m 3) := by
  rw [mxF_s, mxF_s, mxF_s, mxF_s, mxF_s, mxF_s]
  show max (max (max (max (max (max ((0 : Int)) (m 0 + m 4)) (m 1 + m 5)) (m 2 + m 3)) (m 3 + m 2)) (m 4 + m 0)) (m 5 + m 1) = _
  omega
theorem mx6_12 (m : Nat → Int) : mxF m [5, 2, 1, 4, 3, 0] 6 = max (max (max ((0 : Int)) (m 0 + m 5)) (m 1 + m 2)) (m 3 + m 4) := by
  rw [mxF_s, mxF_s, mxF_s, mxF_s, mxF_s, mxF_s]
  show max (max (max (max (max (max ((0 : Int)) (m 0 + m 5)) (m 1 + m 2)) (m 2 + m 1)) (m 3 + m 4)) (m 4 + m 3)) (m 5 + m 0) = _
  omega
theorem mx6_13 (m : Nat → Int) : mxF m [5, 3, 4, 1, 2, 0] 6 = max (max (max ((0 : Int)) (m 0 + m 5)) (m 1 + m 3)) (m 2 + m 4) := by
  rw [mxF_s, mxF_s, mxF_s, mxF_s, mxF_s, mxF_s]
  show max (max (max (max (max (max ((0 : Int)) (m 0 + m 5)) (m 1 + m 3)) (m 2 + m 4)) (m 3 + m 1)) (m 4 + m 2)) (m 5 + m 0) = _
  omega
theorem mx6_14 (m : Nat → Int) : mxF m [5, 4, 3, 2, 1, 0] 6 = max (max (max ((0 : Int)) (m 0 + m 5)) (m 1 + m 4)) (m 2 + m 3) := by
  rw [mxF_s, mxF_s, mxF_s, mxF_s, mxF_s, mxF_s]
  show max (max (max (max (max (max ((0 : Int)) (m 0 + m 5)) (m 1 + m 4)) (m 2 + m 3)) (m 3 + m 2)) (m 4 + m 1)) (m 5 + m 0) = _
  omega
theorem mar_6 (m : Nat → Int) : mar m 6 7 (List.replicate 6 (-1)) 0 0 = (wedP 6).map (fun p => (p, mxF m p 6)) := by
  have e : mar m 6 7 (List.replicate 6 (-1)) 0 0 = [([1, 0, 3, 2, 5, 4], max (max (max ((0 : Int)) (m 0 + m 1)) (m 2 + m 3)) (m 4 + m 5)), ([1, 0, 4, 5, 2, 3], max (max (max ((0 : Int)) (m 0 + m 1)) (m 2 + m 4)) (m 3 + m 5)), ([1, 0, 5, 4, 3, 2], max (max (max ((0 : Int)) (m 0 + m 1)) (m 2 + m 5)) (m 3 + m 4)), ([2, 3, 0, 1, 5, 4], max (max (max ((0 : Int)) (m 0 + m 2)) (m 1 + m 3)) (m 4 + m 5)), ([2, 4, 0, 5, 1, 3], max (max (max ((0 : Int)) (m 0 + m 2)) (m 1 + m 4)) (m 3 + m 5)), ([2, 5, 0, 4, 3, 1], max (max (max ((0 : Int)) (m 0 + m 2)) (m 1 + m 5)) (m 3 + m 4)), ([3, 2, 1, 0, 5, 4], max (max (max ((0 : Int)) (m 0 + m 3)) (m 1 + m 2)) (m 4 + m 5)), ([3, 4, 5, 0, 1, 2], max (max (max ((0 : Int)) (m 0 + m 3)) (m 1 + m 4)) (m 2 + m 5)), ([3, 5, 4, 0, 2, 1], max (max (max ((0 : Int)) (m 0 + m 3)) (m 1 + m 5)) (m 2 + m 4)), ([4, 2, 1, 5, 0, 3], max (max (max ((0 : Int)) (m 0 + m 4)) (m 1 + m 2)) (m 3 + m 5)), ([4, 3, 5, 1, 0, 2], max (max (max ((0 : Int)) (m 0 + m 4)) (m 1 + m 3)) (m 2 + m 5)), ([4, 5, 3, 2, 0, 1], max (max (max ((0 : Int)) (m 0 + m 4)) (m 1 + m 5)) (m 2 + m 3)), ([5, 2, 1, 4, 3, 0], max (max (max ((0 : Int)) (m 0 + m 5)) (m 1 + m 2)) (m 3 + m 4)), ([5, 3, 4, 1, 2, 0], max (max (max ((0 : Int)) (m 0 + m 5)) (m 1 + m 3)) (m 2 + m 4)), ([5, 4, 3, 2, 1, 0], max (max (max ((0 : Int)) (m 0 + m 5)) (m 1 + m 4)) (m 2 + m 3))] := by rfl
  rw [e]
  show _ = [([1, 0, 3, 2, 5, 4], mxF m [1, 0, 3, 2, 5, 4] 6), ([1, 0, 4, 5, 2, 3], mxF m [1, 0, 4, 5, 2, 3] 6), ([1, 0, 5, 4, 3, 2], mxF m [1, 0, 5, 4, 3, 2] 6), ([2, 3, 0, 1, 5, 4], mxF m [2, 3, 0, 1, 5, 4] 6), ([2, 4, 0, 5, 1, 3], mxF m [2, 4, 0, 5, 1, 3] 6), ([2, 5, 0, 4, 3, 1], mxF m [2, 5, 0, 4, 3, 1] 6), ([3, 2, 1, 0, 5, 4], mxF m [3, 2, 1, 0, 5, 4] 6), ([3, 4, 5, 0, 1, 2], mxF m [3, 4, 5, 0, 1, 2] 6), ([3, 5, 4, 0, 2, 1], mxF m [3, 5, 4, 0, 2, 1] 6), ([4, 2, 1, 5, 0, 3], mxF m [4, 2, 1, 5, 0, 3] 6), ([4, 3, 5, 1, 0, 2], mxF m [4, 3, 5, 1, 0, 2] 6), ([4, 5, 3, 2, 0, 1], mxF m [4, 5, 3, 2, 0, 1] 6), ([5, 2, 1, 4, 3, 0], mxF m [5, 2, 1, 4, 3, 0] 6), ([5, 3, 4, 1, 2, 0], mxF m [5, 3, 4, 1, 2, 0] 6), ([5, 4, 3, 2, 1, 0], mxF m [5, 4, 3, 2, 1, 0] 6)]
  rw [mx6_0, mx6_1, mx6_2, mx6_3, mx6_4, mx6_5, mx6_6, mx6_7, mx6_8, mx6_9, mx6_10, mx6_11, mx6_12, mx6_13, mx6_14]
section MWED
variable {l : Launch} {w : Wd} {d : Nat} {M : Mem} {Q : Option MV → Mem → Prop}
theorem lm_while {n o2 : Nat} {p : List Int} (hn : n ≤ 6) {N : Mem} {v1 v2 v3 v4 v5 v6 v7 : Int} (hp : ∀ k, k < n → N 164 k = p.getD k 0) (hQ : ∀ s : Nat, WM l w RX9 cX9_laysMates 10 none d Q 124 [some (vR 134), some (vI v1), some (vI v2), some (vI v3), some (vI v4), some (vI v5), some (vI v6), some (vI v7), some (vI (s : Int)), some (vI (o2 : Int))] [] N) :
    ∀ (f s o : Nat), s ≤ 100 → nxP n p f s o = some o2 → WM l w RX9 cX9_laysMates 10 none d Q 81 [some (vR 134), some (vI v1), some (vI v2), some (vI v3), some (vI v4), some (vI v5), some (vI v6), some (vI v7), some (vI (s : Int)), some (vI (o : Int))] [] N
  | 0, s, o, hs, h => by cases h
  | f + 1, s, o, hs, h => by
    unfold nxP at h
    by_cases ho : o < n
    · rw [if_pos ho] at h
      have e := hp o ho
      by_cases q : p.getD o 0 = -1
      · rw [if_neg (fun z => z q)] at h
        by_cases z : 0 < s
        · rw [if_pos z] at h
          have ih := lm_while hn hp hQ f (s - 1) (o + 1) (by omega) h
          rw [show (((s - 1 : Nat) : Int)) = (s : Int) - 1 by omega] at ih
          refine e_aload0 dX9_laysMates_81 ?_
          refine e_getR fl_X9_106 la_134 rfl dX9_laysMates_82 ?_
          refine e_iload9 dX9_laysMates_85 ?_
          refine e_ialdK (k := o) la_164 (by omega) (by omega) dX9_laysMates_87 ?_
          refine WW.ec (y := -1) (by rw [e, q]) ?_
          refine e_iconst dX9_laysMates_88 rfl kc_m1 ?_
          refine e_icmp_ne (tgt := 97) dX9_laysMates_89 (by decide) (fun h => absurd h (fun z => z rfl)) (fun h89 => ?_)
          refine e_iload8 dX9_laysMates_92 ?_
          refine e_if_le (tgt := 124) dX9_laysMates_94 (by decide) (fun h94 => ?_) (fun h94 => ?_)
          · omega
          · refine e_iload8 dX9_laysMates_97 ?_
            refine e_aload0 dX9_laysMates_99 ?_
            refine e_getR fl_X9_106 la_134 rfl dX9_laysMates_100 ?_
            refine e_iload9 dX9_laysMates_103 ?_
            refine e_ialdK (k := o) la_164 (by omega) (by omega) dX9_laysMates_105 ?_
            refine WW.ec (y := -1) (by rw [e, q]) ?_
            refine e_iconst dX9_laysMates_106 rfl kc_m1 ?_
            refine e_icmp_eq (tgt := 114) dX9_laysMates_107 (by decide) (fun h107 => ?_) (fun h => absurd h (fun z => z rfl))
            refine e_iconst dX9_laysMates_114 rfl kc_1 ?_
            refine e_isub dX9_laysMates_115 (⟨by omega, by omega⟩) ?_
            refine e_istore8 dX9_laysMates_116 rfl ?_
            refine e_iinc9 dX9_laysMates_118 rfl (⟨by omega, by omega⟩) rfl ?_
            refine e_goto (tgt := 81) dX9_laysMates_121 (by decide) ?_
            exact ih
        · rw [if_neg z] at h
          have eo : o2 = o := (Option.some.inj h).symm
          subst eo
          have hq := hQ s
          refine e_aload0 dX9_laysMates_81 ?_
          refine e_getR fl_X9_106 la_134 rfl dX9_laysMates_82 ?_
          refine e_iload9 dX9_laysMates_85 ?_
          refine e_ialdK (k := o2) la_164 (by omega) (by omega) dX9_laysMates_87 ?_
          refine WW.ec (y := -1) (by rw [e, q]) ?_
          refine e_iconst dX9_laysMates_88 rfl kc_m1 ?_
          refine e_icmp_ne (tgt := 97) dX9_laysMates_89 (by decide) (fun h => absurd h (fun z => z rfl)) (fun h89 => ?_)
          refine e_iload8 dX9_laysMates_92 ?_
          refine e_if_le (tgt := 124) dX9_laysMates_94 (by decide) (fun h94 => ?_) (fun h94 => ?_)
          · exact hq
          · omega
      · rw [if_pos q] at h
        have ih := lm_while hn hp hQ f s (o + 1) hs h
        rw [show (s : Int) = (s : Int) - 0 by omega] at ih
        refine e_aload0 dX9_laysMates_81 ?_
        refine e_getR fl_X9_106 la_134 rfl dX9_laysMates_82 ?_
        refine e_iload9 dX9_laysMates_85 ?_
        refine e_ialdK (k := o) la_164 (by omega) (by omega) dX9_laysMates_87 ?_
        refine WW.ec (y := p.getD o 0) (e) ?_
        refine e_iconst dX9_laysMates_88 rfl kc_m1 ?_
        refine e_icmp_ne (tgt := 97) dX9_laysMates_89 (by decide) (fun h89 => ?_) (fun h89 => ?_)
        · refine e_iload8 dX9_laysMates_97 ?_
          refine e_aload0 dX9_laysMates_99 ?_
          refine e_getR fl_X9_106 la_134 rfl dX9_laysMates_100 ?_
          refine e_iload9 dX9_laysMates_103 ?_
          refine e_ialdK (k := o) la_164 (by omega) (by omega) dX9_laysMates_105 ?_
          refine WW.ec (y := p.getD o 0) (e) ?_
          refine e_iconst dX9_laysMates_106 rfl kc_m1 ?_
          refine e_icmp_eq (tgt := 114) dX9_laysMates_107 (by decide) (fun h => absurd h (fun z => q z)) (fun h107 => ?_)
          refine e_iconst dX9_laysMates_110 rfl kc_0 ?_
          refine e_goto (tgt := 115) dX9_laysMates_111 (by decide) ?_
          refine e_isub dX9_laysMates_115 (⟨by omega, by omega⟩) ?_
          refine e_istore8 dX9_laysMates_116 rfl ?_
          refine e_iinc9 dX9_laysMates_118 rfl (⟨by omega, by omega⟩) rfl ?_
          refine e_goto (tgt := 81) dX9_laysMates_121 (by decide) ?_
          exact ih
        · exact absurd (by omega) q
    · rw [if_neg ho] at h; cases h
theorem lm_loop {n : Nat} (hn : n ≤ 6) {pf : List Int} {v1 v2 v3 : Int} (hv : v1 = n) (hQ : ∀ N, (∀ o, o ≠ 164 → N o = M o) → (∀ k, k < n → N 164 k = pf.getD k 0) → Q none N) :
    ∀ (q c : Nat) (p : List Int) (many left free : Nat) (N : Mem) (v8 v9 : Option MV), c + q = n → lmR n q c (p, many, left, free) = some pf → p.length = n → many ≤ 15 → left ≤ 15 → free ≤ 6 → (∀ o, o ≠ 164 → N o = M o) → (∀ k, k < n → N 164 k = p.getD k 0) → WM l w RX9 cX9_laysMates 10 none d Q 35 [some (vR 134), some (vI v1), some (vI v2), some (vI v3), some (vI (left : Int)), some (vI (many : Int)), some (vI (free : Int)), some (vI (c : Int)), v8, v9] [] N
  | 0, c, p, many, left, free, N, v8, v9, hc, h, hl, hm, hle, hfr, hf, hp => by
    have e : pf = p := (Option.some.inj h).symm
    subst e
    have hq := hQ N hf hp
    refine e_iload7 dX9_laysMates_35 ?_
    refine e_iload1 dX9_laysMates_37 ?_
    refine e_icmp_ge (tgt := 151) dX9_laysMates_38 (by decide) (fun h38 => ?_) (fun h38 => ?_)
    · refine e_vret dX9_laysMates_151 ?_
      exact hq
    · omega
  | q + 1, c, p, many, left, free, N, v8, v9, hc, h, hl, hm, hle, hfr, hf, hp => by
    have e := hp c (by omega)
    have h' : (lmS n p many left free c).bind (lmR n q (c + 1)) = some pf := h
    unfold lmS at h'
    by_cases z : p.getD c 0 = -1
    · rw [if_pos z] at h'
      by_cases z2 : 2 ≤ free ∧ 1 ≤ many / (free - 1)
      · rw [if_pos z2] at h'
        generalize hM : many / (free - 1) = mn at h' z2
        have hmn : mn ≤ 15 := by rw [← hM]; exact Nat.le_trans (Nat.div_le_self _ _) hm
        cases hx : nxP n p 7 (left / mn) (c + 1) with
        | none => rw [hx] at h'; cases h'
        | some o =>
          rw [hx] at h'
          have h2 : lmR n q (c + 1) ((p.set c (o : Int)).set o (c : Int), mn, left % mn, free - 2) = some pf := h'
          have hob : o < n ∧ c < o := by
            have key : ∀ f s a, nxP n p f s a = some o → o < n ∧ a ≤ o := by
              intro f
              induction f with
              | zero => intro s a hh; cases hh
              | succ f ih =>
                intro s a hh
                unfold nxP at hh
                by_cases y : a < n
                · rw [if_pos y] at hh
                  by_cases y2 : p.getD a 0 ≠ -1
                  · rw [if_pos y2] at hh; have := ih s (a + 1) hh; omega
                  · rw [if_neg y2] at hh
                    by_cases y3 : 0 < s
                    · rw [if_pos y3] at hh; have := ih (s - 1) (a + 1) hh; omega
                    · rw [if_neg y3] at hh; have := Option.some.inj hh; omega
                · rw [if_neg y] at hh; cases hh
            have := key 7 _ _ hx
            omega
          have hmod := Nat.mod_le left mn
          have hdiv := Nat.div_le_self left mn
          generalize hQd : left / mn = qd at hx hdiv
          have h124 : ∀ s : Nat, WM l w RX9 cX9_laysMates 10 none d Q 124 [some (vR 134), some (vI v1), some (vI v2), some (vI v3), some (vI ((left % mn : Nat) : Int)), some (vI (mn : Int)), some (vI (free : Int)), some (vI (c : Int)), some (vI (s : Int)), some (vI (o : Int))] [] N := by
            intro s
            have ih := lm_loop hn (v2 := v2) (v3 := v3) hv hQ q (c + 1) _ mn (left % mn) (free - 2) (up (up N 164 c (o : Int)) 164 o (c : Int)) (some (vI (s : Int))) (some (vI (o : Int))) (by omega) h2 (by rw [List.length_set, List.length_set]; exact hl) hmn (by omega) (by omega) (fun x hx => by rw [up_row hx, up_row hx]; exact hf x hx) (fun k hk => by
              by_cases a1 : k = o
              · subst a1
                rw [up_s, List.getD_eq_getElem?_getD, List.getElem?_set_self (by rw [List.length_set]; omega)]
                rfl
              · rw [up_k a1, List.getD_eq_getElem?_getD, List.getElem?_set_ne (by omega)]
                by_cases a2 : k = c
                · subst a2
                  rw [up_s, List.getElem?_set_self (by omega)]
                  rfl
                · rw [up_k a2, List.getElem?_set_ne (by omega), ← List.getD_eq_getElem?_getD]
                  exact hp k hk)
            rw [show ((free - 2 : Nat) : Int) = (free : Int) + -2 by omega] at ih
            refine e_aload0 dX9_laysMates_124 ?_
            refine e_getR fl_X9_106 la_134 rfl dX9_laysMates_125 ?_
            refine e_iload7 dX9_laysMates_128 ?_
            refine e_iload9 dX9_laysMates_130 ?_
            refine e_iastK (k := c) la_164 (by omega) (by omega) dX9_laysMates_132 ?_
            refine e_aload0 dX9_laysMates_133 ?_
            refine e_getR fl_X9_106 la_134 rfl dX9_laysMates_134 ?_
            refine e_iload9 dX9_laysMates_137 ?_
            refine e_iload7 dX9_laysMates_139 ?_
            refine e_iastK (k := o) la_164 (by omega) (by omega) dX9_laysMates_141 ?_
            refine e_iinc6 dX9_laysMates_142 rfl (⟨by omega, by omega⟩) rfl ?_
            refine e_iinc7 dX9_laysMates_145 rfl (⟨by omega, by omega⟩) rfl ?_
            refine e_goto (tgt := 35) dX9_laysMates_148 (by decide) ?_
            exact ih
          have h81 := lm_while (l := l) (w := w) (d := d) (Q := Q) hn (N := N) (v1 := v1) (v2 := v2) (v3 := v3) (v4 := ((left % mn : Nat) : Int)) (v5 := (mn : Int)) (v6 := (free : Int)) (v7 := (c : Int)) hp h124 7 qd (c + 1) (by omega) hx
          have ed : ((many : Int)).tdiv ((free : Int) - 1) = (mn : Int) := by rw [show (free : Int) - 1 = ((free - 1 : Nat) : Int) by omega, nat_tdiv, hM]
          have ed2 : (left : Int).tdiv (mn : Int) = (qd : Int) := by rw [nat_tdiv, hQd]
          have em := nat_tmod left mn
          refine e_iload7 dX9_laysMates_35 ?_
          refine e_iload1 dX9_laysMates_37 ?_
          refine e_icmp_ge (tgt := 151) dX9_laysMates_38 (by decide) (fun h38 => ?_) (fun h38 => ?_)
          · omega
          · refine e_aload0 dX9_laysMates_41 ?_
            refine e_getR fl_X9_106 la_134 rfl dX9_laysMates_42 ?_
            refine e_iload7 dX9_laysMates_45 ?_
            refine e_ialdK (k := c) la_164 (by omega) (by omega) dX9_laysMates_47 ?_
            refine WW.ec (y := -1) (by rw [e, z]) ?_
            refine e_iconst dX9_laysMates_48 rfl kc_m1 ?_
            refine e_icmp_ne (tgt := 145) dX9_laysMates_49 (by decide) (fun h => absurd h (fun y => y rfl)) (fun h49 => ?_)
            refine e_iload5 dX9_laysMates_52 ?_
            refine e_iload6 dX9_laysMates_54 ?_
            refine e_iconst dX9_laysMates_56 rfl kc_1 ?_
            refine e_isub dX9_laysMates_57 (⟨by omega, by omega⟩) ?_
            refine e_idiv dX9_laysMates_58 (by omega) (by rw [ed]; exact ⟨by omega, by omega⟩) ?_
            refine WW.ec (y := (mn : Int)) (ed) ?_
            refine e_istore5 dX9_laysMates_59 rfl ?_
            refine e_iload4 dX9_laysMates_61 ?_
            refine e_iload5 dX9_laysMates_63 ?_
            refine e_idiv dX9_laysMates_65 (by omega) (by rw [ed2]; exact ⟨by omega, by omega⟩) ?_
            refine WW.ec (y := (qd : Int)) (ed2) ?_
            refine e_istore8 dX9_laysMates_66 rfl ?_
            refine e_iload4 dX9_laysMates_68 ?_
            refine e_iload5 dX9_laysMates_70 ?_
            refine e_irem dX9_laysMates_72 (by omega) (by rw [em]; exact ⟨by omega, by omega⟩) ?_
            refine WW.ec (y := ((left % mn : Nat) : Int)) (em) ?_
            refine e_istore4 dX9_laysMates_73 rfl ?_
            refine e_iload7 dX9_laysMates_75 ?_
            refine e_iconst dX9_laysMates_77 rfl kc_1 ?_
            refine e_iadd dX9_laysMates_78 (⟨by omega, by omega⟩) ?_
            refine e_istore9 dX9_laysMates_79 rfl ?_
            exact h81
      · rw [if_neg z2] at h'; cases h'
    · rw [if_neg z] at h'
      have h2 : lmR n q (c + 1) (p, many, left, free) = some pf := h'
      have ih := lm_loop hn (v2 := v2) (v3 := v3) hv hQ q (c + 1) p many left free N v8 v9 (by omega) h2 hl hm hle hfr hf hp
      refine e_iload7 dX9_laysMates_35 ?_
      refine e_iload1 dX9_laysMates_37 ?_
      refine e_icmp_ge (tgt := 151) dX9_laysMates_38 (by decide) (fun h38 => ?_) (fun h38 => ?_)
      · omega
      · refine e_aload0 dX9_laysMates_41 ?_
        refine e_getR fl_X9_106 la_134 rfl dX9_laysMates_42 ?_
        refine e_iload7 dX9_laysMates_45 ?_
        refine e_ialdK (k := c) la_164 (by omega) (by omega) dX9_laysMates_47 ?_
        refine WW.ec (y := p.getD c 0) (e) ?_
        refine e_iconst dX9_laysMates_48 rfl kc_m1 ?_
        refine e_icmp_ne (tgt := 145) dX9_laysMates_49 (by decide) (fun h49 => ?_) (fun h49 => ?_)
        · refine e_iinc7 dX9_laysMates_145 rfl (⟨by omega, by omega⟩) rfl ?_
          refine e_goto (tgt := 35) dX9_laysMates_148 (by decide) ?_
          exact ih
        · exact absurd (by omega) z
theorem lm_init {n : Nat} (hn : n ≤ 6) {v1 v2 v3 v4 v5 : Int} (hv : v1 = n) (hQ : ∀ N, (∀ o, o ≠ 164 → N o = M o) → (∀ k, k < n → N 164 k = -1) → WM l w RX9 cX9_laysMates 10 none d Q 29 [some (vR 134), some (vI v1), some (vI v2), some (vI v3), some (vI v4), some (vI v5), some (vI (n : Int)), none, none, none] [] N) :
    ∀ (q c : Nat) (N : Mem), c + q = n → (∀ o, o ≠ 164 → N o = M o) → (∀ k, k < c → N 164 k = -1) → WM l w RX9 cX9_laysMates 10 none d Q 9 [some (vR 134), some (vI v1), some (vI v2), some (vI v3), some (vI v4), some (vI v5), some (vI (c : Int)), none, none, none] [] N
  | 0, c, N, hc, hf, hp => by
    obtain rfl : c = n := by omega
    have hq := hQ N hf hp
    refine e_iload6 dX9_laysMates_9 ?_
    refine e_iload1 dX9_laysMates_11 ?_
    refine e_icmp_ge (tgt := 29) dX9_laysMates_12 (by decide) (fun h12 => ?_) (fun h12 => ?_)
    · exact hq
    · omega
  | q + 1, c, N, hc, hf, hp => by
    have ih := lm_init hn (v2 := v2) (v3 := v3) (v4 := v4) (v5 := v5) hv hQ q (c + 1) (up N 164 c (-1)) (by omega) (fun o ho => by rw [up_row ho]; exact hf o ho) (fun k hk => by
      by_cases e : k = c
      · rw [e, up_s]
      · rw [up_k e]; exact hp k (by omega))
    refine e_iload6 dX9_laysMates_9 ?_
    refine e_iload1 dX9_laysMates_11 ?_
    refine e_icmp_ge (tgt := 29) dX9_laysMates_12 (by decide) (fun h12 => ?_) (fun h12 => ?_)
    · omega
    · refine e_aload0 dX9_laysMates_15 ?_
      refine e_getR fl_X9_106 la_134 rfl dX9_laysMates_16 ?_
      refine e_iload6 dX9_laysMates_19 ?_
      refine e_iconst dX9_laysMates_21 rfl kc_m1 ?_
      refine e_iastK (k := c) la_164 (by omega) (by omega) dX9_laysMates_22 ?_
      refine e_iinc6 dX9_laysMates_23 rfl (⟨by omega, by omega⟩) rfl ?_
      refine e_goto (tgt := 9) dX9_laysMates_26 (by decide) ?_
      exact ih
theorem ct_X9_laysMates {n k ways : Nat} (hn : n ≤ 6) (hk : k ≤ 15) (hw : ways ≤ 15) {pf : List Int} (h : lmR n n 0 (List.replicate n (-1), ways, k, n) = some pf) : GV l w yX9_laysMates cX9_laysMates 10 d [vR 134, vI (n : Int), vI (k : Int), vI (ways : Int)] M (fun M1 => (∀ o, o ≠ 164 → M1 o = M o) ∧ ∀ c, c < n → M1 164 c = pf.getD c 0) := by
  have h9 := lm_init (l := l) (w := w) (d := d) (M := M) (Q := fun r M1 => r = none ∧ (∀ o, o ≠ 164 → M1 o = M o) ∧ ∀ c, c < n → M1 164 c = pf.getD c 0) hn (v1 := n) (v2 := k) (v3 := ways) (v4 := k) (v5 := ways) rfl (fun N hf hp => by
    have h35 := lm_loop (l := l) (w := w) (d := d) (M := M) (Q := fun r M1 => r = none ∧ (∀ o, o ≠ 164 → M1 o = M o) ∧ ∀ c, c < n → M1 164 c = pf.getD c 0) hn (v1 := n) (v2 := k) (v3 := ways) rfl (fun N a b => ⟨rfl, a, b⟩) n 0 (List.replicate n (-1)) ways k n N none none (by omega) h List.length_replicate hw hk hn hf (fun c hc => by
      rw [hp c hc, List.getD_eq_getElem?_getD, List.getElem?_replicate, if_pos hc]; rfl)
    refine e_iload1 dX9_laysMates_29 ?_
    refine e_istore6 dX9_laysMates_30 rfl ?_
    refine e_iconst dX9_laysMates_32 rfl kc_0 ?_
    refine e_istore7 dX9_laysMates_33 rfl ?_
    exact h35) n 0 M (by omega) (fun _ _ => rfl) (fun k hk => absurd hk (Nat.not_lt_zero k))
  refine MT.of [some (vR 134), some (vI (n : Int)), some (vI (k : Int)), some (vI (ways : Int)), none, none, none, none, none, none] ⟨by decide, rfl⟩ rfl (Nat.le_of_ble_eq_true rfl) (fun hA hM => ?_)
  refine e_iload2 dX9_laysMates_0 ?_
  refine e_istore4 dX9_laysMates_1 rfl ?_
  refine e_iload3 dX9_laysMates_3 ?_
  refine e_istore5 dX9_laysMates_4 rfl ?_
  refine e_iconst dX9_laysMates_6 rfl kc_0 ?_
  refine e_istore6 dX9_laysMates_7 rfl ?_
  exact h9
end MWED
