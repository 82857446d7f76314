/-! THE START: what the constructors leave -/
def M0 : Mem := fun o k => if o = 1 then (if k = 12 then 5 else if k = 16 then -1 else 0) else if o = 13 then (if k = 12 then 5 else if k = 16 then -1 else 0) else if o = 25 then (if k = 2 then 29 else 0) else if o = 57 then (if k = 2 then 29 else 0) else if o = 114 then (if k = 9 then -1 else if k = 12 then -1 else 0) else if o = 122 then (if k = 4 then -1 else if k = 8 then 1 else 0) else if o = 130 then (if k = 5 then -1 else 0) else if o = 134 then (if k = 4 then -1 else if k = 5 then -1 else 0) else 0
theorem ite_b {p : Prop} [Decidable p] {a b : Int} (ha : -1 ≤ a ∧ a ≤ 29) (hb : -1 ≤ b ∧ b ≤ 29) : -1 ≤ (if p then a else b) ∧ (if p then a else b) ≤ 29 := by split <;> assumption
theorem M0_b (o k : Nat) : -1 ≤ M0 o k ∧ M0 o k ≤ 29 := by
  unfold M0
  repeat' apply ite_b
  all_goals decide
theorem M0_z {o : Nat} (h : o ≠ 1 ∧ o ≠ 13 ∧ o ≠ 25 ∧ o ≠ 57 ∧ o ≠ 114 ∧ o ≠ 122 ∧ o ≠ 130 ∧ o ≠ 134) (k : Nat) : M0 o k = 0 := by
  unfold M0
  rw [if_neg h.1, if_neg h.2.1, if_neg h.2.2.1, if_neg h.2.2.2.1, if_neg h.2.2.2.2.1, if_neg h.2.2.2.2.2.1, if_neg h.2.2.2.2.2.2.1, if_neg h.2.2.2.2.2.2.2]
theorem RM0 : RM M0 := by
  intro o e he
  have h := M0_b o
  rcases e with ⟨ci, fds⟩ | ⟨t, n, b, sd⟩
  · exact fun k => ⟨fun _ => ⟨by have := h k; omega, by have := h k; omega⟩, fun _ => ⟨by have := h k; omega, by have := h k; omega⟩⟩
  · exact fun k _ => ⟨fun _ => ⟨by have := h k; omega, by have := h k; omega⟩, fun _ => ⟨by have := h k; omega, by have := h k; omega⟩⟩
theorem GS0 {G M : Mem} (h0 : G 1 0 = 0) (h5 : G 1 5 = 0) (h12 : G 1 12 = 5) (h13 : G 1 13 = 0) (h15 : G 1 15 = 0) (h16 : G 1 16 = -1) (hz : ∀ o k, 2 ≤ o → o ≤ 12 → G o k = 0) (hs : G 25 1 = 0) (hl : G 25 2 = 29) (hA : ∀ k, M 135 k = if k = 3 then -1 else if k = 515 then 5 else 0) : GS G M := by
  have hT : ¬ isT G (G 1 16) := by rw [h16]; intro h; have := h.1; omega
  have nC : ∀ c, ¬ isC G c := fun c h => by have h1 := h.1; have h2 := h.2; omega
  have gm : GM G := by
    refine ⟨⟨⟨⟨by omega, by omega⟩, ⟨by omega, by omega⟩, fun k _ => by have := hz 7 k (by omega) (by omega); omega⟩, fun h _ => ?_, fun c _ => by have := hz 6 c (by omega) (by omega); omega, by omega, fun h => absurd h hT⟩, ⟨⟨by omega, by omega⟩, ⟨by omega, by omega⟩⟩, ⟨fun c i h => absurd h.1 (nC c), fun c h => absurd h (nC c)⟩, ⟨by omega, by omega⟩, ⟨?_, fun k _ => ?_⟩, fun c h => absurd h (nC c)⟩
    · have e2 := hz 2 h (by omega) (by omega)
      have e3 := hz 3 h (by omega) (by omega)
      have e4 := hz 4 h (by omega) (by omega)
      refine ⟨⟨by omega, by omega⟩, ⟨by omega, by omega⟩, ⟨by omega, by omega⟩⟩
    · rw [h13, h5]
      rfl
    · have := hz 5 k (by omega) (by omega)
      omega
  refine ⟨⟨by omega, fun j hj => ?_⟩, fun c hc => absurd hc (by omega), ⟨⟨⟨?_, ?_, ?_, ?_⟩, fun h hh => absurd hh (by omega), fun c hc => absurd hc (by omega)⟩, ?_, ⟨fun h hh => absurd hh (by omega), fun h _ hh => ?_, fun c hc => absurd hc (by omega), ?_, fun k hk => absurd hk (by omega), ?_⟩, fun n hn j h1 h2 => absurd h2 (by omega)⟩, ⟨⟨by omega, by omega⟩, Or.inl h16, fun t ht => absurd ht (by omega)⟩⟩
  · obtain rfl : j = 0 := by omega
    exact ⟨gm, fun h => absurd h (by show ¬ 1 ≤ G 25 1; omega)⟩
  · rw [hA, h0]; rfl
  · rw [hA, h5]; rfl
  · rw [hA, h15]; rfl
  · rw [hA, h16]; rfl
  · rw [hA, hs]; rfl
  · rw [hA, hA, if_neg (by omega), if_neg (by omega), if_neg (by omega), if_neg (by omega)]
    exact ⟨rfl, rfl⟩
  · rw [hA, h13]; rfl
  · rw [hA, h12]; rfl
def M1 : Mem := cpO (up (up M0 135 3 (-1)) 135 515 5) 136 135 14800
theorem M1_o {o : Nat} (h : o ≠ 135) (h6 : o ≠ 136) (k : Nat) : M1 o k = M0 o k := by
  unfold M1 cpO
  rw [if_neg (fun q => h6 q.1), up_o h, up_o h]
theorem Mup_A (k : Nat) : up (up M0 135 3 (-1)) 135 515 5 135 k = if k = 3 then -1 else if k = 515 then 5 else 0 := by
  by_cases h1 : k = 515
  · subst h1
    rw [up_s]
    rfl
  · rw [up_k h1, if_neg h1]
    by_cases h2 : k = 3
    · subst h2
      rw [up_s]
      rfl
    · rw [up_k h2, if_neg h2]
      exact M0_z (by decide) k
theorem M1_A (k : Nat) : M1 135 k = if k = 3 then -1 else if k = 515 then 5 else 0 := by
  unfold M1 cpO
  rw [if_neg (fun q => absurd q.1 (by decide))]
  exact Mup_A k
theorem M1_B (k : Nat) : M1 136 k = if k = 3 then -1 else if k = 515 then 5 else 0 := by
  unfold M1 cpO
  by_cases h : k < 14800
  · rw [if_pos ⟨rfl, h⟩]
    exact Mup_A k
  · rw [if_neg (fun q => h q.2), up_o (by decide), up_o (by decide), if_neg (by omega), if_neg (by omega)]
    exact M0_z (by decide) k
theorem bk_z {o k : Nat} (h1 : 2 ≤ o) (h2 : o ≤ 12) : bk M1 o k = 0 := by
  unfold bk
  rw [if_neg (by omega)]
  by_cases h : (2 ≤ o ∧ o ≤ 12) ∧ inb o k
  · rw [if_pos h, M1_o (by omega) (by omega)]
    exact M0_z (by omega) k
  · rw [if_neg h, if_neg (by omega), if_neg (fun q => by have := q.1; omega), if_pos (by omega)]
theorem bk_25 (k : Nat) : bk M1 25 k = M1 57 k := by
  unfold bk
  rw [if_neg (by decide), if_neg (fun q => by have := q.1; omega), if_pos rfl]
theorem bk_1 (k : Nat) : bk M1 1 k = M1 13 k := if_pos rfl
theorem v1 {o k : Nat} {x : Int} (h : (decide (o ≠ 135) && decide (o ≠ 136) && decide (M0 o k = x)) = true) : M1 o k = x := by
  simp only [Bool.and_eq_true, decide_eq_true_eq] at h
  exact (M1_o h.1.1 h.1.2 k).trans h.2
theorem REL1 : REL M1 := by
  refine ⟨GS0 (v1 rfl) (v1 rfl) (v1 rfl) (v1 rfl) (v1 rfl) (v1 rfl) (fun o k h1 h2 => (M1_o (by omega) (by omega) k).trans (M0_z (by omega) k)) (v1 rfl) (v1 rfl) M1_A, GS0 ((bk_1 _).trans (v1 rfl)) ((bk_1 _).trans (v1 rfl)) ((bk_1 _).trans (v1 rfl)) ((bk_1 _).trans (v1 rfl)) ((bk_1 _).trans (v1 rfl)) ((bk_1 _).trans (v1 rfl)) (fun o k h1 h2 => bk_z h1 h2) ((bk_25 _).trans (v1 rfl)) ((bk_25 _).trans (v1 rfl)) (fun k => (show setA M1 (M1 136) 135 k = M1 136 k from if_pos rfl).trans (M1_B k)), ?_, ?_, ?_⟩
  · have a : M1 13 15 = 0 := v1 rfl
    have b : M1 1 15 = 0 := v1 rfl
    omega
  · have a : M1 114 1 = 0 := v1 rfl
    have b : M1 134 3 = 0 := v1 rfl
    refine ⟨⟨by omega, by omega⟩, by omega, fun i hi => absurd hi (by rw [a]; show ¬ i < 0; omega)⟩
  · have a : M1 114 10 = 0 := v1 rfl
    exact ⟨fun _ => ⟨v1 rfl, v1 rfl⟩, fun h => absurd a h⟩
/-! the cells made, by their numbers -/
def pos (o : Nat) : Nat := if o < 90 then o else if o < 114 then o + 20 else if o < 134 then o - 24 else o
def iv (j : Nat) : Nat := if j < 90 then j else if j < 110 then j + 24 else if j < 134 then j - 20 else j
def ad (n0 : Nat) (sa : Nat → Nat) (o : Nat) : Nat := if o < 167 then n0 + pos o else sa o
abbrev wd (n0 : Nat) (sa : Nat → Nat) (D : va_G) (cA : Nat → ClassId) : Wd := (ad n0 sa, D, cA)
abbrev cf (n0 : Nat) (sa : Nat → Nat) (D : va_G) (cA : Nat → ClassId) : Nat × Ent → va_E := fun q => cof (wd n0 sa D cA) M0 q.1 q.2
def lI1 : List (Nat × Ent) := [(1, .inl (0, [0, 4, 5, 6, 7, 0, 8, 9, 10, 11, 12, 13, 0, 0, 14, 0, 0])), (2, .inr (0, 8, 0, 0)), (3, .inr (0, 8, 0, 0)), (4, .inr (0, 8, 0, 0)), (5, .inr (0, 8, 0, 0)), (6, .inr (0, 6, 0, 0)), (7, .inr (0, 6, 0, 0)), (8, .inr (0, 6, 0, 0)), (9, .inr (0, 6, 0, 0)), (10, .inr (0, 6, 0, 0)), (11, .inr (0, 72, 0, 0)), (12, .inr (0, 360, 0, 0))]
def lI13 : List (Nat × Ent) := [(13, .inl (0, [0, 16, 17, 18, 19, 0, 20, 21, 22, 23, 24, 25, 0, 0, 26, 0, 0])), (14, .inr (0, 8, 0, 0)), (15, .inr (0, 8, 0, 0)), (16, .inr (0, 8, 0, 0)), (17, .inr (0, 8, 0, 0)), (18, .inr (0, 6, 0, 0)), (19, .inr (0, 6, 0, 0)), (20, .inr (0, 6, 0, 0)), (21, .inr (0, 6, 0, 0)), (22, .inr (0, 6, 0, 0)), (23, .inr (0, 72, 0, 0)), (24, .inr (0, 360, 0, 0))]
def lT25 : List (Nat × Ent) := [(25, .inl (4, [28, 0, 0])), (26, .inr (5, 30, 27, 1)), (27, .inr (0, 32, 0, 0)), (28, .inr (0, 32, 0, 0)), (29, .inr (0, 32, 0, 0)), (30, .inr (0, 32, 0, 0)), (31, .inr (0, 32, 0, 0)), (32, .inr (0, 32, 0, 0)), (33, .inr (0, 32, 0, 0)), (34, .inr (0, 32, 0, 0)), (35, .inr (0, 32, 0, 0)), (36, .inr (0, 32, 0, 0)), (37, .inr (0, 32, 0, 0)), (38, .inr (0, 32, 0, 0)), (39, .inr (0, 32, 0, 0)), (40, .inr (0, 32, 0, 0)), (41, .inr (0, 32, 0, 0)), (42, .inr (0, 32, 0, 0)), (43, .inr (0, 32, 0, 0)), (44, .inr (0, 32, 0, 0)), (45, .inr (0, 32, 0, 0)), (46, .inr (0, 32, 0, 0)), (47, .inr (0, 32, 0, 0)), (48, .inr (0, 32, 0, 0)), (49, .inr (0, 32, 0, 0)), (50, .inr (0, 32, 0, 0)), (51, .inr (0, 32, 0, 0)), (52, .inr (0, 32, 0, 0)), (53, .inr (0, 32, 0, 0)), (54, .inr (0, 32, 0, 0)), (55, .inr (0, 32, 0, 0)), (56, .inr (0, 32, 0, 0))]
def lT57 : List (Nat × Ent) := [(57, .inl (4, [60, 0, 0])), (58, .inr (5, 30, 59, 1)), (59, .inr (0, 32, 0, 0)), (60, .inr (0, 32, 0, 0)), (61, .inr (0, 32, 0, 0)), (62, .inr (0, 32, 0, 0)), (63, .inr (0, 32, 0, 0)), (64, .inr (0, 32, 0, 0)), (65, .inr (0, 32, 0, 0)), (66, .inr (0, 32, 0, 0)), (67, .inr (0, 32, 0, 0)), (68, .inr (0, 32, 0, 0)), (69, .inr (0, 32, 0, 0)), (70, .inr (0, 32, 0, 0)), (71, .inr (0, 32, 0, 0)), (72, .inr (0, 32, 0, 0)), (73, .inr (0, 32, 0, 0)), (74, .inr (0, 32, 0, 0)), (75, .inr (0, 32, 0, 0)), (76, .inr (0, 32, 0, 0)), (77, .inr (0, 32, 0, 0)), (78, .inr (0, 32, 0, 0)), (79, .inr (0, 32, 0, 0)), (80, .inr (0, 32, 0, 0)), (81, .inr (0, 32, 0, 0)), (82, .inr (0, 32, 0, 0)), (83, .inr (0, 32, 0, 0)), (84, .inr (0, 32, 0, 0)), (85, .inr (0, 32, 0, 0)), (86, .inr (0, 32, 0, 0)), (87, .inr (0, 32, 0, 0)), (88, .inr (0, 32, 0, 0))]
def lRd : List (Nat × Ent) := [(114, .inl (2, [117, 0, 118, 119, 120, 0, 0, 0, 0, 0, 0, 0, 0])), (115, .inr (0, 300, 0, 0)), (116, .inr (0, 301, 0, 0)), (117, .inr (0, 301, 0, 0)), (118, .inr (0, 301, 0, 0))]
def lLw : List (Nat × Ent) := [(119, .inl (1, [3, 91, 122, 123])), (120, .inr (0, 8, 0, 0)), (121, .inr (0, 20, 0, 0))]
def lWy : List (Nat × Ent) := [(122, .inl (6, [3, 121, 125, 126, 0, 0, 0, 1, 1])), (123, .inr (0, 12, 0, 0)), (124, .inr (0, 12, 0, 0))]
def lTb : List (Nat × Ent) := [(125, .inl (5, [3, 121, 128, 129, 130, 131, 0])), (126, .inr (0, 6, 0, 0)), (127, .inr (0, 6, 0, 0)), (128, .inr (0, 36, 0, 0)), (129, .inr (0, 64, 0, 0))]
def lWe : List (Nat × Ent) := [(130, .inl (7, [3, 121, 133, 134, 135, 0])), (131, .inr (0, 6, 0, 0)), (132, .inr (0, 6, 0, 0)), (133, .inr (0, 6, 0, 0))]
def lS0 : List (Nat × Ent) := [(90, .inl (3, [93, 0, 94, 95, 96, 97, 0])), (91, .inr (0, 300, 0, 0)), (92, .inr (0, 4, 0, 0)), (93, .inr (0, 4, 0, 0)), (94, .inr (0, 24, 0, 0)), (95, .inr (0, 72, 0, 0))]
def lS1 : List (Nat × Ent) := [(96, .inl (3, [99, 0, 100, 101, 102, 103, 0])), (97, .inr (0, 300, 0, 0)), (98, .inr (0, 4, 0, 0)), (99, .inr (0, 4, 0, 0)), (100, .inr (0, 24, 0, 0)), (101, .inr (0, 72, 0, 0))]
def lS2 : List (Nat × Ent) := [(102, .inl (3, [105, 0, 106, 107, 108, 109, 0])), (103, .inr (0, 300, 0, 0)), (104, .inr (0, 4, 0, 0)), (105, .inr (0, 4, 0, 0)), (106, .inr (0, 24, 0, 0)), (107, .inr (0, 72, 0, 0))]
def lS3 : List (Nat × Ent) := [(108, .inl (3, [111, 0, 112, 113, 114, 115, 0])), (109, .inr (0, 300, 0, 0)), (110, .inr (0, 4, 0, 0)), (111, .inr (0, 4, 0, 0)), (112, .inr (0, 24, 0, 0)), (113, .inr (0, 72, 0, 0))]
def lMo : List (Nat × Ent) := [(134, .inl (9, [137, 138, 139, 0, 0, 0, 140, 141, 142, 143, 144, 145, 146, 147, 0, 0, 0, 0, 0, 0, 0, 0, 0, 148, 0, 149, 150, 0, 0, 0, 151, 152, 153, 154, 155, 0, 156, 157, 158, 159, 160, 161, 162, 163, 164, 165, 166, 167, 168])), (135, .inr (0, 14800, 0, 0)), (136, .inr (0, 14800, 0, 0)), (137, .inr (1, 300, 0, 0)), (138, .inr (0, 4, 0, 0)), (139, .inr (0, 96, 0, 0)), (140, .inr (0, 96, 0, 0)), (141, .inr (0, 96, 0, 0)), (142, .inr (0, 96, 0, 0)), (143, .inr (0, 96, 0, 0)), (144, .inr (0, 1600, 0, 0)), (145, .inr (0, 1600, 0, 0)), (146, .inr (0, 40, 0, 0)), (147, .inr (0, 80, 0, 0)), (148, .inr (0, 80, 0, 0)), (149, .inr (0, 24, 0, 0)), (150, .inr (0, 24, 0, 0)), (151, .inr (0, 24, 0, 0)), (152, .inr (0, 24, 0, 0)), (153, .inr (0, 24, 0, 0)), (154, .inr (0, 400, 0, 0)), (155, .inr (0, 400, 0, 0)), (156, .inr (0, 8, 0, 0)), (157, .inr (3, 200, 0, 0)), (158, .inr (0, 12, 0, 0)), (159, .inr (0, 12, 0, 0)), (160, .inr (0, 6, 0, 0)), (161, .inr (0, 6, 0, 0)), (162, .inr (0, 6, 0, 0)), (163, .inr (0, 6, 0, 0)), (164, .inr (0, 6, 0, 0)), (165, .inr (0, 6, 0, 0)), (166, .inr (2, 100, 0, 0))]
def layP : List (Nat × Ent) := ((0, .inl (8, [3, 15, 27, 59, 91, 116, 121, 124, 127, 132])) :: ((((lI1 ++ lI13) ++ lT25) ++ lT57) ++ ((89, .inr (4, 4, 90, 6)) :: ((((((((lRd ++ lLw) ++ lWy) ++ lTb) ++ lWe) ++ lS0) ++ lS1) ++ lS2) ++ lS3)))) ++ lMo
theorem layP_dec : (List.range 167).all (fun o => decide (layP[pos o]? = (lay[o]?).map (fun e => (o, e)))) = true := by decide +kernel
theorem layP_ok {o : Nat} {e : Ent} (h : lay[o]? = some e) : layP[pos o]? = some (o, e) := by
  have hl : o < 167 := by have := lay_lt h; rw [lay_len] at this; exact this
  have h1 := of_decide_eq_true (List.all_eq_true.mp layP_dec o (List.mem_range.mpr hl))
  rw [h] at h1
  exact h1
theorem iv_dec : (List.range 167).all (fun o => decide (iv (pos o) = o)) = true := by decide +kernel
theorem pos_lt (o : Nat) (h : o < 167) : pos o < 167 := by unfold pos; split <;> (try split) <;> (try split) <;> omega
/-- the fields of an object, one behind the other -/
def mx (f : Nat → Nat → Value) : Nat → List Nat → List Value
  | _, [] => []
  | k, a :: l => f k a :: mx f (k + 1) l
theorem mapIdx_mx (f : Nat → Nat → Value) : ∀ (l : List Nat) (k : Nat), l.mapIdx (fun i a => f (k + i) a) = mx f k l
  | [], _ => rfl
  | a :: l, k => by
    rw [List.mapIdx_cons]
    show f (k + 0) a :: _ = f k a :: mx f (k + 1) l
    rw [← mapIdx_mx f l (k + 1)]
    refine congrArg (List.cons _) ?_
    refine congrArg (fun g => List.mapIdx g l) ?_
    funext i b
    rw [show k + (i + 1) = k + 1 + i by omega]
theorem cof_mx {w : Wd} {M : Mem} {o ci : Nat} {fds : List Nat} : cof w M o (.inl (ci, fds)) = .inr (ci, mx (fv w M o) 0 fds) := by
  show (Sum.inr (ci, fds.mapIdx (fun k fd => fv w M o k fd)) : va_E) = _
  rw [← mapIdx_mx]
  refine congrArg (fun g => (Sum.inr (ci, List.mapIdx g fds) : va_E)) ?_
  funext i b
  rw [Nat.zero_add]
section WORLD
variable {n0 : Nat} {sa : Nat → Nat} {D : va_G} {cA : Nat → ClassId}
theorem wd_AdOk : AdOk (wd n0 sa D cA) := by
  intro i j hi hj h
  rw [lay_len] at hi hj
  have h1 : n0 + pos i = n0 + pos j := by
    have a : ad n0 sa i = n0 + pos i := if_pos hi
    have b : ad n0 sa j = n0 + pos j := if_pos hj
    rw [← a, ← b]
    exact h
  have a := of_decide_eq_true (List.all_eq_true.mp iv_dec i (List.mem_range.mpr hi))
  have b := of_decide_eq_true (List.all_eq_true.mp iv_dec j (List.mem_range.mpr hj))
  rw [← a, ← b, show pos i = pos j by omega]
theorem wd_ge {a : Nat} (h : InW (wd n0 sa D cA) a) : n0 ≤ a := by
  obtain ⟨o, ho, rfl⟩ := h
  rw [lay_len] at ho
  have a : ad n0 sa o = n0 + pos o := if_pos ho
  show n0 ≤ ad n0 sa o
  omega
theorem c_rows (b e : Nat) (hb : b + 30 ≤ 90) (he : e + 2 = b) : (.inl (cA 5, 30, .inr (.inr (.inr (.inr (fun i => if i < 30 then some (n0 + e + 1 + 1 + i) else none))))) : va_E) = .inl (cA 5, 30, .inr (.inr (.inr (.inr (fun k => if k < 30 then some (ad n0 sa (b + 1 * k)) else none))))) := by
  have h : (fun i => if i < 30 then some (n0 + e + 1 + 1 + i) else none) = (fun k => if k < 30 then some (ad n0 sa (b + 1 * k)) else none) := by
    funext k
    by_cases hk : k < 30
    · rw [if_pos hk, if_pos hk]
      unfold ad pos
      rw [if_pos (by omega), if_pos (by omega)]
      exact congrArg some (by omega)
    · rw [if_neg hk, if_neg hk]
  rw [h]
theorem c_scr : scrE (wd n0 sa D cA) (fX8 n0) = cf n0 sa D cA (89, .inr (4, 4, 90, 6)) := by
  have h : fX8 n0 = (fun k => if k < 4 then some (ad n0 sa (90 + 6 * k)) else none) := by
    funext k
    match k with
    | 0 => rfl
    | 1 => rfl
    | 2 => rfl
    | 3 => rfl
    | k + 4 =>
      rw [if_neg (by omega)]
      unfold fX8 va_up
      rw [if_neg (by omega), if_neg (by omega), if_neg (by omega), if_neg (by omega)]
  rw [h]
  rfl
set_option maxRecDepth 20000 in
theorem sg_I1_a : esX0 (wd n0 sa D cA) (n0 + 1) = ([.inr (0, [.int 0, .ref (n0 + 2), .ref (n0 + 3), .ref (n0 + 4), .ref (n0 + 5), .int 0, .ref (n0 + 6), .ref (n0 + 7), .ref (n0 + 8), .ref (n0 + 9), .ref (n0 + 10), .ref (n0 + 11), .int 5, .int 0, .ref (n0 + 12), .int 0, .int (-1)]), zI (wd n0 sa D cA) 8, zI (wd n0 sa D cA) 8, zI (wd n0 sa D cA) 8, zI (wd n0 sa D cA) 8, zI (wd n0 sa D cA) 6, zI (wd n0 sa D cA) 6, zI (wd n0 sa D cA) 6, zI (wd n0 sa D cA) 6, zI (wd n0 sa D cA) 6, zI (wd n0 sa D cA) 72, zI (wd n0 sa D cA) 360] : List va_E) := rfl
set_option maxRecDepth 20000 in
theorem sg_I1_c : (.inr (0, [.int 0, .ref (n0 + 2), .ref (n0 + 3), .ref (n0 + 4), .ref (n0 + 5), .int 0, .ref (n0 + 6), .ref (n0 + 7), .ref (n0 + 8), .ref (n0 + 9), .ref (n0 + 10), .ref (n0 + 11), .int 5, .int 0, .ref (n0 + 12), .int 0, .int (-1)]) : va_E) = cof (wd n0 sa D cA) M0 1 (.inl (0, [0, 4, 5, 6, 7, 0, 8, 9, 10, 11, 12, 13, 0, 0, 14, 0, 0])) := by
  rw [cof_mx]
  rfl
set_option maxRecDepth 20000 in
theorem sg_I1_b : ([.inr (0, [.int 0, .ref (n0 + 2), .ref (n0 + 3), .ref (n0 + 4), .ref (n0 + 5), .int 0, .ref (n0 + 6), .ref (n0 + 7), .ref (n0 + 8), .ref (n0 + 9), .ref (n0 + 10), .ref (n0 + 11), .int 5, .int 0, .ref (n0 + 12), .int 0, .int (-1)]), zI (wd n0 sa D cA) 8, zI (wd n0 sa D cA) 8, zI (wd n0 sa D cA) 8, zI (wd n0 sa D cA) 8, zI (wd n0 sa D cA) 6, zI (wd n0 sa D cA) 6, zI (wd n0 sa D cA) 6, zI (wd n0 sa D cA) 6, zI (wd n0 sa D cA) 6, zI (wd n0 sa D cA) 72, zI (wd n0 sa D cA) 360] : List va_E) = List.map (cf n0 sa D cA) lI1 := by
  rw [sg_I1_c]
  rfl
theorem sg_I1 : esX0 (wd n0 sa D cA) (n0 + 1) = List.map (cf n0 sa D cA) lI1 := sg_I1_a.trans sg_I1_b
set_option maxRecDepth 20000 in
theorem sg_I13_a : esX0 (wd n0 sa D cA) (n0 + 13) = ([.inr (0, [.int 0, .ref (n0 + 14), .ref (n0 + 15), .ref (n0 + 16), .ref (n0 + 17), .int 0, .ref (n0 + 18), .ref (n0 + 19), .ref (n0 + 20), .ref (n0 + 21), .ref (n0 + 22), .ref (n0 + 23), .int 5, .int 0, .ref (n0 + 24), .int 0, .int (-1)]), zI (wd n0 sa D cA) 8, zI (wd n0 sa D cA) 8, zI (wd n0 sa D cA) 8, zI (wd n0 sa D cA) 8, zI (wd n0 sa D cA) 6, zI (wd n0 sa D cA) 6, zI (wd n0 sa D cA) 6, zI (wd n0 sa D cA) 6, zI (wd n0 sa D cA) 6, zI (wd n0 sa D cA) 72, zI (wd n0 sa D cA) 360] : List va_E) := rfl
set_option maxRecDepth 20000 in
theorem sg_I13_c : (.inr (0, [.int 0, .ref (n0 + 14), .ref (n0 + 15), .ref (n0 + 16), .ref (n0 + 17), .int 0, .ref (n0 + 18), .ref (n0 + 19), .ref (n0 + 20), .ref (n0 + 21), .ref (n0 + 22), .ref (n0 + 23), .int 5, .int 0, .ref (n0 + 24), .int 0, .int (-1)]) : va_E) = cof (wd n0 sa D cA) M0 13 (.inl (0, [0, 16, 17, 18, 19, 0, 20, 21, 22, 23, 24, 25, 0, 0, 26, 0, 0])) := by
  rw [cof_mx]
  rfl
set_option maxRecDepth 20000 in
theorem sg_I13_b : ([.inr (0, [.int 0, .ref (n0 + 14), .ref (n0 + 15), .ref (n0 + 16), .ref (n0 + 17), .int 0, .ref (n0 + 18), .ref (n0 + 19), .ref (n0 + 20), .ref (n0 + 21), .ref (n0 + 22), .ref (n0 + 23), .int 5, .int 0, .ref (n0 + 24), .int 0, .int (-1)]), zI (wd n0 sa D cA) 8, zI (wd n0 sa D cA) 8, zI (wd n0 sa D cA) 8, zI (wd n0 sa D cA) 8, zI (wd n0 sa D cA) 6, zI (wd n0 sa D cA) 6, zI (wd n0 sa D cA) 6, zI (wd n0 sa D cA) 6, zI (wd n0 sa D cA) 6, zI (wd n0 sa D cA) 72, zI (wd n0 sa D cA) 360] : List va_E) = List.map (cf n0 sa D cA) lI13 := by
  rw [sg_I13_c]
  rfl
theorem sg_I13 : esX0 (wd n0 sa D cA) (n0 + 13) = List.map (cf n0 sa D cA) lI13 := sg_I13_a.trans sg_I13_b
theorem sg_T25 : esX4 (wd n0 sa D cA) (n0 + 25) = List.map (cf n0 sa D cA) lT25 := by
  unfold esX4
  rw [c_rows (cA := cA) (n0 := n0) (sa := sa) 27 25 (by decide) rfl]
  rfl
theorem sg_T57 : esX4 (wd n0 sa D cA) (n0 + 57) = List.map (cf n0 sa D cA) lT57 := by
  unfold esX4
  rw [c_rows (cA := cA) (n0 := n0) (sa := sa) 59 57 (by decide) rfl]
  rfl
set_option maxRecDepth 20000 in
theorem sg_Rd_a : esX2 (wd n0 sa D cA) (n0 + 90) = ([.inr (2, [.ref (n0 + 91), .int 0, .ref (n0 + 92), .ref (n0 + 93), .ref (n0 + 94), .int 0, .int 0, .int 0, .int 0, .int (-1), .int 0, .int 0, .int (-1)]), zI (wd n0 sa D cA) 300, zI (wd n0 sa D cA) 301, zI (wd n0 sa D cA) 301, zI (wd n0 sa D cA) 301] : List va_E) := rfl
set_option maxRecDepth 20000 in
theorem sg_Rd_b : ([.inr (2, [.ref (n0 + 91), .int 0, .ref (n0 + 92), .ref (n0 + 93), .ref (n0 + 94), .int 0, .int 0, .int 0, .int 0, .int (-1), .int 0, .int 0, .int (-1)]), zI (wd n0 sa D cA) 300, zI (wd n0 sa D cA) 301, zI (wd n0 sa D cA) 301, zI (wd n0 sa D cA) 301] : List va_E) = List.map (cf n0 sa D cA) lRd := rfl
theorem sg_Rd : esX2 (wd n0 sa D cA) (n0 + 90) = List.map (cf n0 sa D cA) lRd := sg_Rd_a.trans sg_Rd_b
set_option maxRecDepth 20000 in
theorem sg_Lw_a : esX1 (wd n0 sa D cA) (n0 + 95) (n0 + 1) (n0 + 89) = ([.inr (1, [.ref (n0 + 1), .ref (n0 + 89), .ref (n0 + 96), .ref (n0 + 97)]), zI (wd n0 sa D cA) 8, zI (wd n0 sa D cA) 20] : List va_E) := rfl
set_option maxRecDepth 20000 in
theorem sg_Lw_b : ([.inr (1, [.ref (n0 + 1), .ref (n0 + 89), .ref (n0 + 96), .ref (n0 + 97)]), zI (wd n0 sa D cA) 8, zI (wd n0 sa D cA) 20] : List va_E) = List.map (cf n0 sa D cA) lLw := rfl
theorem sg_Lw : esX1 (wd n0 sa D cA) (n0 + 95) (n0 + 1) (n0 + 89) = List.map (cf n0 sa D cA) lLw := sg_Lw_a.trans sg_Lw_b
set_option maxRecDepth 20000 in
theorem sg_Wy_a : esX6 (wd n0 sa D cA) (n0 + 98) (n0 + 1) (n0 + 95) = ([.inr (6, [.ref (n0 + 1), .ref (n0 + 95), .ref (n0 + 99), .ref (n0 + 100), .int (-1), .int 0, .int 0, .long 0, .long 1]), zI (wd n0 sa D cA) 12, zI (wd n0 sa D cA) 12] : List va_E) := rfl
set_option maxRecDepth 20000 in
theorem sg_Wy_b : ([.inr (6, [.ref (n0 + 1), .ref (n0 + 95), .ref (n0 + 99), .ref (n0 + 100), .int (-1), .int 0, .int 0, .long 0, .long 1]), zI (wd n0 sa D cA) 12, zI (wd n0 sa D cA) 12] : List va_E) = List.map (cf n0 sa D cA) lWy := rfl
theorem sg_Wy : esX6 (wd n0 sa D cA) (n0 + 98) (n0 + 1) (n0 + 95) = List.map (cf n0 sa D cA) lWy := sg_Wy_a.trans sg_Wy_b
set_option maxRecDepth 20000 in
theorem sg_Tb_a : esX5 (wd n0 sa D cA) (n0 + 101) (n0 + 1) (n0 + 95) = ([.inr (5, [.ref (n0 + 1), .ref (n0 + 95), .ref (n0 + 102), .ref (n0 + 103), .ref (n0 + 104), .ref (n0 + 105), .int 0]), zI (wd n0 sa D cA) 6, zI (wd n0 sa D cA) 6, zI (wd n0 sa D cA) 36, zI (wd n0 sa D cA) 64] : List va_E) := rfl
set_option maxRecDepth 20000 in
theorem sg_Tb_b : ([.inr (5, [.ref (n0 + 1), .ref (n0 + 95), .ref (n0 + 102), .ref (n0 + 103), .ref (n0 + 104), .ref (n0 + 105), .int 0]), zI (wd n0 sa D cA) 6, zI (wd n0 sa D cA) 6, zI (wd n0 sa D cA) 36, zI (wd n0 sa D cA) 64] : List va_E) = List.map (cf n0 sa D cA) lTb := rfl
theorem sg_Tb : esX5 (wd n0 sa D cA) (n0 + 101) (n0 + 1) (n0 + 95) = List.map (cf n0 sa D cA) lTb := sg_Tb_a.trans sg_Tb_b
set_option maxRecDepth 20000 in
theorem sg_We_a : esX7 (wd n0 sa D cA) (n0 + 106) (n0 + 1) (n0 + 95) = ([.inr (7, [.ref (n0 + 1), .ref (n0 + 95), .ref (n0 + 107), .ref (n0 + 108), .ref (n0 + 109), .int (-1)]), zI (wd n0 sa D cA) 6, zI (wd n0 sa D cA) 6, zI (wd n0 sa D cA) 6] : List va_E) := rfl
set_option maxRecDepth 20000 in
theorem sg_We_b : ([.inr (7, [.ref (n0 + 1), .ref (n0 + 95), .ref (n0 + 107), .ref (n0 + 108), .ref (n0 + 109), .int (-1)]), zI (wd n0 sa D cA) 6, zI (wd n0 sa D cA) 6, zI (wd n0 sa D cA) 6] : List va_E) = List.map (cf n0 sa D cA) lWe := rfl
theorem sg_We : esX7 (wd n0 sa D cA) (n0 + 106) (n0 + 1) (n0 + 95) = List.map (cf n0 sa D cA) lWe := sg_We_a.trans sg_We_b
set_option maxRecDepth 20000 in
theorem sg_S0_a : esX3 (wd n0 sa D cA) (n0 + 110) = ([.inr (3, [.ref (n0 + 111), .int 0, .ref (n0 + 112), .ref (n0 + 113), .ref (n0 + 114), .ref (n0 + 115), .int 0]), zI (wd n0 sa D cA) 300, zI (wd n0 sa D cA) 4, zI (wd n0 sa D cA) 4, zI (wd n0 sa D cA) 24, zI (wd n0 sa D cA) 72] : List va_E) := rfl
set_option maxRecDepth 20000 in
theorem sg_S0_b : ([.inr (3, [.ref (n0 + 111), .int 0, .ref (n0 + 112), .ref (n0 + 113), .ref (n0 + 114), .ref (n0 + 115), .int 0]), zI (wd n0 sa D cA) 300, zI (wd n0 sa D cA) 4, zI (wd n0 sa D cA) 4, zI (wd n0 sa D cA) 24, zI (wd n0 sa D cA) 72] : List va_E) = List.map (cf n0 sa D cA) lS0 := rfl
theorem sg_S0 : esX3 (wd n0 sa D cA) (n0 + 110) = List.map (cf n0 sa D cA) lS0 := sg_S0_a.trans sg_S0_b
set_option maxRecDepth 20000 in
theorem sg_S1_a : esX3 (wd n0 sa D cA) (n0 + 116) = ([.inr (3, [.ref (n0 + 117), .int 0, .ref (n0 + 118), .ref (n0 + 119), .ref (n0 + 120), .ref (n0 + 121), .int 0]), zI (wd n0 sa D cA) 300, zI (wd n0 sa D cA) 4, zI (wd n0 sa D cA) 4, zI (wd n0 sa D cA) 24, zI (wd n0 sa D cA) 72] : List va_E) := rfl
set_option maxRecDepth 20000 in
theorem sg_S1_b : ([.inr (3, [.ref (n0 + 117), .int 0, .ref (n0 + 118), .ref (n0 + 119), .ref (n0 + 120), .ref (n0 + 121), .int 0]), zI (wd n0 sa D cA) 300, zI (wd n0 sa D cA) 4, zI (wd n0 sa D cA) 4, zI (wd n0 sa D cA) 24, zI (wd n0 sa D cA) 72] : List va_E) = List.map (cf n0 sa D cA) lS1 := rfl
theorem sg_S1 : esX3 (wd n0 sa D cA) (n0 + 116) = List.map (cf n0 sa D cA) lS1 := sg_S1_a.trans sg_S1_b
set_option maxRecDepth 20000 in
theorem sg_S2_a : esX3 (wd n0 sa D cA) (n0 + 122) = ([.inr (3, [.ref (n0 + 123), .int 0, .ref (n0 + 124), .ref (n0 + 125), .ref (n0 + 126), .ref (n0 + 127), .int 0]), zI (wd n0 sa D cA) 300, zI (wd n0 sa D cA) 4, zI (wd n0 sa D cA) 4, zI (wd n0 sa D cA) 24, zI (wd n0 sa D cA) 72] : List va_E) := rfl
set_option maxRecDepth 20000 in
theorem sg_S2_b : ([.inr (3, [.ref (n0 + 123), .int 0, .ref (n0 + 124), .ref (n0 + 125), .ref (n0 + 126), .ref (n0 + 127), .int 0]), zI (wd n0 sa D cA) 300, zI (wd n0 sa D cA) 4, zI (wd n0 sa D cA) 4, zI (wd n0 sa D cA) 24, zI (wd n0 sa D cA) 72] : List va_E) = List.map (cf n0 sa D cA) lS2 := rfl
theorem sg_S2 : esX3 (wd n0 sa D cA) (n0 + 122) = List.map (cf n0 sa D cA) lS2 := sg_S2_a.trans sg_S2_b
set_option maxRecDepth 20000 in
theorem sg_S3_a : esX3 (wd n0 sa D cA) (n0 + 128) = ([.inr (3, [.ref (n0 + 129), .int 0, .ref (n0 + 130), .ref (n0 + 131), .ref (n0 + 132), .ref (n0 + 133), .int 0]), zI (wd n0 sa D cA) 300, zI (wd n0 sa D cA) 4, zI (wd n0 sa D cA) 4, zI (wd n0 sa D cA) 24, zI (wd n0 sa D cA) 72] : List va_E) := rfl
set_option maxRecDepth 20000 in
theorem sg_S3_b : ([.inr (3, [.ref (n0 + 129), .int 0, .ref (n0 + 130), .ref (n0 + 131), .ref (n0 + 132), .ref (n0 + 133), .int 0]), zI (wd n0 sa D cA) 300, zI (wd n0 sa D cA) 4, zI (wd n0 sa D cA) 4, zI (wd n0 sa D cA) 24, zI (wd n0 sa D cA) 72] : List va_E) = List.map (cf n0 sa D cA) lS3 := rfl
theorem sg_S3 : esX3 (wd n0 sa D cA) (n0 + 128) = List.map (cf n0 sa D cA) lS3 := sg_S3_a.trans sg_S3_b
set_option maxRecDepth 20000 in
theorem sg_Mo_a : esX9 (wd n0 sa D cA) (n0 + 134) = ([.inr (9, [.ref (n0 + 135), .ref (n0 + 136), .ref (n0 + 137), .int 0, .int (-1), .int (-1), .ref (n0 + 138), .ref (n0 + 139), .ref (n0 + 140), .ref (n0 + 141), .ref (n0 + 142), .ref (n0 + 143), .ref (n0 + 144), .ref (n0 + 145), .int 0, .int 0, .int 0, .int 0, .int 0, .int 0, .int 0, .int 0, .int 0, .ref (n0 + 146), .int 0, .ref (n0 + 147), .ref (n0 + 148), .int 0, .int 0, .int 0, .ref (n0 + 149), .ref (n0 + 150), .ref (n0 + 151), .ref (n0 + 152), .ref (n0 + 153), .int 0, .ref (n0 + 154), .ref (n0 + 155), .ref (n0 + 156), .ref (n0 + 157), .ref (n0 + 158), .ref (n0 + 159), .ref (n0 + 160), .ref (n0 + 161), .ref (n0 + 162), .ref (n0 + 163), .ref (n0 + 164), .ref (n0 + 165), .ref (n0 + 166)]), zI (wd n0 sa D cA) 14800, zI (wd n0 sa D cA) 14800, zB (wd n0 sa D cA) 300, zI (wd n0 sa D cA) 4, zI (wd n0 sa D cA) 96, zI (wd n0 sa D cA) 96, zI (wd n0 sa D cA) 96, zI (wd n0 sa D cA) 96, zI (wd n0 sa D cA) 96, zI (wd n0 sa D cA) 1600, zI (wd n0 sa D cA) 1600, zI (wd n0 sa D cA) 40, zI (wd n0 sa D cA) 80, zI (wd n0 sa D cA) 80, zI (wd n0 sa D cA) 24, zI (wd n0 sa D cA) 24, zI (wd n0 sa D cA) 24, zI (wd n0 sa D cA) 24, zI (wd n0 sa D cA) 24, zI (wd n0 sa D cA) 400, zI (wd n0 sa D cA) 400, zI (wd n0 sa D cA) 8, zJ (wd n0 sa D cA) 200, zI (wd n0 sa D cA) 12, zI (wd n0 sa D cA) 12, zI (wd n0 sa D cA) 6, zI (wd n0 sa D cA) 6, zI (wd n0 sa D cA) 6, zI (wd n0 sa D cA) 6, zI (wd n0 sa D cA) 6, zI (wd n0 sa D cA) 6, zZ (wd n0 sa D cA) 100] : List va_E) := rfl
set_option maxRecDepth 20000 in
theorem sg_Mo_c : (.inr (9, [.ref (n0 + 135), .ref (n0 + 136), .ref (n0 + 137), .int 0, .int (-1), .int (-1), .ref (n0 + 138), .ref (n0 + 139), .ref (n0 + 140), .ref (n0 + 141), .ref (n0 + 142), .ref (n0 + 143), .ref (n0 + 144), .ref (n0 + 145), .int 0, .int 0, .int 0, .int 0, .int 0, .int 0, .int 0, .int 0, .int 0, .ref (n0 + 146), .int 0, .ref (n0 + 147), .ref (n0 + 148), .int 0, .int 0, .int 0, .ref (n0 + 149), .ref (n0 + 150), .ref (n0 + 151), .ref (n0 + 152), .ref (n0 + 153), .int 0, .ref (n0 + 154), .ref (n0 + 155), .ref (n0 + 156), .ref (n0 + 157), .ref (n0 + 158), .ref (n0 + 159), .ref (n0 + 160), .ref (n0 + 161), .ref (n0 + 162), .ref (n0 + 163), .ref (n0 + 164), .ref (n0 + 165), .ref (n0 + 166)]) : va_E) = cof (wd n0 sa D cA) M0 134 (.inl (9, [137, 138, 139, 0, 0, 0, 140, 141, 142, 143, 144, 145, 146, 147, 0, 0, 0, 0, 0, 0, 0, 0, 0, 148, 0, 149, 150, 0, 0, 0, 151, 152, 153, 154, 155, 0, 156, 157, 158, 159, 160, 161, 162, 163, 164, 165, 166, 167, 168])) := by
  rw [cof_mx]
  rfl
set_option maxRecDepth 20000 in
theorem sg_Mo_b : ([.inr (9, [.ref (n0 + 135), .ref (n0 + 136), .ref (n0 + 137), .int 0, .int (-1), .int (-1), .ref (n0 + 138), .ref (n0 + 139), .ref (n0 + 140), .ref (n0 + 141), .ref (n0 + 142), .ref (n0 + 143), .ref (n0 + 144), .ref (n0 + 145), .int 0, .int 0, .int 0, .int 0, .int 0, .int 0, .int 0, .int 0, .int 0, .ref (n0 + 146), .int 0, .ref (n0 + 147), .ref (n0 + 148), .int 0, .int 0, .int 0, .ref (n0 + 149), .ref (n0 + 150), .ref (n0 + 151), .ref (n0 + 152), .ref (n0 + 153), .int 0, .ref (n0 + 154), .ref (n0 + 155), .ref (n0 + 156), .ref (n0 + 157), .ref (n0 + 158), .ref (n0 + 159), .ref (n0 + 160), .ref (n0 + 161), .ref (n0 + 162), .ref (n0 + 163), .ref (n0 + 164), .ref (n0 + 165), .ref (n0 + 166)]), zI (wd n0 sa D cA) 14800, zI (wd n0 sa D cA) 14800, zB (wd n0 sa D cA) 300, zI (wd n0 sa D cA) 4, zI (wd n0 sa D cA) 96, zI (wd n0 sa D cA) 96, zI (wd n0 sa D cA) 96, zI (wd n0 sa D cA) 96, zI (wd n0 sa D cA) 96, zI (wd n0 sa D cA) 1600, zI (wd n0 sa D cA) 1600, zI (wd n0 sa D cA) 40, zI (wd n0 sa D cA) 80, zI (wd n0 sa D cA) 80, zI (wd n0 sa D cA) 24, zI (wd n0 sa D cA) 24, zI (wd n0 sa D cA) 24, zI (wd n0 sa D cA) 24, zI (wd n0 sa D cA) 24, zI (wd n0 sa D cA) 400, zI (wd n0 sa D cA) 400, zI (wd n0 sa D cA) 8, zJ (wd n0 sa D cA) 200, zI (wd n0 sa D cA) 12, zI (wd n0 sa D cA) 12, zI (wd n0 sa D cA) 6, zI (wd n0 sa D cA) 6, zI (wd n0 sa D cA) 6, zI (wd n0 sa D cA) 6, zI (wd n0 sa D cA) 6, zI (wd n0 sa D cA) 6, zZ (wd n0 sa D cA) 100] : List va_E) = List.map (cf n0 sa D cA) lMo := by
  rw [sg_Mo_c]
  rfl
theorem sg_Mo : esX9 (wd n0 sa D cA) (n0 + 134) = List.map (cf n0 sa D cA) lMo := sg_Mo_a.trans sg_Mo_b
set_option maxRecDepth 20000 in
theorem sg_x : (.inr (8, [.ref (n0 + 1), .ref (n0 + 13), .ref (n0 + 25), .ref (n0 + 57), .ref (n0 + 89), .ref (n0 + 90), .ref (n0 + 95), .ref (n0 + 98), .ref (n0 + 101), .ref (n0 + 106)]) : va_E) = cf n0 sa D cA (0, .inl (8, [3, 15, 27, 59, 91, 116, 121, 124, 127, 132])) := rfl
theorem mt_all : esX8 (wd n0 sa D cA) n0 ++ esX9 (wd n0 sa D cA) (n0 + 134) = List.map (cf n0 sa D cA) layP := by
  unfold esX8 layP esA esB
  simp only [List.map_append, List.map_cons]
  rw [← sg_I1, ← sg_I13, ← sg_T25, ← sg_T57, ← sg_Rd, ← sg_Lw, ← sg_Wy, ← sg_Tb, ← sg_We, ← sg_S0, ← sg_S1, ← sg_S2, ← sg_S3, ← sg_Mo, ← c_scr, ← sg_x]
theorem mt_P {H : Heap} (h : ∀ j e, (esX8 (wd n0 sa D cA) n0 ++ esX9 (wd n0 sa D cA) (n0 + 134))[j]? = some e → va_at D CL (n0 + j, e) H) : va_P D CL (world (wd n0 sa D cA) M0) H := by
  intro o q hq
  obtain ⟨e, he, rfl⟩ := world_some hq
  have hl : o < 167 := by have := lay_lt he; rw [lay_len] at this; exact this
  have h2 := h (pos o) (cof (wd n0 sa D cA) M0 o e) (by rw [mt_all, List.getElem?_map, layP_ok he]; rfl)
  have a : ad n0 sa o = n0 + pos o := if_pos hl
  show va_at D CL (ad n0 sa o, cof (wd n0 sa D cA) M0 o e) H
  rw [a]
  exact h2
end WORLD
/-! THE MODEL'S CONSTRUCTOR -/
def LOW (w : Wd) (n0 : Nat) (H : Heap) : Prop := ∀ j e, (esX8 w n0)[j]? = some e → va_at w.2.1 CL (n0 + j, e) H
abbrev rmX9 : Room := { frames := 1, cells := 32, slots := 35072, locals := 32 }
def MXq (w : Wd) (n0 : Nat) : Array Value → State → Outcome → State → Prop := fun _ st o t => (o = .returned none ∧ ∃ M, va_P w.2.1 CL (world w M) t.heap ∧ RM M ∧ REL M) ∧ va_F (GE n0) st t
abbrev XM (w : Wd) (n0 : Nat) : State → Array Value → Method → Prop := fun s _ meth => meth.sig.returnType = none ∧ meth.locks = false ∧ meth.name = "<init>" ∧ LOW w n0 s.heap
set_option maxRecDepth 20000 in
theorem esX8_len {w : Wd} {n0 : Nat} : (esX8 w n0).length = 134 := rfl
/-- the rest of the model's constructor, in its own judgement -/
theorem mk_X9b {l : Launch} {w : Wd} {n0 : Nat} : WW l w RX9 cX9_init 1 rmX9 32 35072 (fun _ => GE n0) (fun below args s => MQ below (MXq w n0) args s 32 35072 (GE n0)) (XM w n0) 277 [some (vR 134)] [] M0 := by
  refine e_aload0 dX9_init_277 ?_
  refine e_getR fl_X9_7 la_134 rfl dX9_init_278 ?_
  refine e_iconst (x := 3) dX9_init_281 rfl ⟨by decide, by decide⟩ ?_
  refine e_iconst (x := -1) dX9_init_282 rfl ⟨by decide, by decide⟩ ?_
  refine e_iastK (k := 3) la_135 (by decide) rfl dX9_init_283 ?_
  refine e_aload0 dX9_init_284 ?_
  refine e_getR fl_X9_7 la_134 rfl dX9_init_285 ?_
  refine e_sipush (x := 515) dX9_init_288 rfl ⟨by decide, by decide, by decide⟩ ?_
  refine e_iconst (x := 5) dX9_init_291 rfl ⟨by decide, by decide⟩ ?_
  refine e_iastK (k := 515) la_135 (by decide) rfl dX9_init_292 ?_
  refine e_aload0 dX9_init_293 ?_
  refine e_iconst (x := 1) dX9_init_294 rfl ⟨by decide, by decide⟩ ?_
  refine e_cVV (ct_X9_copies1 (d := 0)) cy_X9_copies cv_X9_copies ml_X9_116 la_134 rfl rfl rfl ⟨⟨by decide, by decide⟩, by decide, by decide⟩ (Nat.le_of_ble_eq_true rfl) dX9_init_295 ?_
  intro p e s m args below meth c H locs ls hF hE hS hA hP hSS hM hL hst
  exact W.vret hF.1 hF.2.1 hE.1 (fun t ht _ => ⟨⟨rfl, M1, by rw [ht]; exact hP, hM, REL1⟩, hSS.F ht⟩) hSS.2.2 dX9_init_298 hE.2.1
theorem mk_X9 {l : Launch} {n0 : Nat} {sa : Nat → Nat} {D : va_G} {cA : Nat → ClassId} : Met l yX9_init (.code yX9_init cX9_init 1 none :: TBL) rmX9 (va_Pc [.ref (n0 + 134)] (fun U => KS (wd n0 sa D cA) n0 U U.heap ∧ CP (wd n0 sa D cA) (n0 + 134) [zX9] U.heap ∧ LOW (wd n0 sa D cA) n0 U.heap)) (MXq (wd n0 sa D cA) n0) 32 35072 (GE n0) := by
  refine Met.ofW (cc := cX9_init) (maxL := 1) (ret := none) (by decide) rfl ?_
  intro p e s m args below meth c s₁ B hml hv
  obtain ⟨rfl, hS, hP, hlow⟩ := hv
  have hts := atoms_spec (ws := .code yX9_init cX9_init 1 none :: TBL) B.pre
  have hown : s.vm.findClass RX9 = some m.cls := findClass_of_methodNamed B.named
  have hin : meth.name = "<init>" := (name_of_methodNamed B.named B.method).1
  have hlv := lv_entry ([.ref (n0 + 134)] : List Value) (n := 1) (Nat.le_of_ble_eq_true rfl)
  rw [lg_entry_eq]
  have key : CW l (wd n0 sa D cA) RX9 cX9_init 1 rmX9 n0 (n0 + 134) (fun below args s => MQ below (MXq (wd n0 sa D cA) n0) args s 32 35072 (GE n0)) (XM (wd n0 sa D cA) n0) 0 0 0 [(0, .ref (n0 + 134))] [] [zX9] := by
    refine mk_X9a ⟨by decide, by decide, by decide, by decide⟩ (fun _ _ _ h => ⟨h.1, h.2.1, h.2.2.1, trivial⟩) ?_
    intro p e s m args below meth c H locs ls hF hE hS h01 h1s hP hSS hL
    have hW : va_P D CL (world (wd n0 sa D cA) M0) H := mt_P (fun j e9 hj => by
      by_cases hl : j < 134
      · rw [List.getElem?_append_left (by rw [esX8_len]; exact hl)] at hj
        refine (hE.2.2.2 j e9 hj).kept (hSS.2.1 _ (by show n0 + j < _; omega) (fun z => ?_))
        have z : n0 + 134 ≤ n0 + j := z
        omega
      · rw [List.getElem?_append_right (by rw [esX8_len]; omega), esX8_len] at hj
        have := hP.2 _ e9 hj
        rw [show n0 + 134 + (j - 134) = n0 + j by omega] at this
        exact this)
    have hS2 : va_S (GE n0) s.heap H locs := ⟨hSS.1, fun q h1 h2 => hSS.2.1 q h1 (fun z => h2 (Nat.le_trans (Nat.le_add_right _ _) z)), fun q hq => Nat.le_trans (Nat.le_add_right _ _) (hSS.2.2 q hq)⟩
    refine mk_X9b p e s m args below meth c H locs ls hF hE hS.1 (fun a h => wd_ge h) hW hS2 RM0 ⟨hL.1, hL.2.1, Nat.le_refl 1, fun i v hi => ?_⟩ (fun v hv => absurd hv List.not_mem_nil)
    have h0 : i < 1 := (List.getElem?_eq_some_iff.mp hi).1
    rw [show i = 0 by omega] at hi ⊢
    cases hi
    exact ⟨trivial, lv_at hL 0 rfl⟩
  exact key p e s m _ below meth c s.heap [] _ ⟨B.exec, B.bytes, hml, hown, fun x hx => hts x (List.mem_cons_of_mem _ hx)⟩ ⟨B.returns, B.notSynchronized, hin, hlow⟩ hS (Nat.le_add_right _ _) (by rw [hP.1]; omega) hP va_S.rf hlv
