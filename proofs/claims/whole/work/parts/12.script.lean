/-! SUMS as codes, and SCRIPTS (object 90 + 6 j: size 1, clauses 6; rows codes 91 + 6 j, from 92 + 6 j, to 93 + 6 j, kinds 94 + 6 j, numbers 95 + 6 j) -/
def clampS (v : Int) : Int := max (-1000000) (min 1000000 v)
def comb (c x y : Int) : Int := clampS (if c = 10008 then x + y else if c = 10009 then x - y else if c = 10010 then x * y else if y = 0 then 0 else x.tdiv y)
def opS (nm : Nat → Int) (c : Int) (st : List Int) : List Int :=
  if c < 10008 then (if c < 10000 then c else nm (c - 10000).toNat) :: st
  else if c = 10012 then (match st with | x :: r => (-x) :: r | [] => [])
  else (match st with | y :: x :: r => comb c x y :: r | s => s)
def rpn (nm : Nat → Int) : List Int → List Int → List Int
  | [], st => st
  | c :: cs, st => rpn nm cs (opS nm c st)
/-- the codes may be reckoned from height h, and end at height h2; no height above 20 -/
def wfc : List Int → Nat → Nat → Prop
  | [], h, h2 => h = h2
  | c :: cs, h, h2 => 0 ≤ c ∧ ((c < 10008 ∧ h < 20 ∧ wfc cs (h + 1) h2) ∨ (c = 10012 ∧ 1 ≤ h ∧ wfc cs h h2) ∨ (10008 ≤ c ∧ c < 10012 ∧ 2 ≤ h ∧ wfc cs (h - 1) h2))
theorem wfc_app {a b : List Int} : ∀ {h h1 h2 : Nat}, wfc a h h1 → wfc b h1 h2 → wfc (a ++ b) h h2 := by
  induction a with
  | nil => intro h h1 h2 e q; cases e; exact q
  | cons c cs ih =>
    intro h h1 h2 e q
    obtain ⟨e0, e1 | e1 | e1⟩ := e
    · exact ⟨e0, Or.inl ⟨e1.1, e1.2.1, ih e1.2.2 q⟩⟩
    · exact ⟨e0, Or.inr (Or.inl ⟨e1.1, e1.2.1, ih e1.2.2 q⟩)⟩
    · exact ⟨e0, Or.inr (Or.inr ⟨e1.1, e1.2.1, e1.2.2.1, ih e1.2.2.2 q⟩)⟩
theorem rpn_app (nm : Nat → Int) (a b st : List Int) : rpn nm (a ++ b) st = rpn nm b (rpn nm a st) := by
  induction a generalizing st with
  | nil => rfl
  | cons c cs ih => exact ih _
theorem opS_congr {nm nm' : Nat → Int} (h : ∀ k, k < 8 → nm k = nm' k) {c : Int} (hc : c < 10008 ∨ 10008 ≤ c) (st : List Int) : opS nm c st = opS nm' c st := by
  unfold opS
  by_cases h1 : c < 10008
  · rw [if_pos h1, if_pos h1]
    by_cases h2 : c < 10000
    · rw [if_pos h2, if_pos h2]
    · rw [if_neg h2, if_neg h2, h _ (by omega)]
  · rw [if_neg h1, if_neg h1]
theorem rpn_congr {nm nm' : Nat → Int} (h : ∀ k, k < 8 → nm k = nm' k) : ∀ (cs st : List Int), rpn nm cs st = rpn nm' cs st
  | [], _ => rfl
  | c :: cs, st => by
    unfold rpn
    rw [opS_congr h (by omega)]
    exact rpn_congr h cs _
def bnd (v : Int) : Prop := -1000000 ≤ v ∧ v ≤ 1000000
theorem comb_b (c x y : Int) : bnd (comb c x y) := by
  unfold comb clampS bnd
  generalize (if c = 10008 then x + y else if c = 10009 then x - y else if c = 10010 then x * y else if y = 0 then 0 else x.tdiv y) = v
  omega
theorem opS_len {nm : Nat → Int} {c : Int} {cs st : List Int} {h2 : Nat} (hw : wfc (c :: cs) st.length h2) : wfc cs (opS nm c st).length h2 := by
  obtain ⟨e0, e1 | e1 | e1⟩ := hw
  · unfold opS
    rw [if_pos e1.1]
    exact e1.2.2
  · unfold opS
    rw [if_neg (by omega), if_pos e1.1]
    cases st with
    | nil => exact absurd e1.2.1 (by simp)
    | cons x r => exact e1.2.2
  · unfold opS
    rw [if_neg (by omega), if_neg (by omega)]
    cases st with
    | nil => exact absurd e1.2.2.1 (by simp)
    | cons y r =>
      cases r with
      | nil => exact absurd e1.2.2.1 (by simp)
      | cons x r => exact e1.2.2.2
theorem opS_b {nm : Nat → Int} (hn : ∀ k, k < 8 → bnd (nm k)) {c : Int} {cs st : List Int} {h2 : Nat} (hw : wfc (c :: cs) st.length h2) (hb : ∀ v ∈ st, bnd v) : ∀ v ∈ opS nm c st, bnd v := by
  obtain ⟨e0, e1 | e1 | e1⟩ := hw
  · unfold opS
    rw [if_pos e1.1]
    refine List.forall_mem_cons.mpr ⟨?_, hb⟩
    by_cases h2 : c < 10000
    · rw [if_pos h2]; exact ⟨by omega, by omega⟩
    · rw [if_neg h2]; exact hn _ (by omega)
  · unfold opS
    rw [if_neg (by omega), if_pos e1.1]
    cases st with
    | nil => exact hb
    | cons x r =>
      have hx := hb x List.mem_cons_self
      exact List.forall_mem_cons.mpr ⟨⟨by have := hx.2; omega, by have := hx.1; omega⟩, fun v hv => hb v (List.mem_cons_of_mem _ hv)⟩
  · unfold opS
    rw [if_neg (by omega), if_neg (by omega)]
    cases st with
    | nil => exact hb
    | cons y r =>
      cases r with
      | nil => exact hb
      | cons x r => exact List.forall_mem_cons.mpr ⟨comb_b c x y, fun v hv => hb v (List.mem_cons_of_mem _ (List.mem_cons_of_mem _ hv))⟩
/-- n entries of a row from place a on -/
def seg (f : Nat → Int) (a : Nat) : Nat → List Int
  | 0 => []
  | n + 1 => f a :: seg f (a + 1) n
theorem seg_snoc (f : Nat → Int) : ∀ (n a : Nat), seg f a (n + 1) = seg f a n ++ [f (a + n)]
  | 0, a => rfl
  | n + 1, a => by
    show f a :: seg f (a + 1) (n + 1) = f a :: (seg f (a + 1) n ++ [f (a + (n + 1))])
    rw [seg_snoc f n (a + 1), show a + 1 + n = a + (n + 1) by omega]
theorem seg_congr {f g : Nat → Int} : ∀ (n a : Nat), (∀ k, a ≤ k → k < a + n → f k = g k) → seg f a n = seg g a n
  | 0, _, _ => rfl
  | n + 1, a, h => by
    show f a :: seg f (a + 1) n = g a :: seg g (a + 1) n
    rw [h a (by omega) (by omega), seg_congr n (a + 1) (fun k h1 h2 => h k (by omega) (by omega))]
theorem seg_len (f : Nat → Int) : ∀ (n a : Nat), (seg f a n).length = n
  | 0, _ => rfl
  | n + 1, a => by show (seg f (a + 1) n).length + 1 = n + 1; rw [seg_len f n]
section SCR
variable {l : Launch} {w : Wd} {d : Nat} {M : Mem} {Q : Option MV → Mem → Prop} {j : Nat}
def clrS (M : Mem) (j : Nat) : Mem := fill (fill (up (up M (90 + 6 * j) 1 0) (90 + 6 * j) 6 0) (92 + 6 * j) 0 4 0) (93 + 6 * j) 0 4 0
theorem ct_X3_clear (hd : 1 ≤ d) (hj : j < 4) : PV l w yX3_clear cX3_clear 2 d [vR (90 + 6 * j)] M (clrS M j) := by
  have loop : ∀ (q i : Nat) (M0 : Mem), i + q = 4 → WM l w RX3 cX3_clear 2 none d (fun r M' => M' = fill (fill M0 (92 + 6 * j) 0 4 0) (93 + 6 * j) 0 4 0 ∧ r = none) 12 [some (vR (90 + 6 * j)), some (vI i)] [] (fill (fill M0 (92 + 6 * j) 0 i 0) (93 + 6 * j) 0 i 0) := by
    intro q
    induction q with
    | zero =>
      intro i M0 hi
      obtain rfl : i = 4 := by omega
      refine e_iload1 dX3_clear_12 ?_
      refine e_iconst dX3_clear_13 rfl kc_4 ?_
      refine e_icmp_ge (tgt := 37) dX3_clear_14 (by decide) (fun h14 => ?_) (fun h => absurd h (by omega))
      refine e_vret dX3_clear_37 ?_
      exact ⟨rfl, rfl⟩
    | succ q ih =>
      intro i M0 hi
      refine e_iload1 dX3_clear_12 ?_
      refine e_iconst dX3_clear_13 rfl kc_4 ?_
      refine e_icmp_ge (tgt := 37) dX3_clear_14 (by decide) (fun h => absurd h (by omega)) (fun h14 => ?_)
      refine e_aload0 dX3_clear_17 ?_
      refine e_getR fl_X3_19 (la_S0 hj) rfl dX3_clear_18 ?_
      refine e_iload1 dX3_clear_21 ?_
      refine e_iconst dX3_clear_22 rfl kc_0 ?_
      refine e_iast (la_S2 hj) (⟨by omega, by omega⟩) dX3_clear_23 ?_
      refine e_aload0 dX3_clear_24 ?_
      refine e_getR fl_X3_22 (la_S0 hj) rfl dX3_clear_25 ?_
      refine e_iload1 dX3_clear_28 ?_
      refine e_iconst dX3_clear_29 rfl kc_0 ?_
      refine e_iast (la_S3 hj) (⟨by omega, by omega⟩) dX3_clear_30 ?_
      refine e_iinc1 dX3_clear_31 rfl (⟨by omega, by omega⟩) rfl ?_
      refine e_goto (tgt := 12) dX3_clear_34 (by decide) ?_
      refine WW.cv rfl rfl ?_ (ih (i + 1) M0 (by omega))
      funext o k
      simp only [up, fill, Int.toNat_natCast]
      repeat' split
      all_goals first | rfl | (exfalso; omega)
  refine MT.of [some (vR (90 + 6 * j)), none] ⟨by decide, rfl⟩ rfl (Nat.le_of_ble_eq_true rfl) (fun hA hM => ?_)
  refine e_aload0 dX3_clear_0 ?_
  refine e_iconst dX3_clear_1 rfl kc_0 ?_
  refine e_putI fp_X3_15 (la_S0 hj) rfl dX3_clear_2 ?_
  refine e_aload0 dX3_clear_5 ?_
  refine e_iconst dX3_clear_6 rfl kc_0 ?_
  refine e_putI fp_X3_31 (la_S0 hj) rfl dX3_clear_7 ?_
  refine e_iconst dX3_clear_10 rfl kc_0 ?_
  refine e_istore1 dX3_clear_11 rfl ?_
  refine WW.cv rfl rfl ?_ (loop 4 0 (up (up M (90 + 6 * j) 1 0) (90 + 6 * j) 6 0) (by omega))
  rw [fill_0, fill_0]
def addK (M : Mem) (j : Nat) (c : Int) : Mem := up (up M (91 + 6 * j) (M (90 + 6 * j) 1).toNat c) (90 + 6 * j) 1 (M (90 + 6 * j) 1 + 1)
theorem ct_X3_addCode (hd : 1 ≤ d) (hj : j < 4) (hs : 0 ≤ M (90 + 6 * j) 1 ∧ M (90 + 6 * j) 1 < 300) {c : Int} : PV l w yX3_addCode cX3_addCode 2 d [vR (90 + 6 * j), vI c] M (addK M j c) := by
  refine MT.of [some (vR (90 + 6 * j)), some (vI c)] ⟨by decide, rfl⟩ rfl (Nat.le_of_ble_eq_true rfl) (fun hA hM => ?_)
  refine e_aload0 dX3_addCode_0 ?_
  refine e_getI fl_X3_15 (la_S0 hj) rfl dX3_addCode_1 ?_
  refine e_aload0 dX3_addCode_4 ?_
  refine e_getR fl_X3_9 (la_S0 hj) rfl dX3_addCode_5 ?_
  refine e_alen (la_S1 hj) (by decide) (by decide) dX3_addCode_8 ?_
  refine e_icmp_ge (tgt := 32) dX3_addCode_9 (by decide) (fun h => absurd h (by omega)) (fun h9 => ?_)
  refine e_aload0 dX3_addCode_12 ?_
  refine e_getR fl_X3_9 (la_S0 hj) rfl dX3_addCode_13 ?_
  refine e_aload0 dX3_addCode_16 ?_
  refine e_getI fl_X3_15 (la_S0 hj) rfl dX3_addCode_17 ?_
  refine e_iload1 dX3_addCode_20 ?_
  refine e_iast (la_S1 hj) (⟨by omega, by omega⟩) dX3_addCode_21 ?_
  refine e_aload0 dX3_addCode_22 ?_
  refine e_dup dX3_addCode_23 rfl ?_
  refine e_getI fl_X3_15 (la_S0 hj) rfl dX3_addCode_24 ?_
  refine WW.ec (y := M (90 + 6 * j) 1) (by simp [up] <;> omega) ?_
  refine e_iconst dX3_addCode_27 rfl kc_1 ?_
  refine e_iadd dX3_addCode_28 (⟨by omega, by omega⟩) ?_
  refine e_putI fp_X3_15 (la_S0 hj) rfl dX3_addCode_29 ?_
  refine e_vret dX3_addCode_32 ?_
  exact ⟨rfl, rfl⟩
def addL0 (M : Mem) (j : Nat) (k f : Int) : Mem := up (up M (92 + 6 * j) k.toNat f) (93 + 6 * j) k.toNat (M (90 + 6 * j) 1)
def addQ0 (M : Mem) (j : Nat) (k : Int) : Mem := up (up M (94 + 6 * j) (M (90 + 6 * j) 6).toNat k) (90 + 6 * j) 6 (M (90 + 6 * j) 6 + 1)
/-- a law's clause -/
theorem ct_X3_addClauseL (hd : 1 ≤ d) (hj : j < 4) (hs : 0 ≤ M (90 + 6 * j) 6 ∧ M (90 + 6 * j) 6 < 24) {k f : Int} (hk : 0 ≤ k ∧ k < 4) : PV l w yX3_addClause cX3_addClause 3 d [vR (90 + 6 * j), vI k, vI f] M (addQ0 (addL0 M j k f) j k) := by
  refine MT.of [some (vR (90 + 6 * j)), some (vI k), some (vI f)] ⟨by decide, rfl⟩ rfl (Nat.le_of_ble_eq_true rfl) (fun hA hM => ?_)
  refine e_iload1 dX3_addClause_0 ?_
  refine e_if_lt (tgt := 26) dX3_addClause_1 (by decide) (fun h => absurd h (by omega)) (fun h1 => ?_)
  refine e_iload1 dX3_addClause_4 ?_
  refine e_iconst dX3_addClause_5 rfl kc_4 ?_
  refine e_icmp_ge (tgt := 26) dX3_addClause_6 (by decide) (fun h => absurd h (by omega)) (fun h6 => ?_)
  refine e_aload0 dX3_addClause_9 ?_
  refine e_getR fl_X3_19 (la_S0 hj) rfl dX3_addClause_10 ?_
  refine e_iload1 dX3_addClause_13 ?_
  refine e_iload2 dX3_addClause_14 ?_
  refine e_iast (la_S2 hj) (⟨by omega, by omega⟩) dX3_addClause_15 ?_
  refine e_aload0 dX3_addClause_16 ?_
  refine e_getR fl_X3_22 (la_S0 hj) rfl dX3_addClause_17 ?_
  refine e_iload1 dX3_addClause_20 ?_
  refine e_aload0 dX3_addClause_21 ?_
  refine e_getI fl_X3_15 (la_S0 hj) rfl dX3_addClause_22 ?_
  refine WW.ec (y := M (90 + 6 * j) 1) (by simp [up] <;> omega) ?_
  refine e_iast (la_S3 hj) (⟨by omega, by omega⟩) dX3_addClause_25 ?_
  refine e_aload0 dX3_addClause_26 ?_
  refine e_getI fl_X3_31 (la_S0 hj) rfl dX3_addClause_27 ?_
  refine WW.ec (y := M (90 + 6 * j) 6) (by simp [up] <;> omega) ?_
  refine e_bipush dX3_addClause_30 rfl kb_24 ?_
  refine e_icmp_ge (tgt := 55) dX3_addClause_32 (by decide) (fun h => absurd h (by omega)) (fun h32 => ?_)
  refine e_aload0 dX3_addClause_35 ?_
  refine e_getR fl_X3_25 (la_S0 hj) rfl dX3_addClause_36 ?_
  refine e_aload0 dX3_addClause_39 ?_
  refine e_getI fl_X3_31 (la_S0 hj) rfl dX3_addClause_40 ?_
  refine WW.ec (y := M (90 + 6 * j) 6) (by simp [up] <;> omega) ?_
  refine e_iload1 dX3_addClause_43 ?_
  refine e_iast (la_S4 hj) (⟨by omega, by omega⟩) dX3_addClause_44 ?_
  refine e_aload0 dX3_addClause_45 ?_
  refine e_dup dX3_addClause_46 rfl ?_
  refine e_getI fl_X3_31 (la_S0 hj) rfl dX3_addClause_47 ?_
  refine WW.ec (y := M (90 + 6 * j) 6) (by simp [up] <;> omega) ?_
  refine e_iconst dX3_addClause_50 rfl kc_1 ?_
  refine e_iadd dX3_addClause_51 (⟨by omega, by omega⟩) ?_
  refine e_putI fp_X3_31 (la_S0 hj) rfl dX3_addClause_52 ?_
  refine e_vret dX3_addClause_55 ?_
  have e : addL0 M j k f (90 + 6 * j) 6 = M (90 + 6 * j) 6 := by simp [addL0, up] <;> omega
  exact ⟨by unfold addQ0; rw [e]; rfl, rfl⟩
/-- a deed's -/
theorem ct_X3_addClauseD (hd : 1 ≤ d) (hj : j < 4) (hs : 0 ≤ M (90 + 6 * j) 6 ∧ M (90 + 6 * j) 6 < 24) {k f : Int} (hk : 4 ≤ k) : PV l w yX3_addClause cX3_addClause 3 d [vR (90 + 6 * j), vI k, vI f] M (addQ0 M j k) := by
  refine MT.of [some (vR (90 + 6 * j)), some (vI k), some (vI f)] ⟨by decide, rfl⟩ rfl (Nat.le_of_ble_eq_true rfl) (fun hA hM => ?_)
  refine e_iload1 dX3_addClause_0 ?_
  refine e_if_lt (tgt := 26) dX3_addClause_1 (by decide) (fun h => absurd h (by omega)) (fun h1 => ?_)
  refine e_iload1 dX3_addClause_4 ?_
  refine e_iconst dX3_addClause_5 rfl kc_4 ?_
  refine e_icmp_ge (tgt := 26) dX3_addClause_6 (by decide) (fun h6 => ?_) (fun h => absurd h (by omega))
  refine e_aload0 dX3_addClause_26 ?_
  refine e_getI fl_X3_31 (la_S0 hj) rfl dX3_addClause_27 ?_
  refine e_bipush dX3_addClause_30 rfl kb_24 ?_
  refine e_icmp_ge (tgt := 55) dX3_addClause_32 (by decide) (fun h => absurd h (by omega)) (fun h32 => ?_)
  refine e_aload0 dX3_addClause_35 ?_
  refine e_getR fl_X3_25 (la_S0 hj) rfl dX3_addClause_36 ?_
  refine e_aload0 dX3_addClause_39 ?_
  refine e_getI fl_X3_31 (la_S0 hj) rfl dX3_addClause_40 ?_
  refine e_iload1 dX3_addClause_43 ?_
  refine e_iast (la_S4 hj) (⟨by omega, by omega⟩) dX3_addClause_44 ?_
  refine e_aload0 dX3_addClause_45 ?_
  refine e_dup dX3_addClause_46 rfl ?_
  refine e_getI fl_X3_31 (la_S0 hj) rfl dX3_addClause_47 ?_
  refine WW.ec (y := M (90 + 6 * j) 6) (by simp [up] <;> omega) ?_
  refine e_iconst dX3_addClause_50 rfl kc_1 ?_
  refine e_iadd dX3_addClause_51 (⟨by omega, by omega⟩) ?_
  refine e_putI fp_X3_31 (la_S0 hj) rfl dX3_addClause_52 ?_
  refine e_vret dX3_addClause_55 ?_
  exact ⟨rfl, rfl⟩
theorem ct_X3_setNumber (hd : 1 ≤ d) (hj : j < 4) (hs : 0 ≤ M (90 + 6 * j) 6 ∧ M (90 + 6 * j) 6 < 24) {k v : Int} (hk : 0 ≤ k ∧ k < 3) : PV l w yX3_setNumber cX3_setNumber 4 d [vR (90 + 6 * j), vI k, vI v] M (up M (95 + 6 * j) (M (90 + 6 * j) 6 * 3 + k).toNat v) := by
  refine MT.of [some (vR (90 + 6 * j)), some (vI k), some (vI v), none] ⟨by decide, rfl⟩ rfl (Nat.le_of_ble_eq_true rfl) (fun hA hM => ?_)
  refine e_aload0 dX3_setNumber_0 ?_
  refine e_getI fl_X3_31 (la_S0 hj) rfl dX3_setNumber_1 ?_
  refine e_iconst dX3_setNumber_4 rfl kc_3 ?_
  refine e_imul dX3_setNumber_5 (⟨by omega, by omega⟩) ?_
  refine e_iload1 dX3_setNumber_6 ?_
  refine e_iadd dX3_setNumber_7 (⟨by omega, by omega⟩) ?_
  refine e_istore3 dX3_setNumber_8 rfl ?_
  refine e_iload3 dX3_setNumber_9 ?_
  refine e_if_lt (tgt := 29) dX3_setNumber_10 (by decide) (fun h => absurd h (by omega)) (fun h10 => ?_)
  refine e_iload3 dX3_setNumber_13 ?_
  refine e_aload0 dX3_setNumber_14 ?_
  refine e_getR fl_X3_28 (la_S0 hj) rfl dX3_setNumber_15 ?_
  refine e_alen (la_S5 hj) (by decide) (by decide) dX3_setNumber_18 ?_
  refine e_icmp_ge (tgt := 29) dX3_setNumber_19 (by decide) (fun h => absurd h (by omega)) (fun h19 => ?_)
  refine e_aload0 dX3_setNumber_22 ?_
  refine e_getR fl_X3_28 (la_S0 hj) rfl dX3_setNumber_23 ?_
  refine e_iload3 dX3_setNumber_26 ?_
  refine e_iload2 dX3_setNumber_27 ?_
  refine e_iast (la_S5 hj) (⟨by omega, by omega⟩) dX3_setNumber_28 ?_
  refine e_vret dX3_setNumber_29 ?_
  exact ⟨rfl, rfl⟩
theorem ct_X3_has (hd : 1 ≤ d) (hj : j < 4) {k : Int} : PZ l w yX3_has cX3_has 2 d [vR (90 + 6 * j), vI k] M (0 ≤ k ∧ k < 4 ∧ 0 < M (93 + 6 * j) k.toNat) := by
  refine MT.of [some (vR (90 + 6 * j)), some (vI k)] ⟨by decide, rfl⟩ rfl (Nat.le_of_ble_eq_true rfl) (fun hA hM => ?_)
  refine e_iload1 dX3_has_0 ?_
  refine e_if_lt (tgt := 22) dX3_has_1 (by decide) (fun h1 => ?_) (fun h1 => ?_)
  · refine e_iconst dX3_has_22 rfl kc_0 ?_
    refine e_zret dX3_has_23 (by decide) ?_
    exact ⟨rfl, Or.inr ⟨rfl, by omega⟩⟩
  · refine e_iload1 dX3_has_4 ?_
    refine e_iconst dX3_has_5 rfl kc_4 ?_
    refine e_icmp_ge (tgt := 22) dX3_has_6 (by decide) (fun h6 => ?_) (fun h6 => ?_)
    · refine e_iconst dX3_has_22 rfl kc_0 ?_
      refine e_zret dX3_has_23 (by decide) ?_
      exact ⟨rfl, Or.inr ⟨rfl, by omega⟩⟩
    · refine e_aload0 dX3_has_9 ?_
      refine e_getR fl_X3_22 (la_S0 hj) rfl dX3_has_10 ?_
      refine e_iload1 dX3_has_13 ?_
      refine e_iald (la_S3 hj) (⟨by omega, by omega⟩) dX3_has_14 ?_
      refine e_if_le (tgt := 22) dX3_has_15 (by decide) (fun h15 => ?_) (fun h15 => ?_)
      · refine e_iconst dX3_has_22 rfl kc_0 ?_
        refine e_zret dX3_has_23 (by decide) ?_
        exact ⟨rfl, Or.inr ⟨rfl, by omega⟩⟩
      · refine e_iconst dX3_has_18 rfl kc_1 ?_
        refine e_goto (tgt := 23) dX3_has_19 (by decide) ?_
        refine e_zret dX3_has_23 (by decide) ?_
        exact ⟨rfl, Or.inl ⟨rfl, by omega⟩⟩
theorem ct_X3_kindOf (hd : 1 ≤ d) (hj : j < 4) (hc : M (90 + 6 * j) 6 ≤ 24) {k : Int} (hk : 0 ≤ k ∧ k < M (90 + 6 * j) 6) : PI l w yX3_kindOf cX3_kindOf 2 d [vR (90 + 6 * j), vI k] M (M (94 + 6 * j) k.toNat) M := by
  refine MT.of [some (vR (90 + 6 * j)), some (vI k)] ⟨by decide, rfl⟩ rfl (Nat.le_of_ble_eq_true rfl) (fun hA hM => ?_)
  refine e_iload1 dX3_kindOf_0 ?_
  refine e_if_lt (tgt := 21) dX3_kindOf_1 (by decide) (fun h => absurd h (by omega)) (fun h1 => ?_)
  refine e_iload1 dX3_kindOf_4 ?_
  refine e_aload0 dX3_kindOf_5 ?_
  refine e_getI fl_X3_31 (la_S0 hj) rfl dX3_kindOf_6 ?_
  refine e_icmp_ge (tgt := 21) dX3_kindOf_9 (by decide) (fun h => absurd h (by omega)) (fun h9 => ?_)
  refine e_aload0 dX3_kindOf_12 ?_
  refine e_getR fl_X3_25 (la_S0 hj) rfl dX3_kindOf_13 ?_
  refine e_iload1 dX3_kindOf_16 ?_
  refine e_iald (la_S4 hj) (⟨by omega, by omega⟩) dX3_kindOf_17 ?_
  refine e_goto (tgt := 22) dX3_kindOf_18 (by decide) ?_
  refine e_iret dX3_kindOf_22 ?_
  exact ⟨rfl, rfl⟩
theorem ct_X3_number (hd : 1 ≤ d) (hj : j < 4) {c k : Int} (hc : 0 ≤ c ∧ c < 24) (hk : 0 ≤ k ∧ k < 3) : PI l w yX3_number cX3_number 4 d [vR (90 + 6 * j), vI c, vI k] M (M (95 + 6 * j) (c * 3 + k).toNat) M := by
  refine MT.of [some (vR (90 + 6 * j)), some (vI c), some (vI k), none] ⟨by decide, rfl⟩ rfl (Nat.le_of_ble_eq_true rfl) (fun hA hM => ?_)
  refine e_iload1 dX3_number_0 ?_
  refine e_iconst dX3_number_1 rfl kc_3 ?_
  refine e_imul dX3_number_2 (⟨by omega, by omega⟩) ?_
  refine e_iload2 dX3_number_3 ?_
  refine e_iadd dX3_number_4 (⟨by omega, by omega⟩) ?_
  refine e_istore3 dX3_number_5 rfl ?_
  refine e_iload3 dX3_number_6 ?_
  refine e_if_lt (tgt := 28) dX3_number_7 (by decide) (fun h => absurd h (by omega)) (fun h7 => ?_)
  refine e_iload3 dX3_number_10 ?_
  refine e_aload0 dX3_number_11 ?_
  refine e_getR fl_X3_28 (la_S0 hj) rfl dX3_number_12 ?_
  refine e_alen (la_S5 hj) (by decide) (by decide) dX3_number_15 ?_
  refine e_icmp_ge (tgt := 28) dX3_number_16 (by decide) (fun h => absurd h (by omega)) (fun h16 => ?_)
  refine e_aload0 dX3_number_19 ?_
  refine e_getR fl_X3_28 (la_S0 hj) rfl dX3_number_20 ?_
  refine e_iload3 dX3_number_23 ?_
  refine e_iald (la_S5 hj) (⟨by omega, by omega⟩) dX3_number_24 ?_
  refine e_goto (tgt := 29) dX3_number_25 (by decide) ?_
  refine e_iret dX3_number_29 ?_
  exact ⟨rfl, rfl⟩
end SCR
