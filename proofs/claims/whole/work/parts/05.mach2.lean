theorem inT0 : ∀ x ∈ wsX00, x ∈ TBL := by decide +kernel
theorem inT1 : ∀ x ∈ wsX10, x ∈ TBL := by decide +kernel
theorem inT2 : ∀ x ∈ wsX20, x ∈ TBL := by decide +kernel
theorem inT3 : ∀ x ∈ wsX30, x ∈ TBL := by decide +kernel
theorem inT4 : ∀ x ∈ wsX40, x ∈ TBL := by decide +kernel
theorem inT5 : ∀ x ∈ wsX50, x ∈ TBL := by decide +kernel
theorem inT6 : ∀ x ∈ wsX60, x ∈ TBL := by decide +kernel
theorem inT7 : ∀ x ∈ wsX70, x ∈ TBL := by decide +kernel
theorem inT8 : ∀ x ∈ wsX80, x ∈ TBL := by decide +kernel
theorem inT9 : ∀ x ∈ wsX90, x ∈ TBL := by decide +kernel
theorem CLok {ci : Nat} {C : String} {T : u_T} {N : Nat} (h : CL[ci]? = some (C, T, N)) : (∀ x ∈ u_ws C T N, x ∈ TBL) ∧ ∃ ty0 : Nat → FieldType, (∀ k, k < N → parseFieldDescriptor (T k).2.2.1 = some (ty0 k)) ∧ ∀ a, a < N → ∀ b, b < N → a ≠ b → (T a).2.1 ≠ (T b).2.1 := by
  have hlt : ci < 10 := (List.getElem?_eq_some_iff.mp h).1
  rcases (show ci = 0 ∨ ci = 1 ∨ ci = 2 ∨ ci = 3 ∨ ci = 4 ∨ ci = 5 ∨ ci = 6 ∨ ci = 7 ∨ ci = 8 ∨ ci = 9 by omega) with rfl | rfl | rfl | rfl | rfl | rfl | rfl | rfl | rfl | rfl
  · cases h; exact ⟨inT0, tyX0, tyX0_ok, nmX0⟩
  · cases h; exact ⟨inT1, tyX1, tyX1_ok, nmX1⟩
  · cases h; exact ⟨inT2, tyX2, tyX2_ok, nmX2⟩
  · cases h; exact ⟨inT3, tyX3, tyX3_ok, nmX3⟩
  · cases h; exact ⟨inT4, tyX4, tyX4_ok, nmX4⟩
  · cases h; exact ⟨inT5, tyX5, tyX5_ok, nmX5⟩
  · cases h; exact ⟨inT6, tyX6, tyX6_ok, nmX6⟩
  · cases h; exact ⟨inT7, tyX7, tyX7_ok, nmX7⟩
  · cases h; exact ⟨inT8, tyX8, tyX8_ok, nmX8⟩
  · cases h; exact ⟨inT9, tyX9, tyX9_ok, nmX9⟩
/-- a field's link in the pool of own: field k of class ci -/
def FL (own : String) (i ci k : Nat) : Prop := ∃ (C : String) (T : u_T) (N : Nat), CL[ci]? = some (C, T, N) ∧ k < N ∧ (T k).1 = C ∧ (Cond.fieldLink own i C (T k).2.1 (T k).2.2.1 ∈ TBL ∨ Cond.fieldLinkNest own i C (T k).2.1 (T k).2.2.1 "CandleEnds" ∈ NW)
/-- the same of a field that may be written, with its type -/
def FP (own : String) (i ci k : Nat) (ty : FieldType) : Prop := ∃ (C : String) (T : u_T) (N : Nat), CL[ci]? = some (C, T, N) ∧ k < N ∧ (T k).1 = C ∧ ((T k).2.2.2 = false ∧ parseFieldDescriptor (T k).2.2.1 = some ty) ∧ (Cond.fieldLink own i C (T k).2.1 (T k).2.2.1 ∈ TBL ∨ Cond.fieldLinkNest own i C (T k).2.1 (T k).2.2.1 "CandleEnds" ∈ NW)
theorem cof_f {w : Wd} {M : Mem} {o ci k fd : Nat} {fds : List Nat} (h : fds[k]? = some fd) : (fds.mapIdx (fun k fd => fv w M o k fd))[k]? = some (fv w M o k fd) := by
  rw [List.getElem?_mapIdx, h]
  rfl
theorem cof_set {w : Wd} {M : Mem} {o ci k fd : Nat} {fds : List Nat} {x : Int} (h : fds[k]? = some fd) : cof w (up M o k x) o (.inl (ci, fds)) = .inr (ci, (fds.mapIdx (fun k fd => fv w M o k fd)).set k (fv w (up M o k x) o k fd)) := by
  show (Sum.inr (ci, fds.mapIdx (fun k' fd => fv w (up M o k x) o k' fd)) : va_E) = _
  refine congrArg (fun z => (Sum.inr (ci, z) : va_E)) ?_
  apply List.ext_getElem?
  intro i
  rw [List.getElem?_set]
  by_cases hi : k = i
  · subst hi
    have hlt : k < (fds.mapIdx (fun k fd => fv w M o k fd)).length := by rw [List.length_mapIdx]; exact (List.getElem?_eq_some_iff.mp h).1
    simp only [if_true, hlt]
    rw [cof_f (ci := ci) h]
  · rw [if_neg hi, List.getElem?_mapIdx, List.getElem?_mapIdx]
    cases hf : fds[i]? with
    | none => rfl
    | some f =>
      simp only [Option.map_some]
      unfold fv
      rw [up_k (fun q => hi q.symm)]
theorem cof_i {w : Wd} {M : Mem} {o t n b sd : Nat} (h : t ≤ 2) : cof w M o (.inr (t, n, b, sd)) = .inl (w.2.2 t, n, .inl (fun k => Int32.ofInt (M o k))) := by
  show (Sum.inl _ : va_E) = _
  rw [if_pos h]
theorem cof_l {w : Wd} {M : Mem} {o n b sd : Nat} : cof w M o (.inr (3, n, b, sd)) = .inl (w.2.2 3, n, .inr (.inl (fun k => Int64.ofInt (M o k)))) := rfl
theorem cof_q {w : Wd} {M : Mem} {o t n b sd : Nat} (h : 3 < t) : cof w M o (.inr (t, n, b, sd)) = .inl (w.2.2 t, n, .inr (.inr (.inr (.inr (fun k => if k < n then some (w.1 (b + sd * k)) else none))))) := by
  show (Sum.inl _ : va_E) = _
  rw [if_neg (by omega), if_neg (by omega)]
theorem upd_i (M : Mem) (o j : Nat) (x : Int) : (fun k => Int32.ofInt (up M o j x o k)) = upd (fun k => Int32.ofInt (M o k)) j (Int32.ofInt x) := by
  funext k
  by_cases h : k = j
  · subst h; simp [up, upd]
  · simp [up, upd, h]
theorem upd_l (M : Mem) (o j : Nat) (x : Int) : (fun k => Int64.ofInt (up M o j x o k)) = vp_updL (fun k => Int64.ofInt (M o k)) j (Int64.ofInt x) := by
  funext k
  by_cases h : k = j
  · subst h; simp [up, vp_updL]
  · simp [up, vp_updL, h]
section MACH2
variable {l : Launch} {w : Wd} {own : String} {cc : ByteArray} {nL : Nat} {R : Room} {cs sl : Nat} {A : State → Nat → Prop} {Qf : List Frame → Array Value → State → State → Prop} {Ex : State → Array Value → Method → Prop} {pc : Nat} {L : List (Option MV)} {st : List MV} {M : Mem}
theorem e_getI {o ci f i : Nat} {fds : List Nat} (hw : FL own i ci f) (hl : lay[o]? = some (.inl (ci, fds))) (hf : fds[f]? = some (0)) (hd : decode cc pc = .ok (.getfield i, 3))
    (k : WW l w own cc nL R cs sl A Qf Ex (pc + 3) L (vI (M o f) :: st) M) : WW l w own cc nL R cs sl A Qf Ex pc L (vR o :: st) M := by
  intro p e s m args below meth c H locs ls hF hE hS hA hP hSS hM hL hst
  obtain ⟨C, T, N, h1, h2, h3, h4⟩ := hw
  have h5 : ∀ x, s.fieldFound? (T f).1 (T f).2.1 (T f).2.2.1 = some x → s.fieldFound? C (T f).2.1 (T f).2.2.1 = some x := fun x q => by rw [h3] at q; exact q
  have kk := k p e s m args below meth c H locs ls hF hE hS hA hP hSS hM hL (List.forall_mem_cons.mpr ⟨((hM o _ hl) f).1 hf, (fun v hv => hst v (List.mem_cons_of_mem _ hv))⟩)
  rcases h4 with h4 | h4
  · exact va_get hF.1 hF.2.1 hF.2.2.2.2 (CLok h1).1 hF.2.2.2.1 hS.2.1 hP o (world_get hl) h1 f h2 (hF.2.2.2.2 _ h4) h5 (cof_f (ci := ci) hf) hd kk
  · exact va_getN hF.1 hF.2.1 hF.2.2.2.2 (CLok h1).1 hF.2.2.2.1 hS.2.1 hP o (world_get hl) h1 f h2 (va_Nw.use rfl (hS.2.2.1 _ h4)) h5 (cof_f (ci := ci) hf) hd kk
theorem e_getL {o ci f i : Nat} {fds : List Nat} (hw : FL own i ci f) (hl : lay[o]? = some (.inl (ci, fds))) (hf : fds[f]? = some (1)) (hd : decode cc pc = .ok (.getfield i, 3))
    (k : WW l w own cc nL R cs sl A Qf Ex (pc + 3) L (vL (M o f) :: st) M) : WW l w own cc nL R cs sl A Qf Ex pc L (vR o :: st) M := by
  intro p e s m args below meth c H locs ls hF hE hS hA hP hSS hM hL hst
  obtain ⟨C, T, N, h1, h2, h3, h4⟩ := hw
  have h5 : ∀ x, s.fieldFound? (T f).1 (T f).2.1 (T f).2.2.1 = some x → s.fieldFound? C (T f).2.1 (T f).2.2.1 = some x := fun x q => by rw [h3] at q; exact q
  have kk := k p e s m args below meth c H locs ls hF hE hS hA hP hSS hM hL (List.forall_mem_cons.mpr ⟨((hM o _ hl) f).2 hf, (fun v hv => hst v (List.mem_cons_of_mem _ hv))⟩)
  rcases h4 with h4 | h4
  · exact va_get hF.1 hF.2.1 hF.2.2.2.2 (CLok h1).1 hF.2.2.2.1 hS.2.1 hP o (world_get hl) h1 f h2 (hF.2.2.2.2 _ h4) h5 (cof_f (ci := ci) hf) hd kk
  · exact va_getN hF.1 hF.2.1 hF.2.2.2.2 (CLok h1).1 hF.2.2.2.1 hS.2.1 hP o (world_get hl) h1 f h2 (va_Nw.use rfl (hS.2.2.1 _ h4)) h5 (cof_f (ci := ci) hf) hd kk
theorem e_getR {o ci f i : Nat} {fds : List Nat} {t : Nat} (hw : FL own i ci f) (hl : lay[o]? = some (.inl (ci, fds))) (hf : fds[f]? = some (t + 2)) (hd : decode cc pc = .ok (.getfield i, 3))
    (k : WW l w own cc nL R cs sl A Qf Ex (pc + 3) L (vR t :: st) M) : WW l w own cc nL R cs sl A Qf Ex pc L (vR o :: st) M := by
  intro p e s m args below meth c H locs ls hF hE hS hA hP hSS hM hL hst
  obtain ⟨C, T, N, h1, h2, h3, h4⟩ := hw
  have h5 : ∀ x, s.fieldFound? (T f).1 (T f).2.1 (T f).2.2.1 = some x → s.fieldFound? C (T f).2.1 (T f).2.2.1 = some x := fun x q => by rw [h3] at q; exact q
  have kk := k p e s m args below meth c H locs ls hF hE hS hA hP hSS hM hL (List.forall_mem_cons.mpr ⟨trivial, (fun v hv => hst v (List.mem_cons_of_mem _ hv))⟩)
  rcases h4 with h4 | h4
  · exact va_get hF.1 hF.2.1 hF.2.2.2.2 (CLok h1).1 hF.2.2.2.1 hS.2.1 hP o (world_get hl) h1 f h2 (hF.2.2.2.2 _ h4) h5 (cof_f (ci := ci) hf) hd kk
  · exact va_getN hF.1 hF.2.1 hF.2.2.2.2 (CLok h1).1 hF.2.2.2.1 hS.2.1 hP o (world_get hl) h1 f h2 (va_Nw.use rfl (hS.2.2.1 _ h4)) h5 (cof_f (ci := ci) hf) hd kk
theorem e_putI {o ci f i : Nat} {fds : List Nat} {x : Int} (hw : FP own i ci f .int) (hl : lay[o]? = some (.inl (ci, fds))) (hf : fds[f]? = some 0) (hd : decode cc pc = .ok (.putfield i, 3))
    (k : WW l w own cc nL R cs sl A Qf Ex (pc + 3) L st (up M o f x)) : WW l w own cc nL R cs sl A Qf Ex pc L (vI x :: vR o :: st) M := by
  intro p e s m args below meth c H locs ls hF hE hS hA hP hSS hM hL hst
  obtain ⟨C, T, N, h1, h2, h3, ⟨h6, h7⟩, h4⟩ := hw
  have h5 : ∀ x, s.fieldFound? (T f).1 (T f).2.1 (T f).2.2.1 = some x → s.fieldFound? C (T f).2.1 (T f).2.2.1 = some x := fun x q => by rw [h3] at q; exact q
  obtain ⟨h8, ty0, h9, h10⟩ := CLok h1
  have hlt : f < (fds.mapIdx (fun k fd => fv w M o k fd)).length := by rw [List.length_mapIdx]; exact (List.getElem?_eq_some_iff.mp hf).1
  have hq := world_up (w := w) (M := M) (k := f) (v := x) hl (cof_set hf)
  have hM' : RM (up M o f x) := hM.upF hl (fun _ => hst _ List.mem_cons_self) (fun q => by rw [hf] at q; cases q)
  have hv : fv w (up M o f x) o f 0 = tv w (vI x) := by unfold fv tv; simp only [up_s]
  rw [hv] at hq
  have kk : ∀ (H1 : Heap) (locs1 : List Loc), va_P w.2.1 CL ((world w M).set o (w.1 o, .inr (ci, (fds.mapIdx (fun k fd => fv w M o k fd)).set f (tv w (vI x))))) H1 → va_D (A s) ((world w M).set o (w.1 o, .inr (ci, (fds.mapIdx (fun k fd => fv w M o k fd)).set f (tv w (vI x))))) → va_S (A s) s.heap H1 locs1 → W p l e R s m args below meth c H1 locs1 cs sl (Qf below args s) (F0 m (pc + 3) ls (st.map (tv w))) :=
    fun H1 locs1 a1 _ a3 => k p e s m args below meth c H1 locs1 ls hF hE hS hA (by rw [hq]; exact a1) a3 hM' hL (fun v hv => hst v (List.mem_cons_of_mem _ (List.mem_cons_of_mem _ hv)))
  rcases h4 with h4 | h4
  · exact va_put hF.1 hF.2.1 hF.2.2.2.2 h8 ty0 h9 h10 hF.2.2.2.1 hS.2.1 hP (world_D hS.1 hA M) hSS o (world_get hl) h1 f h2 (hF.2.2.2.2 _ h4) h5 h6 h7 rfl rfl hlt hd kk
  · exact va_putN hF.1 hF.2.1 hF.2.2.2.2 h8 ty0 h9 h10 hF.2.2.2.1 hS.2.1 hP (world_D hS.1 hA M) hSS o (world_get hl) h1 f h2 (va_Nw.use rfl (hS.2.2.1 _ h4)) h5 h6 h7 rfl rfl hlt hd kk
theorem e_putZ {o ci f i : Nat} {fds : List Nat} {x : Int} (hw : FP own i ci f .boolean) (hl : lay[o]? = some (.inl (ci, fds))) (hf : fds[f]? = some 0) (hx : x = 0 ∨ x = 1) (hd : decode cc pc = .ok (.putfield i, 3))
    (k : WW l w own cc nL R cs sl A Qf Ex (pc + 3) L st (up M o f x)) : WW l w own cc nL R cs sl A Qf Ex pc L (vI x :: vR o :: st) M := by
  intro p e s m args below meth c H locs ls hF hE hS hA hP hSS hM hL hst
  obtain ⟨C, T, N, h1, h2, h3, ⟨h6, h7⟩, h4⟩ := hw
  have h5 : ∀ x, s.fieldFound? (T f).1 (T f).2.1 (T f).2.2.1 = some x → s.fieldFound? C (T f).2.1 (T f).2.2.1 = some x := fun x q => by rw [h3] at q; exact q
  obtain ⟨h8, ty0, h9, h10⟩ := CLok h1
  have hlt : f < (fds.mapIdx (fun k fd => fv w M o k fd)).length := by rw [List.length_mapIdx]; exact (List.getElem?_eq_some_iff.mp hf).1
  have hq := world_up (w := w) (M := M) (k := f) (v := x) hl (cof_set hf)
  have hM' : RM (up M o f x) := hM.upF hl (fun _ => hst _ List.mem_cons_self) (fun q => by rw [hf] at q; cases q)
  have hv : fv w (up M o f x) o f 0 = tv w (vI x) := by unfold fv tv; simp only [up_s]
  rw [hv] at hq
  have kk : ∀ (H1 : Heap) (locs1 : List Loc), va_P w.2.1 CL ((world w M).set o (w.1 o, .inr (ci, (fds.mapIdx (fun k fd => fv w M o k fd)).set f (tv w (vI x))))) H1 → va_D (A s) ((world w M).set o (w.1 o, .inr (ci, (fds.mapIdx (fun k fd => fv w M o k fd)).set f (tv w (vI x))))) → va_S (A s) s.heap H1 locs1 → W p l e R s m args below meth c H1 locs1 cs sl (Qf below args s) (F0 m (pc + 3) ls (st.map (tv w))) :=
    fun H1 locs1 a1 _ a3 => k p e s m args below meth c H1 locs1 ls hF hE hS hA (by rw [hq]; exact a1) a3 hM' hL (fun v hv => hst v (List.mem_cons_of_mem _ (List.mem_cons_of_mem _ hv)))
  rcases h4 with h4 | h4
  · exact va_put hF.1 hF.2.1 hF.2.2.2.2 h8 ty0 h9 h10 hF.2.2.2.1 hS.2.1 hP (world_D hS.1 hA M) hSS o (world_get hl) h1 f h2 (hF.2.2.2.2 _ h4) h5 h6 h7 (by rcases hx with rfl | rfl <;> rfl) (by rcases hx with rfl | rfl <;> rfl) hlt hd kk
  · exact va_putN hF.1 hF.2.1 hF.2.2.2.2 h8 ty0 h9 h10 hF.2.2.2.1 hS.2.1 hP (world_D hS.1 hA M) hSS o (world_get hl) h1 f h2 (va_Nw.use rfl (hS.2.2.1 _ h4)) h5 h6 h7 (by rcases hx with rfl | rfl <;> rfl) (by rcases hx with rfl | rfl <;> rfl) hlt hd kk
theorem e_putL {o ci f i : Nat} {fds : List Nat} {x : Int} (hw : FP own i ci f .long) (hl : lay[o]? = some (.inl (ci, fds))) (hf : fds[f]? = some 1) (hd : decode cc pc = .ok (.putfield i, 3))
    (k : WW l w own cc nL R cs sl A Qf Ex (pc + 3) L st (up M o f x)) : WW l w own cc nL R cs sl A Qf Ex pc L (vL x :: vR o :: st) M := by
  intro p e s m args below meth c H locs ls hF hE hS hA hP hSS hM hL hst
  obtain ⟨C, T, N, h1, h2, h3, ⟨h6, h7⟩, h4⟩ := hw
  have h5 : ∀ x, s.fieldFound? (T f).1 (T f).2.1 (T f).2.2.1 = some x → s.fieldFound? C (T f).2.1 (T f).2.2.1 = some x := fun x q => by rw [h3] at q; exact q
  obtain ⟨h8, ty0, h9, h10⟩ := CLok h1
  have hlt : f < (fds.mapIdx (fun k fd => fv w M o k fd)).length := by rw [List.length_mapIdx]; exact (List.getElem?_eq_some_iff.mp hf).1
  have hq := world_up (w := w) (M := M) (k := f) (v := x) hl (cof_set hf)
  have hM' : RM (up M o f x) := hM.upF hl (fun q => by rw [hf] at q; cases q) (fun _ => hst _ List.mem_cons_self)
  have hv : fv w (up M o f x) o f 1 = tv w (vL x) := by unfold fv tv; simp only [up_s]
  rw [hv] at hq
  have kk : ∀ (H1 : Heap) (locs1 : List Loc), va_P w.2.1 CL ((world w M).set o (w.1 o, .inr (ci, (fds.mapIdx (fun k fd => fv w M o k fd)).set f (tv w (vL x))))) H1 → va_D (A s) ((world w M).set o (w.1 o, .inr (ci, (fds.mapIdx (fun k fd => fv w M o k fd)).set f (tv w (vL x))))) → va_S (A s) s.heap H1 locs1 → W p l e R s m args below meth c H1 locs1 cs sl (Qf below args s) (F0 m (pc + 3) ls (st.map (tv w))) :=
    fun H1 locs1 a1 _ a3 => k p e s m args below meth c H1 locs1 ls hF hE hS hA (by rw [hq]; exact a1) a3 hM' hL (fun v hv => hst v (List.mem_cons_of_mem _ (List.mem_cons_of_mem _ hv)))
  rcases h4 with h4 | h4
  · exact va_put hF.1 hF.2.1 hF.2.2.2.2 h8 ty0 h9 h10 hF.2.2.2.1 hS.2.1 hP (world_D hS.1 hA M) hSS o (world_get hl) h1 f h2 (hF.2.2.2.2 _ h4) h5 h6 h7 rfl rfl hlt hd kk
  · exact va_putN hF.1 hF.2.1 hF.2.2.2.2 h8 ty0 h9 h10 hF.2.2.2.1 hS.2.1 hP (world_D hS.1 hA M) hSS o (world_get hl) h1 f h2 (va_Nw.use rfl (hS.2.2.1 _ h4)) h5 h6 h7 rfl rfl hlt hd kk
theorem e_iald {o n b sd : Nat} {i : Int} (hl : lay[o]? = some (.inr (0, n, b, sd))) (hi : 0 ≤ i ∧ i < (n : Int)) (hd : decode cc pc = .ok (.iaload, 1))
    (k : WW l w own cc nL R cs sl A Qf Ex (pc + 1) L (vI (M o i.toNat) :: st) M) : WW l w own cc nL R cs sl A Qf Ex pc L (vI i :: vR o :: st) M := by
  intro p e s m args below meth c H locs ls hF hE hS hA hP hSS hM hL hst
  have hx : inR (vI i) := hst _ List.mem_cons_self
  have hg := world_get (w := w) (M := M) hl
  rw [cof_i (by decide)] at hg
  refine va_iald hF.1 hF.2.1 hS.2.1 hP o 0 hg rfl (i32_nn hi.1 hi.2 hx) hd ?_
  rw [i32_cl hi.1 hx]
  exact k p e s m args below meth c H locs ls hF hE hS hA hP hSS hM hL (List.forall_mem_cons.mpr ⟨((hM o _ hl) i.toNat (by omega)).1 (by decide), (fun v hv => hst v (List.mem_cons_of_mem _ (List.mem_cons_of_mem _ hv)))⟩)
theorem e_bald {o n b sd : Nat} {i : Int} (hl : lay[o]? = some (.inr (1, n, b, sd))) (hi : 0 ≤ i ∧ i < (n : Int)) (hd : decode cc pc = .ok (.baload, 1))
    (k : WW l w own cc nL R cs sl A Qf Ex (pc + 1) L (vI (M o i.toNat) :: st) M) : WW l w own cc nL R cs sl A Qf Ex pc L (vI i :: vR o :: st) M := by
  intro p e s m args below meth c H locs ls hF hE hS hA hP hSS hM hL hst
  have hx : inR (vI i) := hst _ List.mem_cons_self
  have hg := world_get (w := w) (M := M) hl
  rw [cof_i (by decide)] at hg
  refine va_bald hF.1 hF.2.1 hS.2.1 hP o 1 hg rfl (i32_nn hi.1 hi.2 hx) hd ?_
  rw [i32_cl hi.1 hx]
  exact k p e s m args below meth c H locs ls hF hE hS hA hP hSS hM hL (List.forall_mem_cons.mpr ⟨((hM o _ hl) i.toNat (by omega)).1 (by decide), (fun v hv => hst v (List.mem_cons_of_mem _ (List.mem_cons_of_mem _ hv)))⟩)
theorem e_zald {o n b sd : Nat} {i : Int} (hl : lay[o]? = some (.inr (2, n, b, sd))) (hi : 0 ≤ i ∧ i < (n : Int)) (hd : decode cc pc = .ok (.baload, 1))
    (k : WW l w own cc nL R cs sl A Qf Ex (pc + 1) L (vI (M o i.toNat) :: st) M) : WW l w own cc nL R cs sl A Qf Ex pc L (vI i :: vR o :: st) M := by
  intro p e s m args below meth c H locs ls hF hE hS hA hP hSS hM hL hst
  have hx : inR (vI i) := hst _ List.mem_cons_self
  have hg := world_get (w := w) (M := M) hl
  rw [cof_i (by decide)] at hg
  refine va_zald hF.1 hF.2.1 hS.2.1 hP o 2 hg rfl (i32_nn hi.1 hi.2 hx) hd ?_
  rw [i32_cl hi.1 hx]
  exact k p e s m args below meth c H locs ls hF hE hS hA hP hSS hM hL (List.forall_mem_cons.mpr ⟨((hM o _ hl) i.toNat (by omega)).1 (by decide), (fun v hv => hst v (List.mem_cons_of_mem _ (List.mem_cons_of_mem _ hv)))⟩)
theorem e_lald {o n b sd : Nat} {i : Int} (hl : lay[o]? = some (.inr (3, n, b, sd))) (hi : 0 ≤ i ∧ i < (n : Int)) (hd : decode cc pc = .ok (.laload, 1))
    (k : WW l w own cc nL R cs sl A Qf Ex (pc + 1) L (vL (M o i.toNat) :: st) M) : WW l w own cc nL R cs sl A Qf Ex pc L (vI i :: vR o :: st) M := by
  intro p e s m args below meth c H locs ls hF hE hS hA hP hSS hM hL hst
  have hx : inR (vI i) := hst _ List.mem_cons_self
  have hg := world_get (w := w) (M := M) hl
  rw [cof_l] at hg
  refine va_lald hF.1 hF.2.1 hS.2.1 hP o 3 hg rfl (i32_nn hi.1 hi.2 hx) hd ?_
  rw [i32_cl hi.1 hx]
  exact k p e s m args below meth c H locs ls hF hE hS hA hP hSS hM hL (List.forall_mem_cons.mpr ⟨((hM o _ hl) i.toNat (by omega)).2 rfl, (fun v hv => hst v (List.mem_cons_of_mem _ (List.mem_cons_of_mem _ hv)))⟩)
theorem e_iast {o n b sd : Nat} {i x : Int} (hl : lay[o]? = some (.inr (0, n, b, sd))) (hi : 0 ≤ i ∧ i < (n : Int)) (hd : decode cc pc = .ok (.iastore, 1))
    (k : WW l w own cc nL R cs sl A Qf Ex (pc + 1) L st (up M o i.toNat x)) : WW l w own cc nL R cs sl A Qf Ex pc L (vI x :: vI i :: vR o :: st) M := by
  intro p e s m args below meth c H locs ls hF hE hS hA hP hSS hM hL hst
  have hix : inR (vI i) := hst _ (List.mem_cons_of_mem _ List.mem_cons_self)
  have hg := world_get (w := w) (M := M) hl
  rw [cof_i (by decide)] at hg
  have hc : cof w (up M o i.toNat x) o (.inr (0, n, b, sd)) = .inl (w.2.2 0, n, .inl (upd (fun k => Int32.ofInt (M o k)) i.toNat (Int32.ofInt x))) := by rw [cof_i (by decide), upd_i]
  have hq := world_up (w := w) (M := M) (k := i.toNat) (v := x) hl hc
  have hM' : RM (up M o i.toNat x) := hM.upA hl (fun _ => hst _ List.mem_cons_self) (fun q => by cases q)
  refine va_iast hF.1 hF.2.1 hS.2.1 hP (world_D hS.1 hA M) hSS o 0 hg rfl (i32_nn hi.1 hi.2 hix) hd (fun H1 locs1 a1 _ a3 => ?_)
  rw [i32_cl hi.1 hix] at a1
  exact k p e s m args below meth c H1 locs1 ls hF hE hS hA (by rw [hq]; exact a1) a3 hM' hL (fun v hv => hst v (List.mem_cons_of_mem _ (List.mem_cons_of_mem _ (List.mem_cons_of_mem _ hv))))
theorem e_bast {o n b sd : Nat} {i x : Int} (hl : lay[o]? = some (.inr (1, n, b, sd))) (hi : 0 ≤ i ∧ i < (n : Int)) (hx : -128 ≤ x ∧ x ≤ 127) (hd : decode cc pc = .ok (.bastore, 1))
    (k : WW l w own cc nL R cs sl A Qf Ex (pc + 1) L st (up M o i.toNat x)) : WW l w own cc nL R cs sl A Qf Ex pc L (vI x :: vI i :: vR o :: st) M := by
  intro p e s m args below meth c H locs ls hF hE hS hA hP hSS hM hL hst
  have hn : vp_nar .byte (Int32.ofInt x) = Int32.ofInt x := by
    have h8 : inR (vI x) := hst _ List.mem_cons_self
    rw [vp_nar_byte, ← Int32.toInt_inj, Int8.toInt_toInt32, Int32.toInt_toInt8, i32_to h8]
    exact Int.bmod_eq_of_le_mul_two (by omega) (by omega)
  have hix : inR (vI i) := hst _ (List.mem_cons_of_mem _ List.mem_cons_self)
  have hg := world_get (w := w) (M := M) hl
  rw [cof_i (by decide)] at hg
  have hc : cof w (up M o i.toNat x) o (.inr (1, n, b, sd)) = .inl (w.2.2 1, n, .inl (upd (fun k => Int32.ofInt (M o k)) i.toNat (Int32.ofInt x))) := by rw [cof_i (by decide), upd_i]
  have hq := world_up (w := w) (M := M) (k := i.toNat) (v := x) hl hc
  have hM' : RM (up M o i.toNat x) := hM.upA hl (fun _ => hst _ List.mem_cons_self) (fun q => by cases q)
  refine va_bast hF.1 hF.2.1 hS.2.1 hP (world_D hS.1 hA M) hSS o 1 hg rfl (i32_nn hi.1 hi.2 hix) hd (fun H1 locs1 a1 _ a3 => ?_)
  rw [i32_cl hi.1 hix, hn] at a1
  exact k p e s m args below meth c H1 locs1 ls hF hE hS hA (by rw [hq]; exact a1) a3 hM' hL (fun v hv => hst v (List.mem_cons_of_mem _ (List.mem_cons_of_mem _ (List.mem_cons_of_mem _ hv))))
theorem e_zast {o n b sd : Nat} {i x : Int} (hl : lay[o]? = some (.inr (2, n, b, sd))) (hi : 0 ≤ i ∧ i < (n : Int)) (hx : x = 0 ∨ x = 1) (hd : decode cc pc = .ok (.bastore, 1))
    (k : WW l w own cc nL R cs sl A Qf Ex (pc + 1) L st (up M o i.toNat x)) : WW l w own cc nL R cs sl A Qf Ex pc L (vI x :: vI i :: vR o :: st) M := by
  intro p e s m args below meth c H locs ls hF hE hS hA hP hSS hM hL hst
  have hn : vp_nar .boolean (Int32.ofInt x) = Int32.ofInt x := by rcases hx with rfl | rfl <;> rfl
  have hix : inR (vI i) := hst _ (List.mem_cons_of_mem _ List.mem_cons_self)
  have hg := world_get (w := w) (M := M) hl
  rw [cof_i (by decide)] at hg
  have hc : cof w (up M o i.toNat x) o (.inr (2, n, b, sd)) = .inl (w.2.2 2, n, .inl (upd (fun k => Int32.ofInt (M o k)) i.toNat (Int32.ofInt x))) := by rw [cof_i (by decide), upd_i]
  have hq := world_up (w := w) (M := M) (k := i.toNat) (v := x) hl hc
  have hM' : RM (up M o i.toNat x) := hM.upA hl (fun _ => hst _ List.mem_cons_self) (fun q => by cases q)
  refine va_zast hF.1 hF.2.1 hS.2.1 hP (world_D hS.1 hA M) hSS o 2 hg rfl (i32_nn hi.1 hi.2 hix) hd (fun H1 locs1 a1 _ a3 => ?_)
  rw [i32_cl hi.1 hix, hn] at a1
  exact k p e s m args below meth c H1 locs1 ls hF hE hS hA (by rw [hq]; exact a1) a3 hM' hL (fun v hv => hst v (List.mem_cons_of_mem _ (List.mem_cons_of_mem _ (List.mem_cons_of_mem _ hv))))
theorem e_last {o n b sd : Nat} {i x : Int} (hl : lay[o]? = some (.inr (3, n, b, sd))) (hi : 0 ≤ i ∧ i < (n : Int)) (hd : decode cc pc = .ok (.lastore, 1))
    (k : WW l w own cc nL R cs sl A Qf Ex (pc + 1) L st (up M o i.toNat x)) : WW l w own cc nL R cs sl A Qf Ex pc L (vL x :: vI i :: vR o :: st) M := by
  intro p e s m args below meth c H locs ls hF hE hS hA hP hSS hM hL hst
  have hix : inR (vI i) := hst _ (List.mem_cons_of_mem _ List.mem_cons_self)
  have hg := world_get (w := w) (M := M) hl
  rw [cof_l] at hg
  have hc : cof w (up M o i.toNat x) o (.inr (3, n, b, sd)) = .inl (w.2.2 3, n, .inr (.inl (vp_updL (fun k => Int64.ofInt (M o k)) i.toNat (Int64.ofInt x)))) := by rw [cof_l, upd_l]
  have hq := world_up (w := w) (M := M) (k := i.toNat) (v := x) hl hc
  have hM' : RM (up M o i.toNat x) := hM.upA hl (fun q => absurd q (by decide)) (fun _ => hst _ List.mem_cons_self)
  refine va_last hF.1 hF.2.1 hS.2.1 hP (world_D hS.1 hA M) hSS o 3 hg rfl (i32_nn hi.1 hi.2 hix) hd (fun H1 locs1 a1 _ a3 => ?_)
  rw [i32_cl hi.1 hix] at a1
  exact k p e s m args below meth c H1 locs1 ls hF hE hS hA (by rw [hq]; exact a1) a3 hM' hL (fun v hv => hst v (List.mem_cons_of_mem _ (List.mem_cons_of_mem _ (List.mem_cons_of_mem _ hv))))
theorem e_aaldS {o n b sd : Nat} {i : Int} (hl : lay[o]? = some (.inr (4, n, b, sd))) (hi : 0 ≤ i ∧ i < (n : Int)) (hd : decode cc pc = .ok (.aaload, 1))
    (k : WW l w own cc nL R cs sl A Qf Ex (pc + 1) L (vR (b + sd * i.toNat) :: st) M) : WW l w own cc nL R cs sl A Qf Ex pc L (vI i :: vR o :: st) M := by
  intro p e s m args below meth c H locs ls hF hE hS hA hP hSS hM hL hst
  have hx : inR (vI i) := hst _ List.mem_cons_self
  have hg := world_get (w := w) (M := M) hl
  rw [cof_q (by decide)] at hg
  have hin := i32_nn hi.1 hi.2 hx
  have hlt : (Int32.ofInt i).toNatClampNeg < n := Nat.not_le.mp fun q => hin (Or.inr q)
  have hlt2 : i.toNat < n := by rw [i32_cl hi.1 hx] at hlt; exact hlt
  refine W.aald (v := tv w (vR (b + sd * i.toNat))) (ty := .object "CandleEnds$Script") hF.1 hF.2.1 (hP o _ hg) ((hS.2.1.2 4 _ rfl).1 n (fun j => va_rf (if j < n then some (w.1 (b + sd * j)) else none))) rfl (fun q => by cases q) (by show ¬ (_ ∨ (arrV _ _ _).slots.size ≤ _); rw [arrV_size]; exact hin) (by show (arrV _ _ _).slots[_]? = _; rw [arrV_read _ _ hlt, i32_cl hi.1 hx]; show some (va_rf (if i.toNat < n then some (w.1 (b + sd * i.toNat)) else none)) = _; rw [if_pos hlt2]; rfl) rfl rfl hd ?_
  exact k p e s m args below meth c H locs ls hF hE hS hA hP hSS hM hL (List.forall_mem_cons.mpr ⟨trivial, (fun v hv => hst v (List.mem_cons_of_mem _ (List.mem_cons_of_mem _ hv)))⟩)
theorem e_aaldR {o n b sd : Nat} {i : Int} (hl : lay[o]? = some (.inr (5, n, b, sd))) (hi : 0 ≤ i ∧ i < (n : Int)) (hd : decode cc pc = .ok (.aaload, 1))
    (k : WW l w own cc nL R cs sl A Qf Ex (pc + 1) L (vR (b + sd * i.toNat) :: st) M) : WW l w own cc nL R cs sl A Qf Ex pc L (vI i :: vR o :: st) M := by
  intro p e s m args below meth c H locs ls hF hE hS hA hP hSS hM hL hst
  have hx : inR (vI i) := hst _ List.mem_cons_self
  have hg := world_get (w := w) (M := M) hl
  rw [cof_q (by decide)] at hg
  have hin := i32_nn hi.1 hi.2 hx
  have hlt : (Int32.ofInt i).toNatClampNeg < n := Nat.not_le.mp fun q => hin (Or.inr q)
  have hlt2 : i.toNat < n := by rw [i32_cl hi.1 hx] at hlt; exact hlt
  refine W.aald (v := tv w (vR (b + sd * i.toNat))) (ty := .array .int) hF.1 hF.2.1 (hP o _ hg) ((hS.2.1.2 5 _ rfl).1 n (fun j => va_rf (if j < n then some (w.1 (b + sd * j)) else none))) rfl (fun q => by cases q) (by show ¬ (_ ∨ (arrV _ _ _).slots.size ≤ _); rw [arrV_size]; exact hin) (by show (arrV _ _ _).slots[_]? = _; rw [arrV_read _ _ hlt, i32_cl hi.1 hx]; show some (va_rf (if i.toNat < n then some (w.1 (b + sd * i.toNat)) else none)) = _; rw [if_pos hlt2]; rfl) rfl rfl hd ?_
  exact k p e s m args below meth c H locs ls hF hE hS hA hP hSS hM hL (List.forall_mem_cons.mpr ⟨trivial, (fun v hv => hst v (List.mem_cons_of_mem _ (List.mem_cons_of_mem _ hv)))⟩)
theorem e_alen {o t n b sd : Nat} (hl : lay[o]? = some (.inr (t, n, b, sd))) (ht : t < 6) (hn : n < 2147483648) (hd : decode cc pc = .ok (.arraylength, 1))
    (k : WW l w own cc nL R cs sl A Qf Ex (pc + 1) L (vI (n : Int) :: st) M) : WW l w own cc nL R cs sl A Qf Ex pc L (vR o :: st) M := by
  intro p e s m args below meth c H locs ls hF hE hS hA hP hSS hM hL hst
  have hg : ∃ z : vp_A, (world w M)[o]? = some (w.1 o, .inl (w.2.2 t, z)) ∧ z.1 = n := ⟨_, world_get hl, rfl⟩
  obtain ⟨z, hg, hz⟩ := hg
  have hty : ∃ ty, (tys w)[t]? = some (w.2.2 t, ty) := by
    rcases (show t = 0 ∨ t = 1 ∨ t = 2 ∨ t = 3 ∨ t = 4 ∨ t = 5 by omega) with rfl | rfl | rfl | rfl | rfl | rfl <;> exact ⟨_, rfl⟩
  obtain ⟨ty, hty⟩ := hty
  refine va_alen (v := Int32.ofInt (n : Int)) hF.1 hF.2.1 hS.2.1 hP o t hg hty (by rw [hz]; exact (Int32.ofInt_eq_ofNat).symm) hd ?_
  exact k p e s m args below meth c H locs ls hF hE hS hA hP hSS hM hL (List.forall_mem_cons.mpr ⟨⟨by omega, by omega⟩, (fun v hv => hst v (List.mem_cons_of_mem _ hv))⟩)
end MACH2
