abbrev PZ (l : Launch) (w : Wd) (y : MethodName) (bytes : ByteArray) (maxL d : Nat) (as : List MV) (M : Mem) (c : Prop) : Prop := MT l w y bytes maxL (some .boolean) d as M (fun r M' => M' = M ∧ ((r = some (vI 1) ∧ c) ∨ (r = some (vI 0) ∧ ¬ c)))
abbrev PI (l : Launch) (w : Wd) (y : MethodName) (bytes : ByteArray) (maxL d : Nat) (as : List MV) (M : Mem) (x : Int) (M1 : Mem) : Prop := MT l w y bytes maxL (some .int) d as M (fun r M' => M' = M1 ∧ r = some (vI x))
abbrev PL (l : Launch) (w : Wd) (y : MethodName) (bytes : ByteArray) (maxL d : Nat) (as : List MV) (M : Mem) (x : Int) (M1 : Mem) : Prop := MT l w y bytes maxL (some .long) d as M (fun r M' => M' = M1 ∧ r = some (vL x))
abbrev PV (l : Launch) (w : Wd) (y : MethodName) (bytes : ByteArray) (maxL d : Nat) (as : List MV) (M : Mem) (M1 : Mem) : Prop := MT l w y bytes maxL none d as M (fun r M' => M' = M1 ∧ r = none)
abbrev GI (l : Launch) (w : Wd) (y : MethodName) (bytes : ByteArray) (maxL : Nat) (rt : FieldType) (d : Nat) (as : List MV) (M : Mem) (P : Int → Mem → Prop) : Prop := MT l w y bytes maxL (some rt) d as M (fun r M' => ∃ x, r = some (vI x) ∧ P x M')
abbrev GL (l : Launch) (w : Wd) (y : MethodName) (bytes : ByteArray) (maxL d : Nat) (as : List MV) (M : Mem) (P : Int → Mem → Prop) : Prop := MT l w y bytes maxL (some .long) d as M (fun r M' => ∃ x, r = some (vL x) ∧ P x M')
abbrev GV (l : Launch) (w : Wd) (y : MethodName) (bytes : ByteArray) (maxL d : Nat) (as : List MV) (M : Mem) (P : Mem → Prop) : Prop := MT l w y bytes maxL none d as M (fun r M' => r = none ∧ P M')
section CALL3
variable {l : Launch} {w : Wd} {own : String} {cc : ByteArray} {nL : Nat} {R : Room} {cs sl : Nat} {A : State → Nat → Prop} {Qf : List Frame → Array Value → State → State → Prop} {Ex : State → Array Value → Method → Prop} {pc : Nat} {L : List (Option MV)} {st : List MV} {M : Mem}
theorem e_cVZ {y : MethodName} {bytes : ByteArray} {maxL n i d o ci N : Nat} {fds : List Nat} {T : u_T} {as : List MV} {st0 : List MV} {c : Prop} (hM : PZ l w y bytes maxL d (vR o :: as) M c) (hY : CY y bytes maxL (some .boolean) n) (hV : CV y) (hlk : Cond.methodLink own i y ∈ TBL) (hl : lay[o]? = some (.inl (ci, fds))) (hc : CL[ci]? = some (y.cls, T, N)) (hn : as.length = n) (hs0 : st0 = as.reverse ++ vR o :: st) (hR : ROk R cs sl d maxL) (hwt : wt st ≤ 8) (hd : decode cc pc = .ok (.invokevirtual i, 3))
    (k1 : c → WW l w own cc nL R cs sl A Qf Ex (pc + 3) L (vI 1 :: st) M) (k0 : ¬ c → WW l w own cc nL R cs sl A Qf Ex (pc + 3) L (vI 0 :: st) M) : WW l w own cc nL R cs sl A Qf Ex pc L st0 M :=
  e_callV hM hY hV hlk hl hc hn hs0 hR hwt hd (fun r M9 hq => by obtain ⟨rfl, ⟨rfl, hc9⟩ | ⟨rfl, hc9⟩⟩ := hq; exact k1 hc9; exact k0 hc9)
theorem e_cVI {y : MethodName} {bytes : ByteArray} {maxL n i d o ci N : Nat} {fds : List Nat} {T : u_T} {as : List MV} {st0 : List MV} {x : Int} {M1 : Mem} (hM : PI l w y bytes maxL d (vR o :: as) M x M1) (hY : CY y bytes maxL (some .int) n) (hV : CV y) (hlk : Cond.methodLink own i y ∈ TBL) (hl : lay[o]? = some (.inl (ci, fds))) (hc : CL[ci]? = some (y.cls, T, N)) (hn : as.length = n) (hs0 : st0 = as.reverse ++ vR o :: st) (hR : ROk R cs sl d maxL) (hwt : wt st ≤ 8) (hd : decode cc pc = .ok (.invokevirtual i, 3))
    (k : WW l w own cc nL R cs sl A Qf Ex (pc + 3) L (vI x :: st) M1) : WW l w own cc nL R cs sl A Qf Ex pc L st0 M :=
  e_callV hM hY hV hlk hl hc hn hs0 hR hwt hd (fun r M9 hq => by obtain ⟨rfl, rfl⟩ := hq; exact k)
theorem e_cVL {y : MethodName} {bytes : ByteArray} {maxL n i d o ci N : Nat} {fds : List Nat} {T : u_T} {as : List MV} {st0 : List MV} {x : Int} {M1 : Mem} (hM : PL l w y bytes maxL d (vR o :: as) M x M1) (hY : CY y bytes maxL (some .long) n) (hV : CV y) (hlk : Cond.methodLink own i y ∈ TBL) (hl : lay[o]? = some (.inl (ci, fds))) (hc : CL[ci]? = some (y.cls, T, N)) (hn : as.length = n) (hs0 : st0 = as.reverse ++ vR o :: st) (hR : ROk R cs sl d maxL) (hwt : wt st ≤ 8) (hd : decode cc pc = .ok (.invokevirtual i, 3))
    (k : WW l w own cc nL R cs sl A Qf Ex (pc + 3) L (vL x :: st) M1) : WW l w own cc nL R cs sl A Qf Ex pc L st0 M :=
  e_callV hM hY hV hlk hl hc hn hs0 hR hwt hd (fun r M9 hq => by obtain ⟨rfl, rfl⟩ := hq; exact k)
theorem e_cVV {y : MethodName} {bytes : ByteArray} {maxL n i d o ci N : Nat} {fds : List Nat} {T : u_T} {as : List MV} {st0 : List MV} {M1 : Mem} (hM : PV l w y bytes maxL d (vR o :: as) M M1) (hY : CY y bytes maxL none n) (hV : CV y) (hlk : Cond.methodLink own i y ∈ TBL) (hl : lay[o]? = some (.inl (ci, fds))) (hc : CL[ci]? = some (y.cls, T, N)) (hn : as.length = n) (hs0 : st0 = as.reverse ++ vR o :: st) (hR : ROk R cs sl d maxL) (hwt : wt st ≤ 8) (hd : decode cc pc = .ok (.invokevirtual i, 3))
    (k : WW l w own cc nL R cs sl A Qf Ex (pc + 3) L st M1) : WW l w own cc nL R cs sl A Qf Ex pc L st0 M :=
  e_callV hM hY hV hlk hl hc hn hs0 hR hwt hd (fun r M9 hq => by obtain ⟨rfl, rfl⟩ := hq; exact k)
theorem e_cVGI {y : MethodName} {bytes : ByteArray} {maxL n i d o ci N : Nat} {fds : List Nat} {T : u_T} {as : List MV} {st0 : List MV} {rt : FieldType} {P : Int → Mem → Prop} (hM : GI l w y bytes maxL rt d (vR o :: as) M P) (hY : CY y bytes maxL (some rt) n) (hV : CV y) (hlk : Cond.methodLink own i y ∈ TBL) (hl : lay[o]? = some (.inl (ci, fds))) (hc : CL[ci]? = some (y.cls, T, N)) (hn : as.length = n) (hs0 : st0 = as.reverse ++ vR o :: st) (hR : ROk R cs sl d maxL) (hwt : wt st ≤ 8) (hd : decode cc pc = .ok (.invokevirtual i, 3))
    (k : ∀ x M1, P x M1 → WW l w own cc nL R cs sl A Qf Ex (pc + 3) L (vI x :: st) M1) : WW l w own cc nL R cs sl A Qf Ex pc L st0 M :=
  e_callV hM hY hV hlk hl hc hn hs0 hR hwt hd (fun r M9 hq => by obtain ⟨x, rfl, hp⟩ := hq; exact k x M9 hp)
theorem e_cVGL {y : MethodName} {bytes : ByteArray} {maxL n i d o ci N : Nat} {fds : List Nat} {T : u_T} {as : List MV} {st0 : List MV} {P : Int → Mem → Prop} (hM : GL l w y bytes maxL d (vR o :: as) M P) (hY : CY y bytes maxL (some .long) n) (hV : CV y) (hlk : Cond.methodLink own i y ∈ TBL) (hl : lay[o]? = some (.inl (ci, fds))) (hc : CL[ci]? = some (y.cls, T, N)) (hn : as.length = n) (hs0 : st0 = as.reverse ++ vR o :: st) (hR : ROk R cs sl d maxL) (hwt : wt st ≤ 8) (hd : decode cc pc = .ok (.invokevirtual i, 3))
    (k : ∀ x M1, P x M1 → WW l w own cc nL R cs sl A Qf Ex (pc + 3) L (vL x :: st) M1) : WW l w own cc nL R cs sl A Qf Ex pc L st0 M :=
  e_callV hM hY hV hlk hl hc hn hs0 hR hwt hd (fun r M9 hq => by obtain ⟨x, rfl, hp⟩ := hq; exact k x M9 hp)
theorem e_cVGV {y : MethodName} {bytes : ByteArray} {maxL n i d o ci N : Nat} {fds : List Nat} {T : u_T} {as : List MV} {st0 : List MV} {P : Mem → Prop} (hM : GV l w y bytes maxL d (vR o :: as) M P) (hY : CY y bytes maxL none n) (hV : CV y) (hlk : Cond.methodLink own i y ∈ TBL) (hl : lay[o]? = some (.inl (ci, fds))) (hc : CL[ci]? = some (y.cls, T, N)) (hn : as.length = n) (hs0 : st0 = as.reverse ++ vR o :: st) (hR : ROk R cs sl d maxL) (hwt : wt st ≤ 8) (hd : decode cc pc = .ok (.invokevirtual i, 3))
    (k : ∀ M1, P M1 → WW l w own cc nL R cs sl A Qf Ex (pc + 3) L st M1) : WW l w own cc nL R cs sl A Qf Ex pc L st0 M :=
  e_callV hM hY hV hlk hl hc hn hs0 hR hwt hd (fun r M9 hq => by obtain ⟨rfl, hp⟩ := hq; exact k M9 hp)
theorem e_cSZ {y : MethodName} {bytes : ByteArray} {maxL n i d : Nat} {as : List MV} {st0 : List MV} {c : Prop} (hM : PZ l w y bytes maxL d as M c) (hY : CY y bytes maxL (some .boolean) n) (hV : Cond.static y ∈ TBL) (hlk : Cond.methodLink own i y ∈ TBL) (hn : as.length = n) (hs0 : st0 = as.reverse ++ st) (hR : ROk R cs sl d maxL) (hwt : wt st ≤ 8) (hd : decode cc pc = .ok (.invokestatic i, 3))
    (k1 : c → WW l w own cc nL R cs sl A Qf Ex (pc + 3) L (vI 1 :: st) M) (k0 : ¬ c → WW l w own cc nL R cs sl A Qf Ex (pc + 3) L (vI 0 :: st) M) : WW l w own cc nL R cs sl A Qf Ex pc L st0 M :=
  e_callS hM hY hV hlk hn hs0 hR hwt hd (fun r M9 hq => by obtain ⟨rfl, ⟨rfl, hc9⟩ | ⟨rfl, hc9⟩⟩ := hq; exact k1 hc9; exact k0 hc9)
theorem e_cSI {y : MethodName} {bytes : ByteArray} {maxL n i d : Nat} {as : List MV} {st0 : List MV} {x : Int} {M1 : Mem} (hM : PI l w y bytes maxL d as M x M1) (hY : CY y bytes maxL (some .int) n) (hV : Cond.static y ∈ TBL) (hlk : Cond.methodLink own i y ∈ TBL) (hn : as.length = n) (hs0 : st0 = as.reverse ++ st) (hR : ROk R cs sl d maxL) (hwt : wt st ≤ 8) (hd : decode cc pc = .ok (.invokestatic i, 3))
    (k : WW l w own cc nL R cs sl A Qf Ex (pc + 3) L (vI x :: st) M1) : WW l w own cc nL R cs sl A Qf Ex pc L st0 M :=
  e_callS hM hY hV hlk hn hs0 hR hwt hd (fun r M9 hq => by obtain ⟨rfl, rfl⟩ := hq; exact k)
theorem e_cSL {y : MethodName} {bytes : ByteArray} {maxL n i d : Nat} {as : List MV} {st0 : List MV} {x : Int} {M1 : Mem} (hM : PL l w y bytes maxL d as M x M1) (hY : CY y bytes maxL (some .long) n) (hV : Cond.static y ∈ TBL) (hlk : Cond.methodLink own i y ∈ TBL) (hn : as.length = n) (hs0 : st0 = as.reverse ++ st) (hR : ROk R cs sl d maxL) (hwt : wt st ≤ 8) (hd : decode cc pc = .ok (.invokestatic i, 3))
    (k : WW l w own cc nL R cs sl A Qf Ex (pc + 3) L (vL x :: st) M1) : WW l w own cc nL R cs sl A Qf Ex pc L st0 M :=
  e_callS hM hY hV hlk hn hs0 hR hwt hd (fun r M9 hq => by obtain ⟨rfl, rfl⟩ := hq; exact k)
theorem e_cSV {y : MethodName} {bytes : ByteArray} {maxL n i d : Nat} {as : List MV} {st0 : List MV} {M1 : Mem} (hM : PV l w y bytes maxL d as M M1) (hY : CY y bytes maxL none n) (hV : Cond.static y ∈ TBL) (hlk : Cond.methodLink own i y ∈ TBL) (hn : as.length = n) (hs0 : st0 = as.reverse ++ st) (hR : ROk R cs sl d maxL) (hwt : wt st ≤ 8) (hd : decode cc pc = .ok (.invokestatic i, 3))
    (k : WW l w own cc nL R cs sl A Qf Ex (pc + 3) L st M1) : WW l w own cc nL R cs sl A Qf Ex pc L st0 M :=
  e_callS hM hY hV hlk hn hs0 hR hwt hd (fun r M9 hq => by obtain ⟨rfl, rfl⟩ := hq; exact k)
theorem e_cSGI {y : MethodName} {bytes : ByteArray} {maxL n i d : Nat} {as : List MV} {st0 : List MV} {rt : FieldType} {P : Int → Mem → Prop} (hM : GI l w y bytes maxL rt d as M P) (hY : CY y bytes maxL (some rt) n) (hV : Cond.static y ∈ TBL) (hlk : Cond.methodLink own i y ∈ TBL) (hn : as.length = n) (hs0 : st0 = as.reverse ++ st) (hR : ROk R cs sl d maxL) (hwt : wt st ≤ 8) (hd : decode cc pc = .ok (.invokestatic i, 3))
    (k : ∀ x M1, P x M1 → WW l w own cc nL R cs sl A Qf Ex (pc + 3) L (vI x :: st) M1) : WW l w own cc nL R cs sl A Qf Ex pc L st0 M :=
  e_callS hM hY hV hlk hn hs0 hR hwt hd (fun r M9 hq => by obtain ⟨x, rfl, hp⟩ := hq; exact k x M9 hp)
theorem e_cSGL {y : MethodName} {bytes : ByteArray} {maxL n i d : Nat} {as : List MV} {st0 : List MV} {P : Int → Mem → Prop} (hM : GL l w y bytes maxL d as M P) (hY : CY y bytes maxL (some .long) n) (hV : Cond.static y ∈ TBL) (hlk : Cond.methodLink own i y ∈ TBL) (hn : as.length = n) (hs0 : st0 = as.reverse ++ st) (hR : ROk R cs sl d maxL) (hwt : wt st ≤ 8) (hd : decode cc pc = .ok (.invokestatic i, 3))
    (k : ∀ x M1, P x M1 → WW l w own cc nL R cs sl A Qf Ex (pc + 3) L (vL x :: st) M1) : WW l w own cc nL R cs sl A Qf Ex pc L st0 M :=
  e_callS hM hY hV hlk hn hs0 hR hwt hd (fun r M9 hq => by obtain ⟨x, rfl, hp⟩ := hq; exact k x M9 hp)
theorem e_cSGV {y : MethodName} {bytes : ByteArray} {maxL n i d : Nat} {as : List MV} {st0 : List MV} {P : Mem → Prop} (hM : GV l w y bytes maxL d as M P) (hY : CY y bytes maxL none n) (hV : Cond.static y ∈ TBL) (hlk : Cond.methodLink own i y ∈ TBL) (hn : as.length = n) (hs0 : st0 = as.reverse ++ st) (hR : ROk R cs sl d maxL) (hwt : wt st ≤ 8) (hd : decode cc pc = .ok (.invokestatic i, 3))
    (k : ∀ M1, P M1 → WW l w own cc nL R cs sl A Qf Ex (pc + 3) L st M1) : WW l w own cc nL R cs sl A Qf Ex pc L st0 M :=
  e_callS hM hY hV hlk hn hs0 hR hwt hd (fun r M9 hq => by obtain ⟨rfl, hp⟩ := hq; exact k M9 hp)
def MK (own : String) (i : Nat) (y : MethodName) (bytes : ByteArray) (n : Nat) (ret : Option FieldType) : Prop := Cond.methodLink own i y ∈ TBL ∧ Cond.static y ∈ TBL ∧ Cond.initialized "java/lang/Math" ∈ TBL ∧ Cond.code y bytes n ret ∈ TBL
def ROk1 (R : Room) (cs sl : Nat) : Prop := 1 ≤ R.frames ∧ 64 ≤ R.locals ∧ cs ≤ R.cells ∧ sl ≤ R.slots
theorem rok1 {d : Nat} (h : 1 ≤ d) : ROk1 (rmD d) 0 0 := ⟨h, by show 64 ≤ 64 * d; omega, Nat.le_refl 0, Nat.le_refl 0⟩
theorem e_mmax {x y : Int} {i : Nat} (hw : MK own i Lib.Math.max.name Lib.Math.max.code 2 (some .int)) (hR : ROk1 R cs sl) (hwt : Nat.ble (wt st) 8 = true) (hd : decode cc pc = .ok (.invokestatic i, 3))
    (k : WW l w own cc nL R cs sl A Qf Ex (pc + 3) L (vI (max x y) :: st) M) : WW l w own cc nL R cs sl A Qf Ex pc L (vI y :: vI x :: st) M := by
  intro p e s m args below meth c H locs ls hF hE hS hA hP hSS hM hL hst
  have hy : inR (vI y) := hst _ List.mem_cons_self
  have hx : inR (vI x) := hst _ (List.mem_cons_of_mem _ List.mem_cons_self)
  have hw8 : wt st ≤ 8 := Nat.le_of_ble_eq_true hwt
  have hr : inR (vI (max x y)) := by
    rcases Int.le_total x y with q | q
    · first | (rw [show max x y = y by omega]; exact hy) | (rw [show min x y = x by omega]; exact hx)
    · first | (rw [show max x y = x by omega]; exact hx) | (rw [show min x y = y by omega]; exact hy)
  have he : (if Int32.ofInt x < Int32.ofInt y then Int32.ofInt y else Int32.ofInt x) = Int32.ofInt (max x y) := by
    by_cases q : x < y
    · rw [if_pos ((i32_lt hx hy).mpr q)]; congr 1; omega
    · rw [if_neg (fun z => q ((i32_lt hx hy).mp z))]; congr 1; omega
  refine va_mmax hF.1 hF.2.1 (hF.2.2.1.trans hL.1.symm) hF.2.2.2.1 (hF.2.2.2.2 _ hw.1) (hF.2.2.2.2 _ hw.2.1) (hF.2.2.2.2 _ hw.2.2.1) (hF.2.2.2.2 _ hw.2.2.2) hR.1 (by rw [wt_ok]; have := hR.2.1; omega) hR.2.2.1 hR.2.2.2 hd ?_
  rw [he]
  exact k p e s m args below meth c H locs ls hF hE hS hA hP hSS hM hL (List.forall_mem_cons.mpr ⟨hr, fun v hv => hst v (List.mem_cons_of_mem _ (List.mem_cons_of_mem _ hv))⟩)
theorem e_mmin {x y : Int} {i : Nat} (hw : MK own i Lib.Math.min.name Lib.Math.min.code 2 (some .int)) (hR : ROk1 R cs sl) (hwt : Nat.ble (wt st) 8 = true) (hd : decode cc pc = .ok (.invokestatic i, 3))
    (k : WW l w own cc nL R cs sl A Qf Ex (pc + 3) L (vI (min x y) :: st) M) : WW l w own cc nL R cs sl A Qf Ex pc L (vI y :: vI x :: st) M := by
  intro p e s m args below meth c H locs ls hF hE hS hA hP hSS hM hL hst
  have hy : inR (vI y) := hst _ List.mem_cons_self
  have hx : inR (vI x) := hst _ (List.mem_cons_of_mem _ List.mem_cons_self)
  have hw8 : wt st ≤ 8 := Nat.le_of_ble_eq_true hwt
  have hr : inR (vI (min x y)) := by
    rcases Int.le_total x y with q | q
    · first | (rw [show max x y = y by omega]; exact hy) | (rw [show min x y = x by omega]; exact hx)
    · first | (rw [show max x y = x by omega]; exact hx) | (rw [show min x y = y by omega]; exact hy)
  have he : (if Int32.ofInt y < Int32.ofInt x then Int32.ofInt y else Int32.ofInt x) = Int32.ofInt (min x y) := by
    by_cases q : y < x
    · rw [if_pos ((i32_lt hy hx).mpr q)]; congr 1; omega
    · rw [if_neg (fun z => q ((i32_lt hy hx).mp z))]; congr 1; omega
  refine va_mmin hF.1 hF.2.1 (hF.2.2.1.trans hL.1.symm) hF.2.2.2.1 (hF.2.2.2.2 _ hw.1) (hF.2.2.2.2 _ hw.2.1) (hF.2.2.2.2 _ hw.2.2.1) (hF.2.2.2.2 _ hw.2.2.2) hR.1 (by rw [wt_ok]; have := hR.2.1; omega) hR.2.2.1 hR.2.2.2 hd ?_
  rw [he]
  exact k p e s m args below meth c H locs ls hF hE hS hA hP hSS hM hL (List.forall_mem_cons.mpr ⟨hr, fun v hv => hst v (List.mem_cons_of_mem _ (List.mem_cons_of_mem _ hv))⟩)
theorem e_mmaxL {x y : Int} {i : Nat} (hw : MK own i Lib.MathLoose.max_long.x Lib.MathLoose.max_long.code 4 (some .long)) (hR : ROk1 R cs sl) (hwt : Nat.ble (wt st) 8 = true) (hd : decode cc pc = .ok (.invokestatic i, 3))
    (k : WW l w own cc nL R cs sl A Qf Ex (pc + 3) L (vL (max x y) :: st) M) : WW l w own cc nL R cs sl A Qf Ex pc L (vL y :: vL x :: st) M := by
  intro p e s m args below meth c H locs ls hF hE hS hA hP hSS hM hL hst
  have hy : inR (vL y) := hst _ List.mem_cons_self
  have hx : inR (vL x) := hst _ (List.mem_cons_of_mem _ List.mem_cons_self)
  have hw8 : wt st ≤ 8 := Nat.le_of_ble_eq_true hwt
  have hr : inR (vL (max x y)) := by
    rcases Int.le_total x y with q | q
    · first | (rw [show max x y = y by omega]; exact hy) | (rw [show min x y = x by omega]; exact hx)
    · first | (rw [show max x y = x by omega]; exact hx) | (rw [show min x y = y by omega]; exact hy)
  have he : (if Int64.ofInt y < Int64.ofInt x then Int64.ofInt x else Int64.ofInt y) = Int64.ofInt (max x y) := by
    by_cases q : y < x
    · rw [if_pos ((i64_lt hy hx).mpr q)]; congr 1; omega
    · rw [if_neg (fun z => q ((i64_lt hy hx).mp z))]; congr 1; omega
  refine va_mmax_long hF.1 hF.2.1 (hF.2.2.1.trans hL.1.symm) hF.2.2.2.1 (hF.2.2.2.2 _ hw.1) (hF.2.2.2.2 _ hw.2.1) (hF.2.2.2.2 _ hw.2.2.1) (hF.2.2.2.2 _ hw.2.2.2) hR.1 (by rw [wt_ok]; have := hR.2.1; omega) hR.2.2.1 hR.2.2.2 hd ?_
  rw [he]
  exact k p e s m args below meth c H locs ls hF hE hS hA hP hSS hM hL (List.forall_mem_cons.mpr ⟨hr, fun v hv => hst v (List.mem_cons_of_mem _ (List.mem_cons_of_mem _ hv))⟩)
theorem e_mminL {x y : Int} {i : Nat} (hw : MK own i Lib.MathLoose.min_long.x Lib.MathLoose.min_long.code 4 (some .long)) (hR : ROk1 R cs sl) (hwt : Nat.ble (wt st) 8 = true) (hd : decode cc pc = .ok (.invokestatic i, 3))
    (k : WW l w own cc nL R cs sl A Qf Ex (pc + 3) L (vL (min x y) :: st) M) : WW l w own cc nL R cs sl A Qf Ex pc L (vL y :: vL x :: st) M := by
  intro p e s m args below meth c H locs ls hF hE hS hA hP hSS hM hL hst
  have hy : inR (vL y) := hst _ List.mem_cons_self
  have hx : inR (vL x) := hst _ (List.mem_cons_of_mem _ List.mem_cons_self)
  have hw8 : wt st ≤ 8 := Nat.le_of_ble_eq_true hwt
  have hr : inR (vL (min x y)) := by
    rcases Int.le_total x y with q | q
    · first | (rw [show max x y = y by omega]; exact hy) | (rw [show min x y = x by omega]; exact hx)
    · first | (rw [show max x y = x by omega]; exact hx) | (rw [show min x y = y by omega]; exact hy)
  have he : (if Int64.ofInt y < Int64.ofInt x then Int64.ofInt y else Int64.ofInt x) = Int64.ofInt (min x y) := by
    by_cases q : y < x
    · rw [if_pos ((i64_lt hy hx).mpr q)]; congr 1; omega
    · rw [if_neg (fun z => q ((i64_lt hy hx).mp z))]; congr 1; omega
  refine va_mmin_long hF.1 hF.2.1 (hF.2.2.1.trans hL.1.symm) hF.2.2.2.1 (hF.2.2.2.2 _ hw.1) (hF.2.2.2.2 _ hw.2.1) (hF.2.2.2.2 _ hw.2.2.1) (hF.2.2.2.2 _ hw.2.2.2) hR.1 (by rw [wt_ok]; have := hR.2.1; omega) hR.2.2.1 hR.2.2.2 hd ?_
  rw [he]
  exact k p e s m args below meth c H locs ls hF hE hS hA hP hSS hM hL (List.forall_mem_cons.mpr ⟨hr, fun v hv => hst v (List.mem_cons_of_mem _ (List.mem_cons_of_mem _ hv))⟩)
end CALL3
theorem ml9_X1_91 : MK RX1 91 Lib.Math.min.name Lib.Math.min.code 2 (some .int) := ⟨TBL_in (tm2 (List.mem_of_getElem? (i := 216) rfl)) rfl, TBL_in (tm2 (List.mem_of_getElem? (i := 217) rfl)) rfl, TBL_in (tm1 (List.mem_of_getElem? (i := 11) rfl)) rfl, TBL_in (tm2 (List.mem_of_getElem? (i := 218) rfl)) rfl⟩
theorem ml9_X1_97 : MK RX1 97 Lib.Math.max.name Lib.Math.max.code 2 (some .int) := ⟨TBL_in (tm2 (List.mem_of_getElem? (i := 219) rfl)) rfl, TBL_in (tm2 (List.mem_of_getElem? (i := 220) rfl)) rfl, TBL_in (tm1 (List.mem_of_getElem? (i := 11) rfl)) rfl, TBL_in (tm2 (List.mem_of_getElem? (i := 221) rfl)) rfl⟩
theorem ml9_X1_111 : MK RX1 111 Lib.MathLoose.min_long.x Lib.MathLoose.min_long.code 4 (some .long) := ⟨TBL_in (tm2 (List.mem_of_getElem? (i := 206) rfl)) rfl, TBL_in (tm2 (List.mem_of_getElem? (i := 207) rfl)) rfl, TBL_in (tm1 (List.mem_of_getElem? (i := 11) rfl)) rfl, TBL_in (tm2 (List.mem_of_getElem? (i := 208) rfl)) rfl⟩
theorem ml9_X1_114 : MK RX1 114 Lib.MathLoose.max_long.x Lib.MathLoose.max_long.code 4 (some .long) := ⟨TBL_in (tm2 (List.mem_of_getElem? (i := 209) rfl)) rfl, TBL_in (tm2 (List.mem_of_getElem? (i := 210) rfl)) rfl, TBL_in (tm1 (List.mem_of_getElem? (i := 11) rfl)) rfl, TBL_in (tm2 (List.mem_of_getElem? (i := 211) rfl)) rfl⟩
theorem ml9_X2_92 : MK RX2 92 Lib.Math.min.name Lib.Math.min.code 2 (some .int) := ⟨TBL_in (tm3 (List.mem_of_getElem? (i := 77) rfl)) rfl, TBL_in (tm2 (List.mem_of_getElem? (i := 217) rfl)) rfl, TBL_in (tm1 (List.mem_of_getElem? (i := 11) rfl)) rfl, TBL_in (tm2 (List.mem_of_getElem? (i := 218) rfl)) rfl⟩
theorem ml9_X4_23 : MK RX4 23 Lib.Math.min.name Lib.Math.min.code 2 (some .int) := ⟨TBL_in (tm2 (List.mem_of_getElem? (i := 226) rfl)) rfl, TBL_in (tm2 (List.mem_of_getElem? (i := 217) rfl)) rfl, TBL_in (tm1 (List.mem_of_getElem? (i := 11) rfl)) rfl, TBL_in (tm2 (List.mem_of_getElem? (i := 218) rfl)) rfl⟩
theorem ml9_X5_65 : MK RX5 65 Lib.Math.max.name Lib.Math.max.code 2 (some .int) := ⟨TBL_in (tm4 (List.mem_of_getElem? (i := 123) rfl)) rfl, TBL_in (tm2 (List.mem_of_getElem? (i := 220) rfl)) rfl, TBL_in (tm1 (List.mem_of_getElem? (i := 11) rfl)) rfl, TBL_in (tm2 (List.mem_of_getElem? (i := 221) rfl)) rfl⟩
theorem ml9_X7_69 : MK RX7 69 Lib.Math.max.name Lib.Math.max.code 2 (some .int) := ⟨TBL_in (tm4 (List.mem_of_getElem? (i := 157) rfl)) rfl, TBL_in (tm2 (List.mem_of_getElem? (i := 220) rfl)) rfl, TBL_in (tm1 (List.mem_of_getElem? (i := 11) rfl)) rfl, TBL_in (tm2 (List.mem_of_getElem? (i := 221) rfl)) rfl⟩
theorem ml9_X8_141 : MK RX8 141 Lib.Math.min.name Lib.Math.min.code 2 (some .int) := ⟨TBL_in (tm3 (List.mem_of_getElem? (i := 13) rfl)) rfl, TBL_in (tm2 (List.mem_of_getElem? (i := 217) rfl)) rfl, TBL_in (tm1 (List.mem_of_getElem? (i := 11) rfl)) rfl, TBL_in (tm2 (List.mem_of_getElem? (i := 218) rfl)) rfl⟩
theorem kc_m1 : inR (vI (-1)) := ⟨by decide, by decide⟩
theorem kc_0 : inR (vI (0)) := ⟨by decide, by decide⟩
theorem kc_1 : inR (vI (1)) := ⟨by decide, by decide⟩
theorem kc_2 : inR (vI (2)) := ⟨by decide, by decide⟩
theorem kc_3 : inR (vI (3)) := ⟨by decide, by decide⟩
theorem kc_4 : inR (vI (4)) := ⟨by decide, by decide⟩
theorem kc_5 : inR (vI (5)) := ⟨by decide, by decide⟩
theorem kb_m2 : (Int8.ofInt (-2)).toInt32 = Int32.ofInt (-2) ∧ inR (vI (-2)) := ⟨by decide, by decide, by decide⟩
theorem kb_6 : (Int8.ofInt (6)).toInt32 = Int32.ofInt (6) ∧ inR (vI (6)) := ⟨by decide, by decide, by decide⟩
theorem kb_7 : (Int8.ofInt (7)).toInt32 = Int32.ofInt (7) ∧ inR (vI (7)) := ⟨by decide, by decide, by decide⟩
theorem kb_8 : (Int8.ofInt (8)).toInt32 = Int32.ofInt (8) ∧ inR (vI (8)) := ⟨by decide, by decide, by decide⟩
theorem kb_9 : (Int8.ofInt (9)).toInt32 = Int32.ofInt (9) ∧ inR (vI (9)) := ⟨by decide, by decide, by decide⟩
theorem kb_10 : (Int8.ofInt (10)).toInt32 = Int32.ofInt (10) ∧ inR (vI (10)) := ⟨by decide, by decide, by decide⟩
theorem kb_11 : (Int8.ofInt (11)).toInt32 = Int32.ofInt (11) ∧ inR (vI (11)) := ⟨by decide, by decide, by decide⟩
theorem kb_12 : (Int8.ofInt (12)).toInt32 = Int32.ofInt (12) ∧ inR (vI (12)) := ⟨by decide, by decide, by decide⟩
theorem kb_13 : (Int8.ofInt (13)).toInt32 = Int32.ofInt (13) ∧ inR (vI (13)) := ⟨by decide, by decide, by decide⟩
theorem kb_14 : (Int8.ofInt (14)).toInt32 = Int32.ofInt (14) ∧ inR (vI (14)) := ⟨by decide, by decide, by decide⟩
theorem kb_15 : (Int8.ofInt (15)).toInt32 = Int32.ofInt (15) ∧ inR (vI (15)) := ⟨by decide, by decide, by decide⟩
theorem kb_16 : (Int8.ofInt (16)).toInt32 = Int32.ofInt (16) ∧ inR (vI (16)) := ⟨by decide, by decide, by decide⟩
theorem kb_17 : (Int8.ofInt (17)).toInt32 = Int32.ofInt (17) ∧ inR (vI (17)) := ⟨by decide, by decide, by decide⟩
theorem kb_20 : (Int8.ofInt (20)).toInt32 = Int32.ofInt (20) ∧ inR (vI (20)) := ⟨by decide, by decide, by decide⟩
theorem kb_24 : (Int8.ofInt (24)).toInt32 = Int32.ofInt (24) ∧ inR (vI (24)) := ⟨by decide, by decide, by decide⟩
theorem kb_29 : (Int8.ofInt (29)).toInt32 = Int32.ofInt (29) ∧ inR (vI (29)) := ⟨by decide, by decide, by decide⟩
theorem kb_30 : (Int8.ofInt (30)).toInt32 = Int32.ofInt (30) ∧ inR (vI (30)) := ⟨by decide, by decide, by decide⟩
theorem kb_31 : (Int8.ofInt (31)).toInt32 = Int32.ofInt (31) ∧ inR (vI (31)) := ⟨by decide, by decide, by decide⟩
theorem kb_32 : (Int8.ofInt (32)).toInt32 = Int32.ofInt (32) ∧ inR (vI (32)) := ⟨by decide, by decide, by decide⟩
theorem kb_35 : (Int8.ofInt (35)).toInt32 = Int32.ofInt (35) ∧ inR (vI (35)) := ⟨by decide, by decide, by decide⟩
theorem kb_36 : (Int8.ofInt (36)).toInt32 = Int32.ofInt (36) ∧ inR (vI (36)) := ⟨by decide, by decide, by decide⟩
theorem kb_40 : (Int8.ofInt (40)).toInt32 = Int32.ofInt (40) ∧ inR (vI (40)) := ⟨by decide, by decide, by decide⟩
theorem kb_41 : (Int8.ofInt (41)).toInt32 = Int32.ofInt (41) ∧ inR (vI (41)) := ⟨by decide, by decide, by decide⟩
theorem kb_42 : (Int8.ofInt (42)).toInt32 = Int32.ofInt (42) ∧ inR (vI (42)) := ⟨by decide, by decide, by decide⟩
theorem kb_43 : (Int8.ofInt (43)).toInt32 = Int32.ofInt (43) ∧ inR (vI (43)) := ⟨by decide, by decide, by decide⟩
theorem kb_45 : (Int8.ofInt (45)).toInt32 = Int32.ofInt (45) ∧ inR (vI (45)) := ⟨by decide, by decide, by decide⟩
theorem kb_47 : (Int8.ofInt (47)).toInt32 = Int32.ofInt (47) ∧ inR (vI (47)) := ⟨by decide, by decide, by decide⟩
theorem kb_48 : (Int8.ofInt (48)).toInt32 = Int32.ofInt (48) ∧ inR (vI (48)) := ⟨by decide, by decide, by decide⟩
theorem kb_56 : (Int8.ofInt (56)).toInt32 = Int32.ofInt (56) ∧ inR (vI (56)) := ⟨by decide, by decide, by decide⟩
theorem kb_57 : (Int8.ofInt (57)).toInt32 = Int32.ofInt (57) ∧ inR (vI (57)) := ⟨by decide, by decide, by decide⟩
theorem kb_59 : (Int8.ofInt (59)).toInt32 = Int32.ofInt (59) ∧ inR (vI (59)) := ⟨by decide, by decide, by decide⟩
theorem kb_60 : (Int8.ofInt (60)).toInt32 = Int32.ofInt (60) ∧ inR (vI (60)) := ⟨by decide, by decide, by decide⟩
theorem kb_61 : (Int8.ofInt (61)).toInt32 = Int32.ofInt (61) ∧ inR (vI (61)) := ⟨by decide, by decide, by decide⟩
theorem kb_62 : (Int8.ofInt (62)).toInt32 = Int32.ofInt (62) ∧ inR (vI (62)) := ⟨by decide, by decide, by decide⟩
theorem kb_63 : (Int8.ofInt (63)).toInt32 = Int32.ofInt (63) ∧ inR (vI (63)) := ⟨by decide, by decide, by decide⟩
theorem kb_64 : (Int8.ofInt (64)).toInt32 = Int32.ofInt (64) ∧ inR (vI (64)) := ⟨by decide, by decide, by decide⟩
theorem kb_65 : (Int8.ofInt (65)).toInt32 = Int32.ofInt (65) ∧ inR (vI (65)) := ⟨by decide, by decide, by decide⟩
theorem kb_72 : (Int8.ofInt (72)).toInt32 = Int32.ofInt (72) ∧ inR (vI (72)) := ⟨by decide, by decide, by decide⟩
theorem kb_80 : (Int8.ofInt (80)).toInt32 = Int32.ofInt (80) ∧ inR (vI (80)) := ⟨by decide, by decide, by decide⟩
theorem kb_83 : (Int8.ofInt (83)).toInt32 = Int32.ofInt (83) ∧ inR (vI (83)) := ⟨by decide, by decide, by decide⟩
theorem kb_90 : (Int8.ofInt (90)).toInt32 = Int32.ofInt (90) ∧ inR (vI (90)) := ⟨by decide, by decide, by decide⟩
theorem kb_96 : (Int8.ofInt (96)).toInt32 = Int32.ofInt (96) ∧ inR (vI (96)) := ⟨by decide, by decide, by decide⟩
theorem kb_97 : (Int8.ofInt (97)).toInt32 = Int32.ofInt (97) ∧ inR (vI (97)) := ⟨by decide, by decide, by decide⟩
theorem kb_99 : (Int8.ofInt (99)).toInt32 = Int32.ofInt (99) ∧ inR (vI (99)) := ⟨by decide, by decide, by decide⟩
theorem kb_100 : (Int8.ofInt (100)).toInt32 = Int32.ofInt (100) ∧ inR (vI (100)) := ⟨by decide, by decide, by decide⟩
theorem kb_122 : (Int8.ofInt (122)).toInt32 = Int32.ofInt (122) ∧ inR (vI (122)) := ⟨by decide, by decide, by decide⟩
theorem ks_154 : (Int16.ofInt (154)).toInt32 = Int32.ofInt (154) ∧ inR (vI (154)) := ⟨by decide, by decide, by decide⟩
theorem ks_155 : (Int16.ofInt (155)).toInt32 = Int32.ofInt (155) ∧ inR (vI (155)) := ⟨by decide, by decide, by decide⟩
theorem ks_179 : (Int16.ofInt (179)).toInt32 = Int32.ofInt (179) ∧ inR (vI (179)) := ⟨by decide, by decide, by decide⟩
theorem ks_200 : (Int16.ofInt (200)).toInt32 = Int32.ofInt (200) ∧ inR (vI (200)) := ⟨by decide, by decide, by decide⟩
theorem ks_255 : (Int16.ofInt (255)).toInt32 = Int32.ofInt (255) ∧ inR (vI (255)) := ⟨by decide, by decide, by decide⟩
theorem ks_256 : (Int16.ofInt (256)).toInt32 = Int32.ofInt (256) ∧ inR (vI (256)) := ⟨by decide, by decide, by decide⟩
theorem ks_300 : (Int16.ofInt (300)).toInt32 = Int32.ofInt (300) ∧ inR (vI (300)) := ⟨by decide, by decide, by decide⟩
theorem ks_301 : (Int16.ofInt (301)).toInt32 = Int32.ofInt (301) ∧ inR (vI (301)) := ⟨by decide, by decide, by decide⟩
theorem ks_360 : (Int16.ofInt (360)).toInt32 = Int32.ofInt (360) ∧ inR (vI (360)) := ⟨by decide, by decide, by decide⟩
theorem ks_400 : (Int16.ofInt (400)).toInt32 = Int32.ofInt (400) ∧ inR (vI (400)) := ⟨by decide, by decide, by decide⟩
theorem ks_401 : (Int16.ofInt (401)).toInt32 = Int32.ofInt (401) ∧ inR (vI (401)) := ⟨by decide, by decide, by decide⟩
theorem ks_402 : (Int16.ofInt (402)).toInt32 = Int32.ofInt (402) ∧ inR (vI (402)) := ⟨by decide, by decide, by decide⟩
theorem ks_408 : (Int16.ofInt (408)).toInt32 = Int32.ofInt (408) ∧ inR (vI (408)) := ⟨by decide, by decide, by decide⟩
theorem ks_476 : (Int16.ofInt (476)).toInt32 = Int32.ofInt (476) ∧ inR (vI (476)) := ⟨by decide, by decide, by decide⟩
theorem ks_515 : (Int16.ofInt (515)).toInt32 = Int32.ofInt (515) ∧ inR (vI (515)) := ⟨by decide, by decide, by decide⟩
theorem ks_520 : (Int16.ofInt (520)).toInt32 = Int32.ofInt (520) ∧ inR (vI (520)) := ⟨by decide, by decide, by decide⟩
theorem ks_999 : (Int16.ofInt (999)).toInt32 = Int32.ofInt (999) ∧ inR (vI (999)) := ⟨by decide, by decide, by decide⟩
theorem ks_1600 : (Int16.ofInt (1600)).toInt32 = Int32.ofInt (1600) ∧ inR (vI (1600)) := ⟨by decide, by decide, by decide⟩
theorem ks_9999 : (Int16.ofInt (9999)).toInt32 = Int32.ofInt (9999) ∧ inR (vI (9999)) := ⟨by decide, by decide, by decide⟩
theorem ks_10000 : (Int16.ofInt (10000)).toInt32 = Int32.ofInt (10000) ∧ inR (vI (10000)) := ⟨by decide, by decide, by decide⟩
theorem ks_10008 : (Int16.ofInt (10008)).toInt32 = Int32.ofInt (10008) ∧ inR (vI (10008)) := ⟨by decide, by decide, by decide⟩
theorem ks_10009 : (Int16.ofInt (10009)).toInt32 = Int32.ofInt (10009) ∧ inR (vI (10009)) := ⟨by decide, by decide, by decide⟩
theorem ks_10010 : (Int16.ofInt (10010)).toInt32 = Int32.ofInt (10010) ∧ inR (vI (10010)) := ⟨by decide, by decide, by decide⟩
theorem ks_10011 : (Int16.ofInt (10011)).toInt32 = Int32.ofInt (10011) ∧ inR (vI (10011)) := ⟨by decide, by decide, by decide⟩
theorem ks_10012 : (Int16.ofInt (10012)).toInt32 = Int32.ofInt (10012) ∧ inR (vI (10012)) := ⟨by decide, by decide, by decide⟩
theorem ks_14324 : (Int16.ofInt (14324)).toInt32 = Int32.ofInt (14324) ∧ inR (vI (14324)) := ⟨by decide, by decide, by decide⟩
theorem ks_14800 : (Int16.ofInt (14800)).toInt32 = Int32.ofInt (14800) ∧ inR (vI (14800)) := ⟨by decide, by decide, by decide⟩
theorem ks_30011 : (Int16.ofInt (30011)).toInt32 = Int32.ofInt (30011) ∧ inR (vI (30011)) := ⟨by decide, by decide, by decide⟩
theorem la_S0 {j : Nat} (hj : j < 4) : lay[90 + 6 * j]? = some (.inl (3, [(91 + 6 * j) + 2, 0, (92 + 6 * j) + 2, (93 + 6 * j) + 2, (94 + 6 * j) + 2, (95 + 6 * j) + 2, 0])) := by
  rcases (show j = 0 ∨ j = 1 ∨ j = 2 ∨ j = 3 by omega) with rfl | rfl | rfl | rfl <;> decide +kernel
theorem la_S1 {j : Nat} (hj : j < 4) : lay[91 + 6 * j]? = some (.inr (0, 300, 0, 0)) := by
  rcases (show j = 0 ∨ j = 1 ∨ j = 2 ∨ j = 3 by omega) with rfl | rfl | rfl | rfl <;> decide +kernel
theorem la_S2 {j : Nat} (hj : j < 4) : lay[92 + 6 * j]? = some (.inr (0, 4, 0, 0)) := by
  rcases (show j = 0 ∨ j = 1 ∨ j = 2 ∨ j = 3 by omega) with rfl | rfl | rfl | rfl <;> decide +kernel
theorem la_S3 {j : Nat} (hj : j < 4) : lay[93 + 6 * j]? = some (.inr (0, 4, 0, 0)) := by
  rcases (show j = 0 ∨ j = 1 ∨ j = 2 ∨ j = 3 by omega) with rfl | rfl | rfl | rfl <;> decide +kernel
theorem la_S4 {j : Nat} (hj : j < 4) : lay[94 + 6 * j]? = some (.inr (0, 24, 0, 0)) := by
  rcases (show j = 0 ∨ j = 1 ∨ j = 2 ∨ j = 3 by omega) with rfl | rfl | rfl | rfl <;> decide +kernel
theorem la_S5 {j : Nat} (hj : j < 4) : lay[95 + 6 * j]? = some (.inr (0, 72, 0, 0)) := by
  rcases (show j = 0 ∨ j = 1 ∨ j = 2 ∨ j = 3 by omega) with rfl | rfl | rfl | rfl <;> decide +kernel
theorem la_SR {j : Nat} (hj : j < 30) : lay[27 + 1 * j]? = some (.inr (0, 32, 0, 0)) := by rw [Nat.one_mul]; exact la_steps hj
theorem la_KR {j : Nat} (hj : j < 30) : lay[59 + 1 * j]? = some (.inr (0, 32, 0, 0)) := by rw [Nat.one_mul]; exact la_kept hj
