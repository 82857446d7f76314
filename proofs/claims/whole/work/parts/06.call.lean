def rmD (d : Nat) : Room := { frames := d, cells := 0, slots := 0, locals := 64 * d }
def MTpre (w : Wd) (M : Mem) (U : State) : Prop := St w (InW w) U U.heap ∧ va_P w.2.1 CL (world w M) U.heap ∧ RM M
def MTq (w : Wd) (Q : Option MV → Mem → Prop) : Array Value → State → Outcome → State → Prop := fun _ st o t =>
  (∃ (r : Option MV) (M' : Mem), o = .returned (r.map (tv w)) ∧ (∀ v ∈ r, inR v) ∧ Q r M' ∧ va_P w.2.1 CL (world w M') t.heap ∧ RM M') ∧ va_F (InW w) st t
/-- A METHOD'S CONTRACT: with arguments as and memory M it ends, answers r and leaves memory M' with Q r M' -/
def MT (l : Launch) (w : Wd) (y : MethodName) (bytes : ByteArray) (maxL : Nat) (ret : Option FieldType) (d : Nat) (as : List MV) (M : Mem) (Q : Option MV → Mem → Prop) : Prop :=
  (∀ v ∈ as, inR v) → Met l y (.code y bytes maxL ret :: TBL) (rmD d) (va_Pc (as.map (tv w)) (MTpre w M)) (MTq w Q) 0 0 (InW w)
abbrev QF (w : Wd) (Q : Option MV → Mem → Prop) : List Frame → Array Value → State → State → Prop := fun below args s => MQ below (MTq w Q) args s 0 0 (InW w)
abbrev XR (ret : Option FieldType) : State → Array Value → Method → Prop := fun _ _ meth => meth.sig.returnType = ret ∧ meth.locks = false
abbrev AM (w : Wd) : State → Nat → Prop := fun _ => InW w
/-- the judgement inside a method -/
abbrev WM (l : Launch) (w : Wd) (own : String) (cc : ByteArray) (nL : Nat) (ret : Option FieldType) (d : Nat) (Q : Option MV → Mem → Prop) (pc : Nat) (L : List (Option MV)) (st : List MV) (M : Mem) : Prop :=
  WW l w own cc nL (rmD d) 0 0 (AM w) (QF w Q) (XR ret) pc L st M
theorem MTpre.blind {w : Wd} {M : Mem} {av : List Value} : FrameBlind (va_Pc av (MTpre w M)) := fun a U g mk h => ⟨h.1, St.same (s := U) (U := U.calling g mk a) (H := U.heap) rfl h.2.1, h.2.2.1, h.2.2.2⟩
def argL : List MV → List (Option MV)
  | [] => []
  | .inr (.inl x) :: vs => some (.inr (.inl x)) :: none :: argL vs
  | .inl x :: vs => some (.inl x) :: argL vs
  | .inr (.inr x) :: vs => some (.inr (.inr x)) :: argL vs
theorem argL_len (w : Wd) : ∀ as : List MV, (argL as).length = (lg_sl (as.map (tv w))).length
  | [] => rfl
  | .inr (.inl x) :: vs => by
    have := argL_len w vs
    simp [argL, lg_sl, tv, Value.category] at this ⊢
    omega
  | .inl x :: vs => by
    have := argL_len w vs
    simp [argL, lg_sl, tv, Value.category] at this ⊢
    omega
  | .inr (.inr none) :: vs => by
    have := argL_len w vs
    simp [argL, lg_sl, tv, Value.category] at this ⊢
    omega
  | .inr (.inr (some x)) :: vs => by
    have := argL_len w vs
    simp [argL, lg_sl, tv, Value.category] at this ⊢
    omega
theorem argL_at (w : Wd) : ∀ (as : List MV) (b i : Nat) (v : MV), (argL as)[i]? = some (some v) → (b + i, tv w v) ∈ lv_args b (as.map (tv w)) ∧ v ∈ as
  | [], b, i, v, h => by cases h
  | .inr (.inl x) :: vs, b, 0, v, h => by cases h; exact ⟨List.mem_cons_self, List.mem_cons_self⟩
  | .inr (.inl x) :: vs, b, 1, v, h => by cases h
  | .inr (.inl x) :: vs, b, i + 2, v, h => by
    obtain ⟨h1, h2⟩ := argL_at w vs (b + 2) i v h
    refine ⟨List.mem_cons_of_mem _ ?_, List.mem_cons_of_mem _ h2⟩
    have e : b + (i + 2) = b + 2 + i := by omega
    rw [e]
    exact h1
  | .inl x :: vs, b, 0, v, h => by cases h; exact ⟨List.mem_cons_self, List.mem_cons_self⟩
  | .inl x :: vs, b, i + 1, v, h => by
    obtain ⟨h1, h2⟩ := argL_at w vs (b + 1) i v h
    refine ⟨List.mem_cons_of_mem _ ?_, List.mem_cons_of_mem _ h2⟩
    have e : b + (i + 1) = b + 1 + i := by omega
    rw [e]
    exact h1
  | .inr (.inr none) :: vs, b, 0, v, h => by cases h; exact ⟨List.mem_cons_self, List.mem_cons_self⟩
  | .inr (.inr none) :: vs, b, i + 1, v, h => by
    obtain ⟨h1, h2⟩ := argL_at w vs (b + 1) i v h
    refine ⟨List.mem_cons_of_mem _ ?_, List.mem_cons_of_mem _ h2⟩
    have e : b + (i + 1) = b + 1 + i := by omega
    rw [e]
    exact h1
  | .inr (.inr (some x)) :: vs, b, 0, v, h => by cases h; exact ⟨List.mem_cons_self, List.mem_cons_self⟩
  | .inr (.inr (some x)) :: vs, b, i + 1, v, h => by
    obtain ⟨h1, h2⟩ := argL_at w vs (b + 1) i v h
    refine ⟨List.mem_cons_of_mem _ ?_, List.mem_cons_of_mem _ h2⟩
    have e : b + (i + 1) = b + 1 + i := by omega
    rw [e]
    exact h1
theorem MT.of {l : Launch} {w : Wd} {y : MethodName} {bytes : ByteArray} {maxL : Nat} {ret : Option FieldType} {d : Nat} {as : List MV} {M : Mem} {Q : Option MV → Mem → Prop} {own : String} (L0 : List (Option MV))
    (hy : plainName y.cls = true ∧ y.cls = own) (hL : argL as ++ List.replicate (maxL - (argL as).length) none = L0) (hl : (argL as).length ≤ maxL)
    (h : (∀ v ∈ as, inR v) → RM M → WM l w own bytes maxL ret d Q 0 L0 [] M) : MT l w y bytes maxL ret d as M Q := by
  intro has
  obtain ⟨hy, rfl⟩ := hy
  refine Met.ofW (cc := bytes) (maxL := maxL) (ret := ret) hy rfl ?_
  intro p e s m args below meth c s₁ B hml hv
  obtain ⟨rfl, hS, hP, hM⟩ := hv
  have hts := atoms_spec (ws := .code y bytes maxL ret :: TBL) B.pre
  have hown : s.vm.findClass y.cls = some m.cls := findClass_of_methodNamed B.named
  have hlen : (lg_sl (as.map (tv w))).length ≤ maxL := by rw [← argL_len]; exact hl
  have hlv := lv_entry (as.map (tv w)) (n := maxL) hlen
  rw [lg_entry_eq]
  generalize (lg_sl (as.map (tv w)) ++ List.replicate (maxL - (lg_sl (as.map (tv w))).length) Slot.unset).toArray = ls at hlv ⊢
  refine h has hM p e s m _ below meth c s.heap [] ls ⟨B.exec, B.bytes, hml, hown, fun x hx => hts x (List.mem_cons_of_mem _ hx)⟩ ⟨B.returns, B.notSynchronized⟩ hS (fun _ q => q) hP va_S.rf hM ?_ (fun v hv => by cases hv)
  refine ⟨hlv.1, hlv.2.1, ?_, fun i v hi => ?_⟩
  · rw [← hL, List.length_append, List.length_replicate]
    omega
  · rw [← hL] at hi
    by_cases hlt : i < (argL as).length
    · rw [List.getElem?_append_left hlt] at hi
      obtain ⟨h1, h2⟩ := argL_at w as 0 i v hi
      rw [Nat.zero_add] at h1
      exact ⟨has v h2, hlv.2.2 _ h1⟩
    · rw [List.getElem?_append_right (by omega)] at hi
      have h9 := List.eq_of_mem_replicate (List.mem_of_getElem? hi)
      cases h9
section CALL
variable {l : Launch} {w : Wd} {own : String} {cc : ByteArray} {nL : Nat} {d : Nat} {Q : Option MV → Mem → Prop} {pc : Nat} {L : List (Option MV)} {M : Mem}
theorem e_iret {x : Int} (hd : decode cc pc = .ok (.ireturn, 1)) (hq : Q (some (vI x)) M) : WM l w own cc nL (some .int) d Q pc L [vI x] M := by
  intro p e s m args below meth c H locs ls hF hE hS hA hP hSS hM hL hst
  exact W.iret (v := Int32.ofInt x) hF.1 hF.2.1 hE.1 (fun t ht _ => ⟨⟨some (vI x), M, rfl, fun v hv => by cases hv; exact hst _ List.mem_cons_self, hq, by rw [ht]; exact hP, hM⟩, hSS.F ht⟩) hSS.2.2 hd hE.2
theorem e_zret {x : Int} (hd : decode cc pc = .ok (.ireturn, 1)) (hx : x = 0 ∨ x = 1) (hq : Q (some (vI x)) M) : WM l w own cc nL (some .boolean) d Q pc L [vI x] M := by
  intro p e s m args below meth c H locs ls hF hE hS hA hP hSS hM hL hst
  exact W.zret (v := Int32.ofInt x) hF.1 hF.2.1 hE.1 (by rcases hx with rfl | rfl <;> rfl) (fun t ht _ => ⟨⟨some (vI x), M, rfl, fun v hv => by cases hv; exact hst _ List.mem_cons_self, hq, by rw [ht]; exact hP, hM⟩, hSS.F ht⟩) hSS.2.2 hd hE.2
theorem e_lret {x : Int} (hd : decode cc pc = .ok (.lreturn, 1)) (hq : Q (some (vL x)) M) : WM l w own cc nL (some .long) d Q pc L [vL x] M := by
  intro p e s m args below meth c H locs ls hF hE hS hA hP hSS hM hL hst
  exact W.lret (v := Int64.ofInt x) hF.1 hF.2.1 hE.1 (fun t ht _ => ⟨⟨some (vL x), M, rfl, fun v hv => by cases hv; exact hst _ List.mem_cons_self, hq, by rw [ht]; exact hP, hM⟩, hSS.F ht⟩) hSS.2.2 hd hE.2
theorem e_vret (hd : decode cc pc = .ok (.return_, 1)) (hq : Q none M) : WM l w own cc nL none d Q pc L [] M := by
  intro p e s m args below meth c H locs ls hF hE hS hA hP hSS hM hL hst
  exact W.vret hF.1 hF.2.1 hE.1 (fun t ht _ => ⟨⟨none, M, rfl, (fun v hv => by cases hv), hq, by rw [ht]; exact hP, hM⟩, hSS.F ht⟩) hSS.2.2 hd hE.2
end CALL
/-- what the tables say of a method that is called -/
def CY (y : MethodName) (bytes : ByteArray) (maxL : Nat) (ret : Option FieldType) (n : Nat) : Prop := Cond.code y bytes maxL ret ∈ TBL ∧ Cond.initialized y.cls ∈ TBL ∧ y.cls ≠ "java/lang/invoke/MethodHandle" ∧ y.cls ≠ "java/lang/invoke/VarHandle" ∧ (parseMethodDescriptor y.desc).map (fun d => d.parameters.length) = some n
def CV (y : MethodName) : Prop := Cond.instanceMethod y ∈ TBL ∧ Cond.selects y.cls y y ∈ TBL
def ROk (R : Room) (cs sl d maxL : Nat) : Prop := (d + 1 ≤ R.frames ∧ 8 + (maxL + 11) + 64 * d ≤ R.locals) ∧ cs + 0 ≤ R.cells ∧ sl + 0 ≤ R.slots
theorem rok {d d' maxL : Nat} (h : d' + 1 ≤ d) (hm : maxL ≤ 45) : ROk (rmD d) 0 0 d' maxL := ⟨⟨h, by show _ ≤ 64 * d; omega⟩, Nat.le_refl 0, Nat.le_refl 0⟩
def wt : List MV → Nat
  | [] => 0
  | .inr (.inl _) :: r => 2 + wt r
  | _ :: r => 1 + wt r
theorem wt_ok (w : Wd) : ∀ st : List MV, ((st.map (tv w)).map fun v => v.category).sum = wt st
  | [] => rfl
  | .inr (.inl x) :: r => by
    have := wt_ok w r
    simp [wt, tv, Value.category] at this ⊢
    omega
  | .inl x :: r => by
    have := wt_ok w r
    simp [wt, tv, Value.category] at this ⊢
    omega
  | .inr (.inr none) :: r => by
    have := wt_ok w r
    simp [wt, tv, Value.category] at this ⊢
    omega
  | .inr (.inr (some x)) :: r => by
    have := wt_ok w r
    simp [wt, tv, Value.category] at this ⊢
    omega
theorem TBL_goodIn {x : Cond} (h : x ∈ TBL) : GoodIn TBL (x :: TBL) := fun z hz => (List.mem_cons.mp hz).elim (fun e => by rw [e]; exact ⟨h, good_of_word (TBL_good h)⟩) (fun hz => ⟨hz, good_of_word (TBL_good hz)⟩)
section CALL2
variable {l : Launch} {w : Wd} {own : String} {cc : ByteArray} {nL : Nat} {R : Room} {cs sl : Nat} {A : State → Nat → Prop} {Qf : List Frame → Array Value → State → State → Prop} {Ex : State → Array Value → Method → Prop} {pc : Nat} {L : List (Option MV)} {st : List MV} {M : Mem}
/-- behind a call -/
theorem afterCall {p : Program} {e : Env} {s : State} {m : MethodId} {args : Array Value} {below : List Frame} {meth : Method} {c : Code} {H : Heap} {locs : List Loc} {ls : Array Slot} {Q : Option MV → Mem → Prop} {a : Array Value} {st0 : List Value}
    (hr : va_Run p l e R s m args below meth c H locs cs sl 0 0 (F0 m pc ls st0) (st.map (tv w)) (MTq w Q a) (InW w)) (hA : ∀ a, InW w a → A s a) (hSS : va_S (A s) s.heap H locs)
    (kk : ∀ (r : Option MV) (M' : Mem) (H1 : Heap) (locs1 : List Loc), Q r M' → (∀ v ∈ r, inR v) → va_P w.2.1 CL (world w M') H1 → RM M' → va_S (A s) s.heap H1 locs1 → W p l e R s m args below meth c H1 locs1 cs sl (Qf below args s) (F0 m (pc + 3) ls ((r.toList ++ st).map (tv w)))) :
    W p l e R s m args below meth c H locs cs sl (Qf below args s) (F0 m pc ls st0) := by
  intro T hT X
  obtain ⟨v, st₀, t, T', Ls, h0, X', hL, e1, e2, ⟨⟨r, M', hv, hin, hQ, hP', hM'⟩, hz, hk⟩, stp⟩ := hr T hT X
  have hv : v = r.map (tv w) := by cases hv; rfl
  subst hv
  rw [h0] at hz hk
  have hS1 : va_S (A s) s.heap T'.heap (locs ++ Ls) := ⟨Nat.le_trans hSS.1 (by rw [e1]; exact hz), fun q h1 h2 => by rw [e1, hk q (Nat.lt_of_lt_of_le h1 hSS.1) (fun z => h2 (hA q z))]; exact hSS.2.1 q h1 h2, fun q hq => by
      rcases List.mem_append.mp hq with h | h
      · exact hSS.2.2 q h
      · exact hA _ (hL q h)⟩
  obtain ⟨t2, a1, b1⟩ := kk r M' T'.heap (locs ++ Ls) hQ hin (by rw [e1]; exact hP') hM' hS1 T' rfl X'
  refine ⟨t2, stp t2 ?_, b1⟩
  have e3 : (r.toList ++ st).map (tv w) = (r.map (tv w)).toList ++ st.map (tv w) := by cases r <;> simp
  rw [e3] at a1
  exact a1
theorem callPre {s : State} {H : Heap} {locs : List Loc} {av : List Value} (hS : St w (A s) s s.heap) (hA : ∀ a, InW w a → A s a) (hSS : va_S (A s) s.heap H locs) (hP : va_P w.2.1 CL (world w M) H) (hM : RM M) : ∀ U : State, U.heap = H → s.WarmedH U.vm → va_Pc av (MTpre w M) av.toArray U := by
  intro U hU hW
  refine ⟨rfl, ?_, by rw [hU]; exact hP, hM⟩
  rw [hU]
  exact ((hS.heap (fun a h1 h2 => hSS.2.1 a h1 h2)).narrow hA).warm hW
theorem callB9 {s : State} {args : Array Value} {y : MethodName} {bytes : ByteArray} {maxL n i d : Nat} {ret : Option FieldType} (hts : ∀ x ∈ TBL, x.before args s = true) (hY : CY y bytes maxL ret n) (hlk : Cond.methodLink own i y ∈ TBL) (hR : ROk R cs sl d maxL) :
    CallB R s args own i y bytes maxL ret (.code y bytes maxL ret :: TBL) (rmD d) 0 0 n :=
  callB_of n hts (TBL_goodIn hY.1) rfl rfl rfl (hts _ hY.2.1) (hts _ hlk) hY.2.2 hR.1
theorem e_callV {y : MethodName} {bytes : ByteArray} {maxL n i d o ci N : Nat} {ret : Option FieldType} {fds : List Nat} {T : u_T} {as : List MV} {Q : Option MV → Mem → Prop} {st0 : List MV}
    (hM : MT l w y bytes maxL ret d (vR o :: as) M Q) (hY : CY y bytes maxL ret n) (hV : CV y) (hlk : Cond.methodLink own i y ∈ TBL) (hl : lay[o]? = some (.inl (ci, fds))) (hc : CL[ci]? = some (y.cls, T, N)) (hn : as.length = n) (hs0 : st0 = as.reverse ++ vR o :: st) (hR : ROk R cs sl d maxL) (hwt : wt st ≤ 8) (hd : decode cc pc = .ok (.invokevirtual i, 3))
    (k : ∀ r M', Q r M' → WW l w own cc nL R cs sl A Qf Ex (pc + 3) L (r.toList ++ st) M') : WW l w own cc nL R cs sl A Qf Ex pc L st0 M := by
  intro p e s m args below meth c H locs ls hF hE hS hA hP hSS hMM hL hst
  subst hs0
  have has : ∀ v ∈ vR o :: as, inR v := fun v hv => hst v (by
    rcases List.mem_cons.mp hv with h | h
    · rw [h]; exact List.mem_append_right _ List.mem_cons_self
    · exact List.mem_append_left _ (List.mem_reverse.mpr h))
  have hcls : ∃ cellB : Cell, H[w.1 o]? = some cellB ∧ cellB.vm.isStatics = false ∧ s.vm.findClass y.cls = some cellB.cls := by
    obtain ⟨r, h1, cell, q1, q2, q3, -⟩ := hP o _ (world_get hl)
    have hr : r = (y.cls, T, N) := Option.some.inj (h1.symm.trans hc)
    subst hr
    exact ⟨cell, q1, by rw [q3]; rfl, by rw [q2]; exact (hS.2.1.1 ci _ hc).2.1⟩
  have hrun := va_runV (cells := cs) (slots := sl) (As := as.map (tv w)) (b := w.1 o) (rest := st.map (tv w)) (g := F0 m pc ls ((as.reverse ++ vR o :: st).map (tv w))) (p := p) (e := e) (below := below) (meth := meth) (locs := locs) ⟨hF.1, hF.2.1, hF.2.2.1, hF.2.2.2.1, hF.2.2.2.2⟩ (hM has) ⟨callB9 (cs := cs) (sl := sl) hF.2.2.2.2 hY hlk hR, hF.2.2.2.2 _ hV.1, hF.2.2.2.2 _ hV.2⟩ ⟨MTpre.blind, hcls, callPre hS hA hSS hP hMM⟩ rfl (by rw [List.length_map]; exact hn) hL.1 (by simp [tv]) (by rw [wt_ok]; show 2 * 0 + wt st ≤ 8; omega) hd hR.2
  refine afterCall hrun hA hSS (fun r M' H1 locs1 hQ hin hP' hM' hS1 => ?_)
  exact k r M' hQ p e s m args below meth c H1 locs1 ls hF hE hS hA hP' hS1 hM' hL (fun v hv => by
    rcases List.mem_append.mp hv with h | h
    · exact hin v (Option.mem_toList.mp h)
    · exact hst v (List.mem_append_right _ (List.mem_cons_of_mem _ h)))
theorem e_callS {y : MethodName} {bytes : ByteArray} {maxL n i d : Nat} {ret : Option FieldType} {as : List MV} {Q : Option MV → Mem → Prop} {st0 : List MV}
    (hM : MT l w y bytes maxL ret d as M Q) (hY : CY y bytes maxL ret n) (hV : Cond.static y ∈ TBL) (hlk : Cond.methodLink own i y ∈ TBL) (hn : as.length = n) (hs0 : st0 = as.reverse ++ st) (hR : ROk R cs sl d maxL) (hwt : wt st ≤ 8) (hd : decode cc pc = .ok (.invokestatic i, 3))
    (k : ∀ r M', Q r M' → WW l w own cc nL R cs sl A Qf Ex (pc + 3) L (r.toList ++ st) M') : WW l w own cc nL R cs sl A Qf Ex pc L st0 M := by
  intro p e s m args below meth c H locs ls hF hE hS hA hP hSS hMM hL hst
  subst hs0
  have has : ∀ v ∈ as, inR v := fun v hv => hst v (List.mem_append_left _ (List.mem_reverse.mpr hv))
  have hrun := va_runS (cells := cs) (slots := sl) (H := H) (As := as.map (tv w)) (rest := st.map (tv w)) (g := F0 m pc ls ((as.reverse ++ st).map (tv w))) (p := p) (e := e) (below := below) (meth := meth) (locs := locs) ⟨hF.1, hF.2.1, hF.2.2.1, hF.2.2.2.1, hF.2.2.2.2⟩ (hM has) ⟨callB9 (cs := cs) (sl := sl) hF.2.2.2.2 hY hlk hR, hF.2.2.2.2 _ hV⟩ ⟨MTpre.blind, callPre hS hA hSS hP hMM⟩ rfl (by rw [List.length_map]; exact hn) hL.1 (by simp) (by rw [wt_ok]; show 2 * 0 + wt st ≤ 8; omega) hd hR.2
  refine afterCall hrun hA hSS (fun r M' H1 locs1 hQ hin hP' hM' hS1 => ?_)
  exact k r M' hQ p e s m args below meth c H1 locs1 ls hF hE hS hA hP' hS1 hM' hL (fun v hv => by
    rcases List.mem_append.mp hv with h | h
    · exact hin v (Option.mem_toList.mp h)
    · exact hst v (List.mem_append_right _ h))
end CALL2
