/-! multianewarray of 30 rows of 32 ints, over the machine itself: the outer array at h, its rows behind it, one by one -/
def gOut (cA : ClassId) (h i : Nat) : Cell := vp_cell cA (30, .inr (.inr (.inr (.inr (fun j => if j < i then some (h + 1 + j) else none)))))
def gRow (cB : ClassId) : Cell := vp_cell cB (32, .inl (fun _ => 0))
def gSt (S : State) (cA cB : ClassId) : Nat → State
  | 0 => S.pushCell (gOut cA S.heap.size 0)
  | i + 1 => ((gSt S cA cB i).pushCell (gRow cB)).setCell S.heap.size (gOut cA S.heap.size (i + 1))
theorem gOut_new (cA : ClassId) (h : Nat) : ({ cls := cA, slots := Array.replicate 30 .null, vm := .none } : Cell) = gOut cA h 0 := by
  rw [arrV_new]
  refine Eq.trans (congrArg (arrV cA 30) (funext fun j => ?_)) (vp_cell_q cA 30 _).symm
  rw [if_neg (Nat.not_lt_zero j)]
  rfl
theorem gRow_new (cB : ClassId) : ({ cls := cB, slots := Array.replicate 32 (.int 0), vm := .none } : Cell) = gRow cB := by
  rw [arrV_new]
  rfl
theorem gOut_set (cA : ClassId) (h i : Nat) : (gOut cA h i).setSlot i (.ref (h + 1 + i)) = gOut cA h (i + 1) := by
  unfold gOut
  rw [vp_cell_q, arrV_store, vp_cell_q]
  refine congrArg (arrV cA 30) (funext fun j => ?_)
  show (if j = i then Value.ref (h + 1 + i) else va_rf (if j < i then some (h + 1 + j) else none)) = _
  by_cases e : j = i
  · subst e
    rw [if_pos rfl, if_pos (Nat.lt_succ_self j)]
    rfl
  · rw [if_neg e]
    by_cases hl : j < i
    · rw [if_pos hl, if_pos (Nat.lt_succ_of_lt hl)]
    · rw [if_neg hl, if_neg (by omega)]
theorem gOut_size (cA : ClassId) (h i : Nat) : (gOut cA h i).slots.size = 30 := by
  unfold gOut
  rw [vp_cell_q]
  exact arrV_size cA 30 _
theorem gRow_size (cB : ClassId) : (gRow cB).slots.size = 32 := by
  unfold gRow
  rw [vp_cell_i]
  exact arrV_size cB 32 _
theorem gSt_top (S : State) (f : JFrame) (cA cB : ClassId) : ∀ i : Nat, gSt (S.setTop f) cA cB i = (gSt S cA cB i).setTop f
  | 0 => rfl
  | i + 1 => by
    show ((gSt (S.setTop f) cA cB i).pushCell (gRow cB)).setCell S.heap.size (gOut cA S.heap.size (i + 1)) = _
    rw [gSt_top S f cA cB i]
    rfl
section GRID
variable {p : Program} {l : Launch} {e : Env} {R : Room} {s : State} {m : MethodId} {args : Array Value} {below : List Frame} {meth : Method} {c : Code} {S T : State} {L : List Loc} {cs sl n1 : Nat}
/-- what stands when i rows are made -/
def GF (p : Program) (l : Launch) (e : Env) (R : Room) (s : State) (m : MethodId) (args : Array Value) (below : List Frame) (meth : Method) (c : Code) (S : State) (cs sl n1 : Nat) (cA cB : ClassId) (i : Nat) : Prop :=
  (∃ L1 : List Loc, Stand p l e R s m args below meth c (gSt S cA cB i) L1 (cs + 1 + i) (sl + 30 + 32 * i) ∧ va_S (GE n1) s.heap (gSt S cA cB i).heap L1) ∧
  (gSt S cA cB i).vm = S.vm ∧ (gSt S cA cB i).heap.size = S.heap.size + 1 + i ∧ (gSt S cA cB i).heap[S.heap.size]? = some (gOut cA S.heap.size i) ∧
  (∀ x : Nat, x < S.heap.size → (gSt S cA cB i).heap[x]? = S.heap[x]?) ∧ ∀ j : Nat, j < i → (gSt S cA cB i).heap[S.heap.size + 1 + j]? = some (gRow cB)
theorem GF.all (X : Stand p l e R s m args below meth c S L cs sl) (hA : va_S (GE n1) s.heap S.heap L) (hn : n1 ≤ S.heap.size) (cA cB : ClassId) : ∀ i : Nat, GF p l e R s m args below meth c S cs sl n1 cA cB i
  | 0 => by
    have h := X.pushed (gOut cA S.heap.size 0)
    rw [gOut_size] at h
    have o : ∀ x : Nat, x < S.heap.size → (gSt S cA cB 0).heap[x]? = S.heap[x]? := fun x hx => State.heap_pushCell_of_lt _ _ hx
    have z : (gSt S cA cB 0).heap.size = S.heap.size + 1 := Array.size_push _
    exact ⟨⟨L, h, vaS_grow hA (by rw [z]; omega) o⟩, rfl, z, State.heap_pushCell_size _ _, o, fun j hj => absurd hj (Nat.not_lt_zero j)⟩
  | i + 1 => by
    obtain ⟨⟨L1, X1, A1⟩, v1, z1, c1, o1, r1⟩ := GF.all X hA hn cA cB i
    have hlt : S.heap.size < (gSt S cA cB i).heap.size := by rw [z1]; omega
    have z2 : ((gSt S cA cB i).pushCell (gRow cB)).heap.size = S.heap.size + 1 + i + 1 := (Array.size_push _).trans (by rw [z1])
    have o2 : ∀ x : Nat, x < (gSt S cA cB i).heap.size → ((gSt S cA cB i).pushCell (gRow cB)).heap[x]? = (gSt S cA cB i).heap[x]? := fun x hx => State.heap_pushCell_of_lt _ _ hx
    have c2 : ((gSt S cA cB i).pushCell (gRow cB)).heap[S.heap.size]? = some (gOut cA S.heap.size i) := (o2 _ hlt).trans c1
    have X2 := (X1.pushed (gRow cB)).stored c2 i (.ref (S.heap.size + 1 + i))
    rw [gOut_set, gRow_size] at X2
    have A2 : va_S (GE n1) s.heap ((gSt S cA cB i).pushCell (gRow cB)).heap L1 := vaS_grow A1 (by rw [z2, z1]; omega) o2
    have z3 : (gSt S cA cB (i + 1)).heap.size = ((gSt S cA cB i).pushCell (gRow cB)).heap.size := Array.size_setIfInBounds
    have o3 : ∀ x : Nat, x ≠ S.heap.size → (gSt S cA cB (i + 1)).heap[x]? = ((gSt S cA cB i).pushCell (gRow cB)).heap[x]? := fun x hx => State.heap_setCell_other (Ne.symm hx)
    refine ⟨⟨L1 ++ [⟨S.heap.size, i⟩], ?_, A2.put z3 o3 hn⟩, v1, by rw [z3, z2]; omega, ?_, fun x hx => ?_, fun j hj => ?_⟩
    · rw [show cs + 1 + (i + 1) = cs + 1 + i + 1 by omega, show sl + 30 + 32 * (i + 1) = sl + 30 + 32 * i + 32 by omega]
      exact X2
    · show (((gSt S cA cB i).pushCell (gRow cB)).heap.setIfInBounds S.heap.size _)[S.heap.size]? = _
      rw [Array.getElem?_setIfInBounds, if_pos rfl, if_pos (by rw [z2]; omega)]
    · rw [o3 x (Nat.ne_of_lt hx), o2 x (by rw [z1]; omega)]
      exact o1 x hx
    · rw [o3 _ (by omega)]
      by_cases hl : j < i
      · rw [o2 _ (by rw [z1]; omega)]
        exact r1 j hl
      · rw [show j = i by omega, ← z1]
        exact State.heap_pushCell_size _ _
theorem gMake {kA kB : Class} {cA cB cI : ClassId} (X : Stand p l e R s m args below meth c S L cs sl) (hA : va_S (GE n1) s.heap S.heap L) (hn : n1 ≤ S.heap.size)
    (hkA : S.vm.classes[cA]? = some kA) (hiA : kA.kind = .array cB (.array .int)) (hkB : S.vm.classes[cB]? = some kB) (hiB : kB.kind = .array cI .int)
    (hc : cs + 31 ≤ R.cells) (hs : sl + 990 ≤ R.slots) (f : JFrame) {Q : Addr → Pre} {E : CtlPost} {d : Bool} {acts : List Action}
    (hq : ∀ (d1 : Bool) (acts1 : List Action), Q S.heap.size d1 acts1 ((gSt S cA cB 30).setTop f)) : wp (multianewarray.make cA [30, 32]) Q E e d acts (S.setTop f) := by
  have h30 : (30 : Int32).toNatClampNeg = 30 := by decide
  have h32 : (32 : Int32).toNatClampNeg = 32 := by decide
  have n30 : ¬ (30 : Int32) < 0 := by decide
  have n32 : ¬ (32 : Int32) < 0 := by decide
  have e30 : ((30 : Int32) == 0) = false := by decide
  have l30 : ¬ 30 > e.platform.arrayLengthLimit := by rw [Launch.admits_arrayLengthLimit X.admits]; decide
  have l32 : ¬ 32 > e.platform.arrayLengthLimit := by rw [Launch.admits_arrayLengthLimit X.admits]; decide
  have b30 : ¬ 30 * componentBytes (.array .int) > e.platform.maxHeapBytes := by rw [Launch.admits_maxHeapBytes X.admits]; decide
  have b32 : ¬ 32 * componentBytes .int > e.platform.maxHeapBytes := by rw [Launch.admits_maxHeapBytes X.admits]; decide
  obtain ⟨q1, q2⟩ := X.roomAbove (a := 1) (b := 30) (by omega) (by omega)
  rw [multianewarray.make]
  simp only [wp_bind', W.ite, n30, if_false, wp_pure', W.theClass, State.vm_setTop, hkA, hiA, Option.some.injEq, exists_eq_left', h30]
  refine W.newArray_of (s := S.setTop f) hkA hiA l30 b30 q1 q2 rfl (fun acts1 => ?_)
  have eN : (S.setTop f).pushCell { cls := cA, slots := Array.replicate 30 .null } = (gSt S cA cB 0).setTop f := by
    rw [State.pushCell_setTop]
    exact congrArg (fun x : Cell => (S.pushCell x).setTop f) (gOut_new cA S.heap.size)
  rw [eN]
  simp only [e30, Bool.false_eq_true, if_false, W.ite, wp_bind', wp_pure', Std.Legacy.Range.forIn_eq_forIn_range']
  refine wp_forIn_inv (fun rest s1 => ∃ i : Nat, i ≤ 30 ∧ rest = List.range' i (30 - i) ∧ s1 = (gSt S cA cB i).setTop f) _ _ ⟨0, Nat.zero_le _, rfl, rfl⟩ ?_ ?_
  · rintro x rest s1 d1 acts2 Q1 ⟨i, hi, hl, rfl⟩ hnext
    have hx : i < 30 := by
      rcases Nat.lt_or_ge i 30 with h | h
      · exact h
      · rw [show 30 - i = 0 by omega] at hl
        cases hl
    rw [show 30 - i = (30 - (i + 1)) + 1 by omega, List.range'_succ] at hl
    obtain ⟨rfl, hr⟩ := List.cons.inj hl
    obtain ⟨⟨L1, X1, -⟩, v1, z1, c1, o1, r1⟩ := GF.all X hA hn cA cB x
    obtain ⟨u1, u2⟩ := X1.roomAbove (a := 1) (b := 32) (by omega) (by omega)
    have hkB1 : (gSt S cA cB x).vm.classes[cB]? = some kB := by rw [v1]; exact hkB
    have hkA1 : (gSt S cA cB x).vm.classes[cA]? = some kA := by rw [v1]; exact hkA
    simp only [wp_bind']
    rw [multianewarray.make]
    simp only [wp_bind', W.ite, n32, if_false, wp_pure', W.theClass, State.vm_setTop, hkB1, hiB, Option.some.injEq, exists_eq_left', h32]
    refine W.newArray_of (s := (gSt S cA cB x).setTop f) hkB1 hiB l32 b32 u1 u2 rfl (fun acts3 => ?_)
    simp only [wp_bind', W.writeLoc, wp_pure']
    refine ⟨gOut cA S.heap.size x, ?_, (fun h => by cases h), by rw [gOut_size]; exact hx, ?_, hnext _ _ _ ⟨x + 1, hx, hr, ?_⟩⟩
    · exact (State.heap_pushCell_of_lt _ _ (show S.heap.size < (gSt S cA cB x).heap.size by rw [z1]; omega)).trans c1
    · show State.fitsSlot _ cA .none x _ = true
      simp [State.fitsSlot, State.slotType?, hkA1, hiA, fits]
    · show (((gSt S cA cB x).pushCell { cls := cB, slots := Array.replicate 32 (.int 0), vm := .none }).setCell S.heap.size ((gOut cA S.heap.size x).setSlot x (.ref (gSt S cA cB x).heap.size))).setTop f = _
      rw [z1, gOut_set, gRow_new]
      rfl
  · rintro s1 d1 acts2 ⟨i, hi, hl, rfl⟩
    have hx : i = 30 := by
      rcases Nat.lt_or_ge i 30 with h | h
      · rw [show 30 - i = (30 - (i + 1)) + 1 by omega, List.range'_succ] at hl
        cases hl
      · omega
    subst hx
    simp only [wp_pure']
    exact hq _ _
end GRID
section MAKE3
variable {l : Launch} {w : Wd} {own : String} {cc : ByteArray} {nL : Nat} {R : Room} {n0 n1 : Nat} {Qf : List Frame → Array Value → State → State → Prop} {Ex : State → Array Value → Method → Prop} {cs sl pc : Nat} {lv : List (Nat × Value)} {st : List Value} {es : List va_E}
theorem c_mna {i k cs' sl' : Nat} (hlk : Cond.classLink own i ("[" ++ (FieldType.array .int).toString) ∈ TBL)
    (hc : cs + 1 + 30 = cs') (hc2 : cs' ≤ R.cells) (hs : sl + 30 + 30 * 32 = sl') (hs2 : sl' ≤ R.slots) (hk : es.length = k) (hd : decode cc pc = .ok (.multianewarray i 2, 4)) (kk : CW l w own cc nL R n0 n1 Qf Ex cs' sl' (pc + 4) lv (.ref (n1 + k) :: st) (es ++ (.inl (w.2.2 5, 30, .inr (.inr (.inr (.inr (fun i => if i < 30 then some (n1 + k + 1 + i) else none))))) :: List.replicate 30 (zI w 32)))) : CW l w own cc nL R n0 n1 Qf Ex cs sl pc lv (.int 32 :: .int 30 :: st) es := by
  intro p e s m args below meth c H locs ls hF hE hS h01 h1s hP hSS hL
  subst hc; subst hs; subst hk
  intro T hT Xs
  have hSS1 : va_S (GE n1) s.heap T.heap locs := by rw [hT]; exact hSS
  have hsz : T.heap.size = n1 + es.length := by rw [hT]; exact hP.1
  have hpl : e.platform.magicAccessors = ({} : Platform).magicAccessors := by rw [Xs.admits.platform]
  obtain ⟨cB, cA, kA, fB, -, hkA, hiA, fA⟩ := arrayOverA_spec hS.2.2
  obtain ⟨cB2, kB, cI, fB2, hkB, hiB⟩ := Cond.arrayClass_spec (hF.2.2.2.2 _ aI)
  have eB : cB2 = cB := Option.some.inj (fB2.symm.trans fB)
  subst eB
  obtain ⟨c0, f0, hcl⟩ := Cond.classLink_spec hF.2.2.2.1 (hF.2.2.2.2 _ hlk) e.platform hpl
  have e0 : c0 = cA := Option.some.inj (f0.symm.trans fA)
  subst e0
  obtain ⟨hg, hw, -⟩ := State.classEntry (e := e) Xs.warmed hcl
  generalize T.vm.noted m.cls i (.cls c0) = vm1 at hg hw
  obtain ⟨kA1, hkA1, eA⟩ := hw.alike.2.2 _ _ hkA
  obtain ⟨kB1, hkB1, eB1⟩ := hw.alike.2.2 _ _ hkB
  have hiA1 : kA1.kind = .array cB2 (.array .int) := by rw [eA]; exact hiA
  have hiB1 : kB1.kind = .array cI .int := by rw [eB1]; exact hiB
  have hA5 : c0 = w.2.2 5 := Option.some.inj (fA.symm.trans (hS.1.2.1.2 5 _ rfl).2)
  have hA0 : cB2 = w.2.2 0 := Option.some.inj (fB.symm.trans (hS.1.2.1.2 0 _ rfl).2)
  have X1 := Xs.noted hw
  have hn1 : n1 ≤ (T.setVm vm1).heap.size := by show n1 ≤ T.heap.size; omega
  obtain ⟨⟨L1, X2, A2⟩, v2, z2, c2, o2, r2⟩ := GF.all (S := T.setVm vm1) X1 hSS1 hn1 c0 cB2 30
  have hz : (T.setVm vm1).heap = H := hT
  have hzz : H.size = n1 + es.length := hP.1
  rw [hz, hzz] at c2 r2 z2
  rw [hz] at o2
  unfold gOut at c2
  unfold gRow at r2
  generalize hF9 : gSt (T.setVm vm1) c0 cB2 30 = F at X2 A2 v2 z2 c2 o2 r2
  have hP1 : CP w n1 (es ++ (.inl (w.2.2 5, 30, .inr (.inr (.inr (.inr (fun i => if i < 30 then some (n1 + es.length + 1 + i) else none))))) :: List.replicate 30 (zI w 32))) F.heap := by
    refine ⟨by rw [z2, List.length_append, List.length_cons, List.length_replicate]; omega, fun j e9 hj => ?_⟩
    by_cases hl : j < es.length
    · rw [List.getElem?_append_left hl] at hj
      exact (hP.2 j e9 hj).kept (o2 _ (by rw [hzz]; show n1 + j < _; omega))
    · rw [List.getElem?_append_right (by omega)] at hj
      obtain ⟨q, rfl⟩ : ∃ q, j = es.length + q := ⟨j - es.length, by omega⟩
      rw [show es.length + q - es.length = q by omega] at hj
      cases q with
      | zero =>
        cases hj
        rw [← hA5]
        exact c2
      | succ q =>
        rw [List.getElem?_cons_succ] at hj
        have hq : q < 30 := by
          have := (List.getElem?_eq_some_iff.mp hj).1
          rw [List.length_replicate] at this
          exact this
        have he := List.eq_of_mem_replicate (List.mem_of_getElem? hj)
        subst he
        have := r2 q hq
        rw [show n1 + es.length + 1 + q = n1 + (es.length + (q + 1)) by omega, hA0] at this
        exact this
  obtain ⟨t2, a1, b1⟩ := kk p e s m args below meth c F.heap L1 ls hF hE hS h01 h1s hP1 A2 hL F rfl X2
  refine ⟨t2, ?_, b1⟩
  have hdc : decode c.code pc = .ok (.multianewarray i 2, 4) := by rw [hF.2.1]; exact hd
  jvm_step Xs.here [hF.1, hdc]
  simp only [multianewarray.sem, wp_bind', W.resolveClassAt_links (vm' := vm1) (t := T.setTop (F0 m pc ls (.int 32 :: .int 30 :: st))) (State.method?_setTop _ Xs.here.top) hg]
  rw [W.popN, if_neg (by decide)]
  refine ⟨F0 m pc ls (.int 32 :: .int 30 :: st), State.topJava?_setTop' (s := T.setVm vm1) _ Xs.here.top, [.int 30, .int 32], st, rfl, rfl, ?_⟩
  simp only [List.mapM_cons, List.mapM_nil, wp_bind', wp_pure']
  have eS : (((T.setTop (F0 m pc ls (.int 32 :: .int 30 :: st))).setVm vm1).setTop (F0 m pc ls st)) = (T.setVm vm1).setTop (F0 m pc ls st) := by
    show ((T.setVm vm1).setTop _).setTop _ = _
    rw [State.setTop_setTop]
  rw [eS]
  refine gMake X1 hSS1 hn1 hkA1 hiA1 hkB1 hiB1 (by omega) (by omega) _ (fun d1 acts1 => ?_)
  rw [hF9]
  simp only [wp_bind', W.mark, W.pushRef, State.topJava?_setTop' _ X2.here.top, Option.some.injEq, exists_eq_left', State.setTop_setTop]
  intro acts
  simp [jvm, X2.here.top]
  rw [hsz]
  exact a1
end MAKE3
theorem lc_X4_11 : Cond.classLink RX4 11 ("[" ++ (FieldType.array .int).toString) ∈ TBL := TBL_in (tm1 (List.mem_of_getElem? (i := 130) rfl)) rfl
theorem fk_X4_13 : Cond.fieldLink RX4 13 RX4 (TX4 0).2.1 (TX4 0).2.2.1 ∈ TBL := TBL_in (tm1 (List.mem_of_getElem? (i := 132) rfl)) rfl
theorem fk_X4_16 : Cond.fieldLink RX4 16 RX4 (TX4 1).2.1 (TX4 1).2.2.1 ∈ TBL := TBL_in (tm1 (List.mem_of_getElem? (i := 133) rfl)) rfl
theorem fk_X4_20 : Cond.fieldLink RX4 20 RX4 (TX4 2).2.1 (TX4 2).2.2.1 ∈ TBL := TBL_in (tm1 (List.mem_of_getElem? (i := 135) rfl)) rfl
theorem mk_X4 {l : Launch} {w : Wd} {n0 n1 : Nat} : MC l w yX4_init cX4_init 1 rmX4 n0 n1 [] [zX4] (esX4 w n1) := by
  refine MC.of (own := RX4) [(0, .ref n1)] ⟨by decide, rfl, rfl⟩ rfl (Nat.le_of_ble_eq_true rfl) ?_
  refine CW.cv (es' := [.inr (4, [.null, .int 0, .int 0])]) rfl ?_
  refine c_aload 0 dX4_init_0 rfl rfl ?_
  refine c_obj oi_X4_5 oi_in oi_co (by decide) (by decide) dX4_init_1 ?_
  refine c_aload 0 dX4_init_4 rfl rfl ?_
  refine c_bipush (v := 30) dX4_init_5 (by decide) ?_
  refine c_bipush (v := 32) dX4_init_7 (by decide) ?_
  refine c_mna (k := 1) (cs' := 31) (sl' := 990) lc_X4_11 rfl (by decide) rfl (by decide) rfl dX4_init_9 ?_
  refine CW.cv (es' := .inr (4, [.null, .int 0, .int 0]) :: .inl (w.2.2 5, 30, .inr (.inr (.inr (.inr (fun i => if i < 30 then some (n1 + 1 + 1 + i) else none))))) :: List.replicate 30 (zI w 32)) rfl ?_
  refine c_put (ci := 4) (k := 0) (T := TX4) (C := RX4) (N := 3) (fs' := [.ref (n1 + 1), .int 0, .int 0]) (Tl := .inl (w.2.2 5, 30, .inr (.inr (.inr (.inr (fun i => if i < 30 then some (n1 + 1 + 1 + i) else none))))) :: List.replicate 30 (zI w 32)) rfl fk_X4_13 (by decide) ⟨rfl, rfl⟩ (tyX4_ok 0 (by decide)) rfl rfl (Nat.le_of_ble_eq_true rfl) rfl (fun _ _ _ h => h.2.2) dX4_init_13 ?_
  refine c_aload 0 dX4_init_16 rfl rfl ?_
  refine c_iconst (v := 0) dX4_init_17 (by decide) ?_
  refine c_put (ci := 4) (k := 1) (T := TX4) (C := RX4) (N := 3) (fs' := [.ref (n1 + 1), .int 0, .int 0]) (Tl := .inl (w.2.2 5, 30, .inr (.inr (.inr (.inr (fun i => if i < 30 then some (n1 + 1 + 1 + i) else none))))) :: List.replicate 30 (zI w 32)) rfl fk_X4_16 (by decide) ⟨rfl, rfl⟩ (tyX4_ok 1 (by decide)) rfl rfl (Nat.le_of_ble_eq_true rfl) rfl (fun _ _ _ h => h.2.2) dX4_init_18 ?_
  refine c_aload 0 dX4_init_21 rfl rfl ?_
  refine c_bipush (v := 29) dX4_init_22 (by decide) ?_
  refine c_put (ci := 4) (k := 2) (T := TX4) (C := RX4) (N := 3) (fs' := [.ref (n1 + 1), .int 0, .int 29]) (Tl := .inl (w.2.2 5, 30, .inr (.inr (.inr (.inr (fun i => if i < 30 then some (n1 + 1 + 1 + i) else none))))) :: List.replicate 30 (zI w 32)) rfl fk_X4_20 (by decide) ⟨rfl, rfl⟩ (tyX4_ok 2 (by decide)) rfl rfl (Nat.le_of_ble_eq_true rfl) rfl (fun _ _ _ h => h.2.2) dX4_init_24 ?_
  exact c_ret rfl rfl rfl dX4_init_27
