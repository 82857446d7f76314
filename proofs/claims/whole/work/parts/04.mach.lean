def strIx : List Nat := [104, 110, 112, 114, 116, 118, 120, 122, 124, 126, 128, 130, 132, 134, 136, 137, 139, 141]
def strTx : List String := ["price", "burns", "tears", "out", "buy", "light", "burn", "moths", "of", "for", "house", "draught", "candle", "thick", "length", "inch", "wax", "debt"]
def strLen : List Nat := [5, 5, 5, 3, 3, 5, 4, 5, 2, 3, 5, 7, 6, 5, 6, 4, 3, 4]
def strByt : List (List Int32) := [[112, 114, 105, 99, 101], [98, 117, 114, 110, 115], [116, 101, 97, 114, 115], [111, 117, 116], [98, 117, 121], [108, 105, 103, 104, 116], [98, 117, 114, 110], [109, 111, 116, 104, 115], [111, 102], [102, 111, 114], [104, 111, 117, 115, 101], [100, 114, 97, 117, 103, 104, 116], [99, 97, 110, 100, 108, 101], [116, 104, 105, 99, 107], [108, 101, 110, 103, 116, 104], [105, 110, 99, 104], [119, 97, 120], [100, 101, 98, 116]]
abbrev strB : Nat := 168
/-- the formatter: a reference or null -/
def siov (w : Wd) : Option Nat := if w.1 (strB + 37) = 0 then none else some (strB + 36)
/-- the String constants: their addresses are those of the numbers from strB on, those of their bytes behind them -/
def StrS (w : Wd) (A : Nat → Prop) (U : State) (H : Heap) : Prop := (∀ k, k < 18 → vk_R "CandleEnds$Reader" (strIx.getD k 0) (strTx.getD k "") (w.1 (strB + k)) U) ∧ vk_S 18 strLen strByt (fun k => w.1 (strB + k)) (fun k => w.1 (strB + 18 + k)) A U H ∧ va_Z "java/lang/String" "COMPACT_STRINGS" "Z" (.int 1) A U H ∧ va_Z "jdk/internal/util/Preconditions" "SIOOBE_FORMATTER" "Ljava/util/function/BiFunction;" (tv w (.inr (.inr (siov w)))) A U H
/-- what stays through a run -/
def St (w : Wd) (A : Nat → Prop) (U : State) (H : Heap) : Prop := AdOk w ∧ va_K w.2.1 CL (tys w) U ∧ (∀ x ∈ NW, va_Nw x U) ∧ StrS w A U H
theorem NW_warm {s U : State} (hW : s.WarmedH U.vm) (h : ∀ x ∈ NW, va_Nw x s) : ∀ x ∈ NW, va_Nw x U := by
  intro x hx
  have h1 := h x hx
  have h2 : isNest x = true := (List.mem_filter.mp hx).2
  cases x <;> first | exact va_Nw.warmF hW h1 | exact va_Nw.warmM hW h1 | exact Bool.noConfusion h2
theorem NW_same {s U : State} (hv : s.vm = U.vm) (h : ∀ x ∈ NW, va_Nw x s) : ∀ x ∈ NW, va_Nw x U := by
  intro x hx
  have h1 := h x hx
  have h2 : isNest x = true := (List.mem_filter.mp hx).2
  cases x <;> first | exact va_Nw.same rfl hv h1 | exact Bool.noConfusion h2
theorem St.warm {w : Wd} {A : Nat → Prop} {s U : State} {H : Heap} (hW : s.WarmedH U.vm) (h : St w A s H) : St w A U H :=
  ⟨h.1, va_K.moved hW.alike h.2.1, NW_warm hW h.2.2.1, fun k hk => vk_R.warm hW (h.2.2.2.1 k hk), vk_S.moved hW.alike h.2.2.2.2.1, va_Z.moved hW.alike h.2.2.2.2.2.1, va_Z.moved hW.alike h.2.2.2.2.2.2⟩
theorem St.same {w : Wd} {A : Nat → Prop} {s U : State} {H : Heap} (hv : U.vm = s.vm) (h : St w A s H) : St w A U H :=
  ⟨h.1, va_K.moved (by rw [hv]; exact Vm.Alike.refl _) h.2.1, NW_same hv.symm h.2.2.1, fun k hk => vk_R.same hv (h.2.2.2.1 k hk), vk_S.moved (by rw [hv]; exact Vm.Alike.refl _) h.2.2.2.2.1, va_Z.moved (by rw [hv]; exact Vm.Alike.refl _) h.2.2.2.2.2.1, va_Z.moved (by rw [hv]; exact Vm.Alike.refl _) h.2.2.2.2.2.2⟩
theorem St.heap {w : Wd} {A : Nat → Prop} {s : State} {H H1 : Heap} (hq : ∀ a : Nat, a < H.size → ¬ A a → H1[a]? = H[a]?) (h : St w A s H) : St w A s H1 :=
  ⟨h.1, h.2.1, h.2.2.1, h.2.2.2.1, vk_S.kept h.2.2.2.2.1 hq, va_Z.kept h.2.2.2.2.2.1 hq, va_Z.kept h.2.2.2.2.2.2 hq⟩
theorem St.narrow {w : Wd} {A B : Nat → Prop} {s : State} {H : Heap} (hAB : ∀ q, B q → A q) (h : St w A s H) : St w B s H :=
  ⟨h.1, h.2.1, h.2.2.1, h.2.2.2.1, vk_S.narrow h.2.2.2.2.1 hAB, va_Z.narrow h.2.2.2.2.2.1 hAB, va_Z.narrow h.2.2.2.2.2.2 hAB⟩
def LOK (w : Wd) (ls : Array Slot) (nL : Nat) (L : List (Option MV)) : Prop := ls.size = nL ∧ lv_wf ls ∧ L.length ≤ nL ∧ ∀ (i : Nat) (v : MV), L[i]? = some (some v) → inR v ∧ ls[i]? = some (Slot.val (tv w v))
def Fx (p : Program) (s : State) (m : MethodId) (args : Array Value) (c : Code) (own : String) (cc : ByteArray) (nL : Nat) : Prop :=
  p.tables.exec = Jvm.exec ∧ c.code = cc ∧ c.maxLocals = nL ∧ s.vm.findClass own = some m.cls ∧ ∀ x ∈ TBL, x.before args s = true
/-- THE JUDGEMENT: from the frame at pc with locals L, stack st, over a heap that holds the world with memory M, the machine comes to Qf -/
def WW (l : Launch) (w : Wd) (own : String) (cc : ByteArray) (nL : Nat) (R : Room) (cs sl : Nat) (A : State → Nat → Prop) (Qf : List Frame → Array Value → State → State → Prop) (Ex : State → Array Value → Method → Prop) (pc : Nat) (L : List (Option MV)) (st : List MV) (M : Mem) : Prop :=
  ∀ (p : Program) (e : Env) (s : State) (m : MethodId) (args : Array Value) (below : List Frame) (meth : Method) (c : Code) (H : Heap) (locs : List Loc) (ls : Array Slot),
    Fx p s m args c own cc nL → Ex s args meth → St w (A s) s s.heap → (∀ a, InW w a → A s a) → va_P w.2.1 CL (world w M) H → va_S (A s) s.heap H locs → RM M → LOK w ls nL L → (∀ v ∈ st, inR v) →
    W p l e R s m args below meth c H locs cs sl (Qf below args s) (F0 m pc ls (st.map (tv w)))
section MACH
variable {l : Launch} {w : Wd} {own : String} {cc : ByteArray} {nL : Nat} {R : Room} {cs sl : Nat} {A : State → Nat → Prop} {Qf : List Frame → Array Value → State → State → Prop} {Ex : State → Array Value → Method → Prop} {pc : Nat} {L : List (Option MV)} {st : List MV} {M : Mem}
/-- what the state itself says: the ranges of memory, locals and stack -/
theorem WW.mem (k : RM M → WW l w own cc nL R cs sl A Qf Ex pc L st M) : WW l w own cc nL R cs sl A Qf Ex pc L st M := by
  intro p e s m args below meth c H locs ls hF hE hS hA hP hSS hM hL hst
  exact k hM p e s m args below meth c H locs ls hF hE hS hA hP hSS hM hL hst
theorem WW.loc (k : (∀ (i : Nat) (v : MV), L[i]? = some (some v) → inR v) → WW l w own cc nL R cs sl A Qf Ex pc L st M) : WW l w own cc nL R cs sl A Qf Ex pc L st M := by
  intro p e s m args below meth c H locs ls hF hE hS hA hP hSS hM hL hst
  exact k (fun i v h => (hL.2.2.2 i v h).1) p e s m args below meth c H locs ls hF hE hS hA hP hSS hM hL hst
theorem WW.top {v : MV} (k : inR v → WW l w own cc nL R cs sl A Qf Ex pc L (v :: st) M) : WW l w own cc nL R cs sl A Qf Ex pc L (v :: st) M := by
  intro p e s m args below meth c H locs ls hF hE hS hA hP hSS hM hL hst
  exact k (hst _ List.mem_cons_self) p e s m args below meth c H locs ls hF hE hS hA hP hSS hM hL hst
/-- other words for the same state -/
theorem WW.cv {L' : List (Option MV)} {st' : List MV} {M' : Mem} (hL : L = L') (hs : st = st') (hM : M = M') (k : WW l w own cc nL R cs sl A Qf Ex pc L' st' M') : WW l w own cc nL R cs sl A Qf Ex pc L st M := by
  subst hL; subst hs; subst hM; exact k
theorem WW.ec {x y : Int} (h : x = y) (k : WW l w own cc nL R cs sl A Qf Ex pc L (vI y :: st) M) : WW l w own cc nL R cs sl A Qf Ex pc L (vI x :: st) M := by
  subst h; exact k
/-- locals forgotten -/
theorem WW.less {L' : List (Option MV)} (h : L'.length ≤ L.length) (h2 : ∀ (i : Nat) (v : MV), L'[i]? = some (some v) → L[i]? = some (some v)) (k : WW l w own cc nL R cs sl A Qf Ex pc L' st M) : WW l w own cc nL R cs sl A Qf Ex pc L st M := by
  intro p e s m args below meth c H locs ls hF hE hS hA hP hSS hM hL hst
  exact k p e s m args below meth c H locs ls hF hE hS hA hP hSS hM ⟨hL.1, hL.2.1, Nat.le_trans h hL.2.2.1, fun i v q => hL.2.2.2 i v (h2 i v q)⟩ hst
theorem e_iconst {n x : Int} (hd : decode cc pc = .ok (.iconst n, 1)) (hx : n = x) (hr : inR (vI x))
    (k : WW l w own cc nL R cs sl A Qf Ex (pc + 1) L (vI x :: st) M) : WW l w own cc nL R cs sl A Qf Ex pc L st M := by
  intro p e s m args below meth c H locs ls hF hE hS hA hP hSS hM hL hst
  subst hx
  refine lv_iconst hF.1 hF.2.1 hd rfl ?_
  exact k p e s m args below meth c H locs ls hF hE hS hA hP hSS hM hL (List.forall_mem_cons.mpr ⟨hr, hst⟩)
theorem e_bipush {n x : Int} (hd : decode cc pc = .ok (.bipush n, 2)) (hx : n = x) (hr : (Int8.ofInt x).toInt32 = Int32.ofInt x ∧ inR (vI x))
    (k : WW l w own cc nL R cs sl A Qf Ex (pc + 2) L (vI x :: st) M) : WW l w own cc nL R cs sl A Qf Ex pc L st M := by
  intro p e s m args below meth c H locs ls hF hE hS hA hP hSS hM hL hst
  subst hx
  refine lv_bipush hF.1 hF.2.1 hd hr.1 ?_
  exact k p e s m args below meth c H locs ls hF hE hS hA hP hSS hM hL (List.forall_mem_cons.mpr ⟨hr.2, hst⟩)
theorem e_sipush {n x : Int} (hd : decode cc pc = .ok (.sipush n, 3)) (hx : n = x) (hr : (Int16.ofInt x).toInt32 = Int32.ofInt x ∧ inR (vI x))
    (k : WW l w own cc nL R cs sl A Qf Ex (pc + 3) L (vI x :: st) M) : WW l w own cc nL R cs sl A Qf Ex pc L st M := by
  intro p e s m args below meth c H locs ls hF hE hS hA hP hSS hM hL hst
  subst hx
  refine lv_sipush hF.1 hF.2.1 hd hr.1 ?_
  exact k p e s m args below meth c H locs ls hF hE hS hA hP hSS hM hL (List.forall_mem_cons.mpr ⟨hr.2, hst⟩)
theorem e_lconst0  (hd : decode cc pc = .ok (.lconst 0, 1))
    (k : WW l w own cc nL R cs sl A Qf Ex (pc + 1) L (vL 0 :: st) M) : WW l w own cc nL R cs sl A Qf Ex pc L st M := by
  intro p e s m args below meth c H locs ls hF hE hS hA hP hSS hM hL hst
  refine lv_lconst hF.1 hF.2.1 hd (v := Int64.ofInt 0) (by decide) ?_
  exact k p e s m args below meth c H locs ls hF hE hS hA hP hSS hM hL (List.forall_mem_cons.mpr ⟨⟨by decide, by decide⟩, hst⟩)
theorem e_lconst1  (hd : decode cc pc = .ok (.lconst 1, 1))
    (k : WW l w own cc nL R cs sl A Qf Ex (pc + 1) L (vL 1 :: st) M) : WW l w own cc nL R cs sl A Qf Ex pc L st M := by
  intro p e s m args below meth c H locs ls hF hE hS hA hP hSS hM hL hst
  refine lv_lconst hF.1 hF.2.1 hd (v := Int64.ofInt 1) (by decide) ?_
  exact k p e s m args below meth c H locs ls hF hE hS hA hP hSS hM hL (List.forall_mem_cons.mpr ⟨⟨by decide, by decide⟩, hst⟩)
theorem e_ldc {i : Nat} {x : Int} (hd : decode cc pc = .ok (.ldc i, 2)) (hw : Cond.constant own i (Int32.ofInt x) ∈ TBL) (hr : inR (vI x))
    (k : WW l w own cc nL R cs sl A Qf Ex (pc + 2) L (vI x :: st) M) : WW l w own cc nL R cs sl A Qf Ex pc L st M := by
  intro p e s m args below meth c H locs ls hF hE hS hA hP hSS hM hL hst
  refine lv_ldc hF.1 hF.2.1 hF.2.2.2.1 (hF.2.2.2.2 _ hw) hd ?_
  exact k p e s m args below meth c H locs ls hF hE hS hA hP hSS hM hL (List.forall_mem_cons.mpr ⟨hr, hst⟩)
theorem e_ldc2 {i : Nat} {x : Int} (hd : decode cc pc = .ok (.ldc2_w i, 3)) (hw : Cond.constantLong own i (Int64.ofInt x) ∈ TBL) (hr : inR (vL x))
    (k : WW l w own cc nL R cs sl A Qf Ex (pc + 3) L (vL x :: st) M) : WW l w own cc nL R cs sl A Qf Ex pc L st M := by
  intro p e s m args below meth c H locs ls hF hE hS hA hP hSS hM hL hst
  refine lv_ldc2 hF.1 hF.2.1 hF.2.2.2.1 (hF.2.2.2.2 _ hw) hd ?_
  exact k p e s m args below meth c H locs ls hF hE hS hA hP hSS hM hL (List.forall_mem_cons.mpr ⟨hr, hst⟩)
theorem e_null  (hd : decode cc pc = .ok (.aconst_null, 1))
    (k : WW l w own cc nL R cs sl A Qf Ex (pc + 1) L (vN :: st) M) : WW l w own cc nL R cs sl A Qf Ex pc L st M := by
  intro p e s m args below meth c H locs ls hF hE hS hA hP hSS hM hL hst
  refine lv_null hF.1 hF.2.1 hd ?_
  exact k p e s m args below meth c H locs ls hF hE hS hA hP hSS hM hL (List.forall_mem_cons.mpr ⟨trivial, hst⟩)
theorem e_ldcS (k0 : Nat) (hk : k0 < 18) {i : Nat} (hown : own = "CandleEnds$Reader") (hd : decode cc pc = .ok (.ldc i, 2)) (hi : strIx.getD k0 0 = i)
    (k : WW l w own cc nL R cs sl A Qf Ex (pc + 2) L (vR (strB + k0) :: st) M) : WW l w own cc nL R cs sl A Qf Ex pc L st M := by
  intro p e s m args below meth c H locs ls hF hE hS hA hP hSS hM hL hst
  have hZ := hS.2.2.2.1 k0 hk
  rw [hi] at hZ
  subst hown
  refine va_ldcS hF.1 hF.2.1 hF.2.2.2.1 hZ hd ?_
  exact k p e s m args below meth c H locs ls hF hE hS hA hP hSS hM hL (List.forall_mem_cons.mpr ⟨trivial, hst⟩)
theorem e_iload0 {r : List (Option MV)} {x : Int} (hd : decode cc pc = .ok (.iload_n 0, 1))
    (k : WW l w own cc nL R cs sl A Qf Ex (pc + 1) (some (vI x) :: r) (vI x :: st) M) : WW l w own cc nL R cs sl A Qf Ex pc (some (vI x) :: r) st M := by
  intro p e s m args below meth c H locs ls hF hE hS hA hP hSS hM hL hst
  refine lv_iload_n hF.1 hF.2.1 hd rfl (hL.2.2.2 0 (vI x) rfl).2 ?_
  exact k p e s m args below meth c H locs ls hF hE hS hA hP hSS hM hL (List.forall_mem_cons.mpr ⟨(hL.2.2.2 0 (vI x) rfl).1, hst⟩)
theorem e_lload0 {r : List (Option MV)} {x : Int} (hd : decode cc pc = .ok (.lload_n 0, 1))
    (k : WW l w own cc nL R cs sl A Qf Ex (pc + 1) (some (vL x) :: r) (vL x :: st) M) : WW l w own cc nL R cs sl A Qf Ex pc (some (vL x) :: r) st M := by
  intro p e s m args below meth c H locs ls hF hE hS hA hP hSS hM hL hst
  refine lv_lload_n hF.1 hF.2.1 hd rfl (hL.2.2.2 0 (vL x) rfl).2 ?_
  exact k p e s m args below meth c H locs ls hF hE hS hA hP hSS hM hL (List.forall_mem_cons.mpr ⟨(hL.2.2.2 0 (vL x) rfl).1, hst⟩)
theorem e_aload0 {r : List (Option MV)} {x : Nat} (hd : decode cc pc = .ok (.aload_n 0, 1))
    (k : WW l w own cc nL R cs sl A Qf Ex (pc + 1) (some (vR x) :: r) (vR x :: st) M) : WW l w own cc nL R cs sl A Qf Ex pc (some (vR x) :: r) st M := by
  intro p e s m args below meth c H locs ls hF hE hS hA hP hSS hM hL hst
  refine lv_aload_n hF.1 hF.2.1 hd rfl (hL.2.2.2 0 (vR x) rfl).2 ?_
  exact k p e s m args below meth c H locs ls hF hE hS hA hP hSS hM hL (List.forall_mem_cons.mpr ⟨(hL.2.2.2 0 (vR x) rfl).1, hst⟩)
theorem e_aloadN0 {r : List (Option MV)} (hd : decode cc pc = .ok (.aload_n 0, 1))
    (k : WW l w own cc nL R cs sl A Qf Ex (pc + 1) (some vN :: r) (vN :: st) M) : WW l w own cc nL R cs sl A Qf Ex pc (some vN :: r) st M := by
  intro p e s m args below meth c H locs ls hF hE hS hA hP hSS hM hL hst
  refine lv_aload_nN hF.1 hF.2.1 hd rfl (hL.2.2.2 0 vN rfl).2 ?_
  exact k p e s m args below meth c H locs ls hF hE hS hA hP hSS hM hL (List.forall_mem_cons.mpr ⟨trivial, hst⟩)
theorem e_iload1 {a0 : Option MV} {r : List (Option MV)} {x : Int} (hd : decode cc pc = .ok (.iload_n 1, 1))
    (k : WW l w own cc nL R cs sl A Qf Ex (pc + 1) (a0 :: some (vI x) :: r) (vI x :: st) M) : WW l w own cc nL R cs sl A Qf Ex pc (a0 :: some (vI x) :: r) st M := by
  intro p e s m args below meth c H locs ls hF hE hS hA hP hSS hM hL hst
  refine lv_iload_n hF.1 hF.2.1 hd rfl (hL.2.2.2 1 (vI x) rfl).2 ?_
  exact k p e s m args below meth c H locs ls hF hE hS hA hP hSS hM hL (List.forall_mem_cons.mpr ⟨(hL.2.2.2 1 (vI x) rfl).1, hst⟩)
theorem e_lload1 {a0 : Option MV} {r : List (Option MV)} {x : Int} (hd : decode cc pc = .ok (.lload_n 1, 1))
    (k : WW l w own cc nL R cs sl A Qf Ex (pc + 1) (a0 :: some (vL x) :: r) (vL x :: st) M) : WW l w own cc nL R cs sl A Qf Ex pc (a0 :: some (vL x) :: r) st M := by
  intro p e s m args below meth c H locs ls hF hE hS hA hP hSS hM hL hst
  refine lv_lload_n hF.1 hF.2.1 hd rfl (hL.2.2.2 1 (vL x) rfl).2 ?_
  exact k p e s m args below meth c H locs ls hF hE hS hA hP hSS hM hL (List.forall_mem_cons.mpr ⟨(hL.2.2.2 1 (vL x) rfl).1, hst⟩)
theorem e_aload1 {a0 : Option MV} {r : List (Option MV)} {x : Nat} (hd : decode cc pc = .ok (.aload_n 1, 1))
    (k : WW l w own cc nL R cs sl A Qf Ex (pc + 1) (a0 :: some (vR x) :: r) (vR x :: st) M) : WW l w own cc nL R cs sl A Qf Ex pc (a0 :: some (vR x) :: r) st M := by
  intro p e s m args below meth c H locs ls hF hE hS hA hP hSS hM hL hst
  refine lv_aload_n hF.1 hF.2.1 hd rfl (hL.2.2.2 1 (vR x) rfl).2 ?_
  exact k p e s m args below meth c H locs ls hF hE hS hA hP hSS hM hL (List.forall_mem_cons.mpr ⟨(hL.2.2.2 1 (vR x) rfl).1, hst⟩)
theorem e_aloadN1 {a0 : Option MV} {r : List (Option MV)} (hd : decode cc pc = .ok (.aload_n 1, 1))
    (k : WW l w own cc nL R cs sl A Qf Ex (pc + 1) (a0 :: some vN :: r) (vN :: st) M) : WW l w own cc nL R cs sl A Qf Ex pc (a0 :: some vN :: r) st M := by
  intro p e s m args below meth c H locs ls hF hE hS hA hP hSS hM hL hst
  refine lv_aload_nN hF.1 hF.2.1 hd rfl (hL.2.2.2 1 vN rfl).2 ?_
  exact k p e s m args below meth c H locs ls hF hE hS hA hP hSS hM hL (List.forall_mem_cons.mpr ⟨trivial, hst⟩)
theorem e_iload2 {a0 a1 : Option MV} {r : List (Option MV)} {x : Int} (hd : decode cc pc = .ok (.iload_n 2, 1))
    (k : WW l w own cc nL R cs sl A Qf Ex (pc + 1) (a0 :: a1 :: some (vI x) :: r) (vI x :: st) M) : WW l w own cc nL R cs sl A Qf Ex pc (a0 :: a1 :: some (vI x) :: r) st M := by
  intro p e s m args below meth c H locs ls hF hE hS hA hP hSS hM hL hst
  refine lv_iload_n hF.1 hF.2.1 hd rfl (hL.2.2.2 2 (vI x) rfl).2 ?_
  exact k p e s m args below meth c H locs ls hF hE hS hA hP hSS hM hL (List.forall_mem_cons.mpr ⟨(hL.2.2.2 2 (vI x) rfl).1, hst⟩)
theorem e_lload2 {a0 a1 : Option MV} {r : List (Option MV)} {x : Int} (hd : decode cc pc = .ok (.lload_n 2, 1))
    (k : WW l w own cc nL R cs sl A Qf Ex (pc + 1) (a0 :: a1 :: some (vL x) :: r) (vL x :: st) M) : WW l w own cc nL R cs sl A Qf Ex pc (a0 :: a1 :: some (vL x) :: r) st M := by
  intro p e s m args below meth c H locs ls hF hE hS hA hP hSS hM hL hst
  refine lv_lload_n hF.1 hF.2.1 hd rfl (hL.2.2.2 2 (vL x) rfl).2 ?_
  exact k p e s m args below meth c H locs ls hF hE hS hA hP hSS hM hL (List.forall_mem_cons.mpr ⟨(hL.2.2.2 2 (vL x) rfl).1, hst⟩)
theorem e_aload2 {a0 a1 : Option MV} {r : List (Option MV)} {x : Nat} (hd : decode cc pc = .ok (.aload_n 2, 1))
    (k : WW l w own cc nL R cs sl A Qf Ex (pc + 1) (a0 :: a1 :: some (vR x) :: r) (vR x :: st) M) : WW l w own cc nL R cs sl A Qf Ex pc (a0 :: a1 :: some (vR x) :: r) st M := by
  intro p e s m args below meth c H locs ls hF hE hS hA hP hSS hM hL hst
  refine lv_aload_n hF.1 hF.2.1 hd rfl (hL.2.2.2 2 (vR x) rfl).2 ?_
  exact k p e s m args below meth c H locs ls hF hE hS hA hP hSS hM hL (List.forall_mem_cons.mpr ⟨(hL.2.2.2 2 (vR x) rfl).1, hst⟩)
theorem e_aloadN2 {a0 a1 : Option MV} {r : List (Option MV)} (hd : decode cc pc = .ok (.aload_n 2, 1))
    (k : WW l w own cc nL R cs sl A Qf Ex (pc + 1) (a0 :: a1 :: some vN :: r) (vN :: st) M) : WW l w own cc nL R cs sl A Qf Ex pc (a0 :: a1 :: some vN :: r) st M := by
  intro p e s m args below meth c H locs ls hF hE hS hA hP hSS hM hL hst
  refine lv_aload_nN hF.1 hF.2.1 hd rfl (hL.2.2.2 2 vN rfl).2 ?_
  exact k p e s m args below meth c H locs ls hF hE hS hA hP hSS hM hL (List.forall_mem_cons.mpr ⟨trivial, hst⟩)
theorem e_iload3 {a0 a1 a2 : Option MV} {r : List (Option MV)} {x : Int} (hd : decode cc pc = .ok (.iload_n 3, 1))
    (k : WW l w own cc nL R cs sl A Qf Ex (pc + 1) (a0 :: a1 :: a2 :: some (vI x) :: r) (vI x :: st) M) : WW l w own cc nL R cs sl A Qf Ex pc (a0 :: a1 :: a2 :: some (vI x) :: r) st M := by
  intro p e s m args below meth c H locs ls hF hE hS hA hP hSS hM hL hst
  refine lv_iload_n hF.1 hF.2.1 hd rfl (hL.2.2.2 3 (vI x) rfl).2 ?_
  exact k p e s m args below meth c H locs ls hF hE hS hA hP hSS hM hL (List.forall_mem_cons.mpr ⟨(hL.2.2.2 3 (vI x) rfl).1, hst⟩)
theorem e_lload3 {a0 a1 a2 : Option MV} {r : List (Option MV)} {x : Int} (hd : decode cc pc = .ok (.lload_n 3, 1))
    (k : WW l w own cc nL R cs sl A Qf Ex (pc + 1) (a0 :: a1 :: a2 :: some (vL x) :: r) (vL x :: st) M) : WW l w own cc nL R cs sl A Qf Ex pc (a0 :: a1 :: a2 :: some (vL x) :: r) st M := by
  intro p e s m args below meth c H locs ls hF hE hS hA hP hSS hM hL hst
  refine lv_lload_n hF.1 hF.2.1 hd rfl (hL.2.2.2 3 (vL x) rfl).2 ?_
  exact k p e s m args below meth c H locs ls hF hE hS hA hP hSS hM hL (List.forall_mem_cons.mpr ⟨(hL.2.2.2 3 (vL x) rfl).1, hst⟩)
theorem e_aload3 {a0 a1 a2 : Option MV} {r : List (Option MV)} {x : Nat} (hd : decode cc pc = .ok (.aload_n 3, 1))
    (k : WW l w own cc nL R cs sl A Qf Ex (pc + 1) (a0 :: a1 :: a2 :: some (vR x) :: r) (vR x :: st) M) : WW l w own cc nL R cs sl A Qf Ex pc (a0 :: a1 :: a2 :: some (vR x) :: r) st M := by
  intro p e s m args below meth c H locs ls hF hE hS hA hP hSS hM hL hst
  refine lv_aload_n hF.1 hF.2.1 hd rfl (hL.2.2.2 3 (vR x) rfl).2 ?_
  exact k p e s m args below meth c H locs ls hF hE hS hA hP hSS hM hL (List.forall_mem_cons.mpr ⟨(hL.2.2.2 3 (vR x) rfl).1, hst⟩)
theorem e_aloadN3 {a0 a1 a2 : Option MV} {r : List (Option MV)} (hd : decode cc pc = .ok (.aload_n 3, 1))
    (k : WW l w own cc nL R cs sl A Qf Ex (pc + 1) (a0 :: a1 :: a2 :: some vN :: r) (vN :: st) M) : WW l w own cc nL R cs sl A Qf Ex pc (a0 :: a1 :: a2 :: some vN :: r) st M := by
  intro p e s m args below meth c H locs ls hF hE hS hA hP hSS hM hL hst
  refine lv_aload_nN hF.1 hF.2.1 hd rfl (hL.2.2.2 3 vN rfl).2 ?_
  exact k p e s m args below meth c H locs ls hF hE hS hA hP hSS hM hL (List.forall_mem_cons.mpr ⟨trivial, hst⟩)
theorem e_iload4 {a0 a1 a2 a3 : Option MV} {r : List (Option MV)} {x : Int} (hd : decode cc pc = .ok (.iload 4, 2))
    (k : WW l w own cc nL R cs sl A Qf Ex (pc + 2) (a0 :: a1 :: a2 :: a3 :: some (vI x) :: r) (vI x :: st) M) : WW l w own cc nL R cs sl A Qf Ex pc (a0 :: a1 :: a2 :: a3 :: some (vI x) :: r) st M := by
  intro p e s m args below meth c H locs ls hF hE hS hA hP hSS hM hL hst
  refine lv_iload hF.1 hF.2.1 hd (hL.2.2.2 4 (vI x) rfl).2 ?_
  exact k p e s m args below meth c H locs ls hF hE hS hA hP hSS hM hL (List.forall_mem_cons.mpr ⟨(hL.2.2.2 4 (vI x) rfl).1, hst⟩)
theorem e_lload4 {a0 a1 a2 a3 : Option MV} {r : List (Option MV)} {x : Int} (hd : decode cc pc = .ok (.lload 4, 2))
    (k : WW l w own cc nL R cs sl A Qf Ex (pc + 2) (a0 :: a1 :: a2 :: a3 :: some (vL x) :: r) (vL x :: st) M) : WW l w own cc nL R cs sl A Qf Ex pc (a0 :: a1 :: a2 :: a3 :: some (vL x) :: r) st M := by
  intro p e s m args below meth c H locs ls hF hE hS hA hP hSS hM hL hst
  refine lv_lload hF.1 hF.2.1 hd (hL.2.2.2 4 (vL x) rfl).2 ?_
  exact k p e s m args below meth c H locs ls hF hE hS hA hP hSS hM hL (List.forall_mem_cons.mpr ⟨(hL.2.2.2 4 (vL x) rfl).1, hst⟩)
theorem e_aload4 {a0 a1 a2 a3 : Option MV} {r : List (Option MV)} {x : Nat} (hd : decode cc pc = .ok (.aload 4, 2))
    (k : WW l w own cc nL R cs sl A Qf Ex (pc + 2) (a0 :: a1 :: a2 :: a3 :: some (vR x) :: r) (vR x :: st) M) : WW l w own cc nL R cs sl A Qf Ex pc (a0 :: a1 :: a2 :: a3 :: some (vR x) :: r) st M := by
  intro p e s m args below meth c H locs ls hF hE hS hA hP hSS hM hL hst
  refine lv_aload hF.1 hF.2.1 hd (hL.2.2.2 4 (vR x) rfl).2 ?_
  exact k p e s m args below meth c H locs ls hF hE hS hA hP hSS hM hL (List.forall_mem_cons.mpr ⟨(hL.2.2.2 4 (vR x) rfl).1, hst⟩)
theorem e_aloadN4 {a0 a1 a2 a3 : Option MV} {r : List (Option MV)} (hd : decode cc pc = .ok (.aload 4, 2))
    (k : WW l w own cc nL R cs sl A Qf Ex (pc + 2) (a0 :: a1 :: a2 :: a3 :: some vN :: r) (vN :: st) M) : WW l w own cc nL R cs sl A Qf Ex pc (a0 :: a1 :: a2 :: a3 :: some vN :: r) st M := by
  intro p e s m args below meth c H locs ls hF hE hS hA hP hSS hM hL hst
  refine lv_aloadN hF.1 hF.2.1 hd (hL.2.2.2 4 vN rfl).2 ?_
  exact k p e s m args below meth c H locs ls hF hE hS hA hP hSS hM hL (List.forall_mem_cons.mpr ⟨trivial, hst⟩)
theorem e_iload5 {a0 a1 a2 a3 a4 : Option MV} {r : List (Option MV)} {x : Int} (hd : decode cc pc = .ok (.iload 5, 2))
    (k : WW l w own cc nL R cs sl A Qf Ex (pc + 2) (a0 :: a1 :: a2 :: a3 :: a4 :: some (vI x) :: r) (vI x :: st) M) : WW l w own cc nL R cs sl A Qf Ex pc (a0 :: a1 :: a2 :: a3 :: a4 :: some (vI x) :: r) st M := by
  intro p e s m args below meth c H locs ls hF hE hS hA hP hSS hM hL hst
  refine lv_iload hF.1 hF.2.1 hd (hL.2.2.2 5 (vI x) rfl).2 ?_
  exact k p e s m args below meth c H locs ls hF hE hS hA hP hSS hM hL (List.forall_mem_cons.mpr ⟨(hL.2.2.2 5 (vI x) rfl).1, hst⟩)
theorem e_lload5 {a0 a1 a2 a3 a4 : Option MV} {r : List (Option MV)} {x : Int} (hd : decode cc pc = .ok (.lload 5, 2))
    (k : WW l w own cc nL R cs sl A Qf Ex (pc + 2) (a0 :: a1 :: a2 :: a3 :: a4 :: some (vL x) :: r) (vL x :: st) M) : WW l w own cc nL R cs sl A Qf Ex pc (a0 :: a1 :: a2 :: a3 :: a4 :: some (vL x) :: r) st M := by
  intro p e s m args below meth c H locs ls hF hE hS hA hP hSS hM hL hst
  refine lv_lload hF.1 hF.2.1 hd (hL.2.2.2 5 (vL x) rfl).2 ?_
  exact k p e s m args below meth c H locs ls hF hE hS hA hP hSS hM hL (List.forall_mem_cons.mpr ⟨(hL.2.2.2 5 (vL x) rfl).1, hst⟩)
theorem e_aload5 {a0 a1 a2 a3 a4 : Option MV} {r : List (Option MV)} {x : Nat} (hd : decode cc pc = .ok (.aload 5, 2))
    (k : WW l w own cc nL R cs sl A Qf Ex (pc + 2) (a0 :: a1 :: a2 :: a3 :: a4 :: some (vR x) :: r) (vR x :: st) M) : WW l w own cc nL R cs sl A Qf Ex pc (a0 :: a1 :: a2 :: a3 :: a4 :: some (vR x) :: r) st M := by
  intro p e s m args below meth c H locs ls hF hE hS hA hP hSS hM hL hst
  refine lv_aload hF.1 hF.2.1 hd (hL.2.2.2 5 (vR x) rfl).2 ?_
  exact k p e s m args below meth c H locs ls hF hE hS hA hP hSS hM hL (List.forall_mem_cons.mpr ⟨(hL.2.2.2 5 (vR x) rfl).1, hst⟩)
theorem e_aloadN5 {a0 a1 a2 a3 a4 : Option MV} {r : List (Option MV)} (hd : decode cc pc = .ok (.aload 5, 2))
    (k : WW l w own cc nL R cs sl A Qf Ex (pc + 2) (a0 :: a1 :: a2 :: a3 :: a4 :: some vN :: r) (vN :: st) M) : WW l w own cc nL R cs sl A Qf Ex pc (a0 :: a1 :: a2 :: a3 :: a4 :: some vN :: r) st M := by
  intro p e s m args below meth c H locs ls hF hE hS hA hP hSS hM hL hst
  refine lv_aloadN hF.1 hF.2.1 hd (hL.2.2.2 5 vN rfl).2 ?_
  exact k p e s m args below meth c H locs ls hF hE hS hA hP hSS hM hL (List.forall_mem_cons.mpr ⟨trivial, hst⟩)
theorem e_iload6 {a0 a1 a2 a3 a4 a5 : Option MV} {r : List (Option MV)} {x : Int} (hd : decode cc pc = .ok (.iload 6, 2))
    (k : WW l w own cc nL R cs sl A Qf Ex (pc + 2) (a0 :: a1 :: a2 :: a3 :: a4 :: a5 :: some (vI x) :: r) (vI x :: st) M) : WW l w own cc nL R cs sl A Qf Ex pc (a0 :: a1 :: a2 :: a3 :: a4 :: a5 :: some (vI x) :: r) st M := by
  intro p e s m args below meth c H locs ls hF hE hS hA hP hSS hM hL hst
  refine lv_iload hF.1 hF.2.1 hd (hL.2.2.2 6 (vI x) rfl).2 ?_
  exact k p e s m args below meth c H locs ls hF hE hS hA hP hSS hM hL (List.forall_mem_cons.mpr ⟨(hL.2.2.2 6 (vI x) rfl).1, hst⟩)
theorem e_lload6 {a0 a1 a2 a3 a4 a5 : Option MV} {r : List (Option MV)} {x : Int} (hd : decode cc pc = .ok (.lload 6, 2))
    (k : WW l w own cc nL R cs sl A Qf Ex (pc + 2) (a0 :: a1 :: a2 :: a3 :: a4 :: a5 :: some (vL x) :: r) (vL x :: st) M) : WW l w own cc nL R cs sl A Qf Ex pc (a0 :: a1 :: a2 :: a3 :: a4 :: a5 :: some (vL x) :: r) st M := by
  intro p e s m args below meth c H locs ls hF hE hS hA hP hSS hM hL hst
  refine lv_lload hF.1 hF.2.1 hd (hL.2.2.2 6 (vL x) rfl).2 ?_
  exact k p e s m args below meth c H locs ls hF hE hS hA hP hSS hM hL (List.forall_mem_cons.mpr ⟨(hL.2.2.2 6 (vL x) rfl).1, hst⟩)
theorem e_aload6 {a0 a1 a2 a3 a4 a5 : Option MV} {r : List (Option MV)} {x : Nat} (hd : decode cc pc = .ok (.aload 6, 2))
    (k : WW l w own cc nL R cs sl A Qf Ex (pc + 2) (a0 :: a1 :: a2 :: a3 :: a4 :: a5 :: some (vR x) :: r) (vR x :: st) M) : WW l w own cc nL R cs sl A Qf Ex pc (a0 :: a1 :: a2 :: a3 :: a4 :: a5 :: some (vR x) :: r) st M := by
  intro p e s m args below meth c H locs ls hF hE hS hA hP hSS hM hL hst
  refine lv_aload hF.1 hF.2.1 hd (hL.2.2.2 6 (vR x) rfl).2 ?_
  exact k p e s m args below meth c H locs ls hF hE hS hA hP hSS hM hL (List.forall_mem_cons.mpr ⟨(hL.2.2.2 6 (vR x) rfl).1, hst⟩)
theorem e_aloadN6 {a0 a1 a2 a3 a4 a5 : Option MV} {r : List (Option MV)} (hd : decode cc pc = .ok (.aload 6, 2))
    (k : WW l w own cc nL R cs sl A Qf Ex (pc + 2) (a0 :: a1 :: a2 :: a3 :: a4 :: a5 :: some vN :: r) (vN :: st) M) : WW l w own cc nL R cs sl A Qf Ex pc (a0 :: a1 :: a2 :: a3 :: a4 :: a5 :: some vN :: r) st M := by
  intro p e s m args below meth c H locs ls hF hE hS hA hP hSS hM hL hst
  refine lv_aloadN hF.1 hF.2.1 hd (hL.2.2.2 6 vN rfl).2 ?_
  exact k p e s m args below meth c H locs ls hF hE hS hA hP hSS hM hL (List.forall_mem_cons.mpr ⟨trivial, hst⟩)
theorem e_iload7 {a0 a1 a2 a3 a4 a5 a6 : Option MV} {r : List (Option MV)} {x : Int} (hd : decode cc pc = .ok (.iload 7, 2))
    (k : WW l w own cc nL R cs sl A Qf Ex (pc + 2) (a0 :: a1 :: a2 :: a3 :: a4 :: a5 :: a6 :: some (vI x) :: r) (vI x :: st) M) : WW l w own cc nL R cs sl A Qf Ex pc (a0 :: a1 :: a2 :: a3 :: a4 :: a5 :: a6 :: some (vI x) :: r) st M := by
  intro p e s m args below meth c H locs ls hF hE hS hA hP hSS hM hL hst
  refine lv_iload hF.1 hF.2.1 hd (hL.2.2.2 7 (vI x) rfl).2 ?_
  exact k p e s m args below meth c H locs ls hF hE hS hA hP hSS hM hL (List.forall_mem_cons.mpr ⟨(hL.2.2.2 7 (vI x) rfl).1, hst⟩)
theorem e_lload7 {a0 a1 a2 a3 a4 a5 a6 : Option MV} {r : List (Option MV)} {x : Int} (hd : decode cc pc = .ok (.lload 7, 2))
    (k : WW l w own cc nL R cs sl A Qf Ex (pc + 2) (a0 :: a1 :: a2 :: a3 :: a4 :: a5 :: a6 :: some (vL x) :: r) (vL x :: st) M) : WW l w own cc nL R cs sl A Qf Ex pc (a0 :: a1 :: a2 :: a3 :: a4 :: a5 :: a6 :: some (vL x) :: r) st M := by
  intro p e s m args below meth c H locs ls hF hE hS hA hP hSS hM hL hst
  refine lv_lload hF.1 hF.2.1 hd (hL.2.2.2 7 (vL x) rfl).2 ?_
  exact k p e s m args below meth c H locs ls hF hE hS hA hP hSS hM hL (List.forall_mem_cons.mpr ⟨(hL.2.2.2 7 (vL x) rfl).1, hst⟩)
theorem e_aload7 {a0 a1 a2 a3 a4 a5 a6 : Option MV} {r : List (Option MV)} {x : Nat} (hd : decode cc pc = .ok (.aload 7, 2))
    (k : WW l w own cc nL R cs sl A Qf Ex (pc + 2) (a0 :: a1 :: a2 :: a3 :: a4 :: a5 :: a6 :: some (vR x) :: r) (vR x :: st) M) : WW l w own cc nL R cs sl A Qf Ex pc (a0 :: a1 :: a2 :: a3 :: a4 :: a5 :: a6 :: some (vR x) :: r) st M := by
  intro p e s m args below meth c H locs ls hF hE hS hA hP hSS hM hL hst
  refine lv_aload hF.1 hF.2.1 hd (hL.2.2.2 7 (vR x) rfl).2 ?_
  exact k p e s m args below meth c H locs ls hF hE hS hA hP hSS hM hL (List.forall_mem_cons.mpr ⟨(hL.2.2.2 7 (vR x) rfl).1, hst⟩)
theorem e_aloadN7 {a0 a1 a2 a3 a4 a5 a6 : Option MV} {r : List (Option MV)} (hd : decode cc pc = .ok (.aload 7, 2))
    (k : WW l w own cc nL R cs sl A Qf Ex (pc + 2) (a0 :: a1 :: a2 :: a3 :: a4 :: a5 :: a6 :: some vN :: r) (vN :: st) M) : WW l w own cc nL R cs sl A Qf Ex pc (a0 :: a1 :: a2 :: a3 :: a4 :: a5 :: a6 :: some vN :: r) st M := by
  intro p e s m args below meth c H locs ls hF hE hS hA hP hSS hM hL hst
  refine lv_aloadN hF.1 hF.2.1 hd (hL.2.2.2 7 vN rfl).2 ?_
  exact k p e s m args below meth c H locs ls hF hE hS hA hP hSS hM hL (List.forall_mem_cons.mpr ⟨trivial, hst⟩)
theorem e_iload8 {a0 a1 a2 a3 a4 a5 a6 a7 : Option MV} {r : List (Option MV)} {x : Int} (hd : decode cc pc = .ok (.iload 8, 2))
    (k : WW l w own cc nL R cs sl A Qf Ex (pc + 2) (a0 :: a1 :: a2 :: a3 :: a4 :: a5 :: a6 :: a7 :: some (vI x) :: r) (vI x :: st) M) : WW l w own cc nL R cs sl A Qf Ex pc (a0 :: a1 :: a2 :: a3 :: a4 :: a5 :: a6 :: a7 :: some (vI x) :: r) st M := by
  intro p e s m args below meth c H locs ls hF hE hS hA hP hSS hM hL hst
  refine lv_iload hF.1 hF.2.1 hd (hL.2.2.2 8 (vI x) rfl).2 ?_
  exact k p e s m args below meth c H locs ls hF hE hS hA hP hSS hM hL (List.forall_mem_cons.mpr ⟨(hL.2.2.2 8 (vI x) rfl).1, hst⟩)
theorem e_lload8 {a0 a1 a2 a3 a4 a5 a6 a7 : Option MV} {r : List (Option MV)} {x : Int} (hd : decode cc pc = .ok (.lload 8, 2))
    (k : WW l w own cc nL R cs sl A Qf Ex (pc + 2) (a0 :: a1 :: a2 :: a3 :: a4 :: a5 :: a6 :: a7 :: some (vL x) :: r) (vL x :: st) M) : WW l w own cc nL R cs sl A Qf Ex pc (a0 :: a1 :: a2 :: a3 :: a4 :: a5 :: a6 :: a7 :: some (vL x) :: r) st M := by
  intro p e s m args below meth c H locs ls hF hE hS hA hP hSS hM hL hst
  refine lv_lload hF.1 hF.2.1 hd (hL.2.2.2 8 (vL x) rfl).2 ?_
  exact k p e s m args below meth c H locs ls hF hE hS hA hP hSS hM hL (List.forall_mem_cons.mpr ⟨(hL.2.2.2 8 (vL x) rfl).1, hst⟩)
theorem e_aload8 {a0 a1 a2 a3 a4 a5 a6 a7 : Option MV} {r : List (Option MV)} {x : Nat} (hd : decode cc pc = .ok (.aload 8, 2))
    (k : WW l w own cc nL R cs sl A Qf Ex (pc + 2) (a0 :: a1 :: a2 :: a3 :: a4 :: a5 :: a6 :: a7 :: some (vR x) :: r) (vR x :: st) M) : WW l w own cc nL R cs sl A Qf Ex pc (a0 :: a1 :: a2 :: a3 :: a4 :: a5 :: a6 :: a7 :: some (vR x) :: r) st M := by
  intro p e s m args below meth c H locs ls hF hE hS hA hP hSS hM hL hst
  refine lv_aload hF.1 hF.2.1 hd (hL.2.2.2 8 (vR x) rfl).2 ?_
  exact k p e s m args below meth c H locs ls hF hE hS hA hP hSS hM hL (List.forall_mem_cons.mpr ⟨(hL.2.2.2 8 (vR x) rfl).1, hst⟩)
theorem e_aloadN8 {a0 a1 a2 a3 a4 a5 a6 a7 : Option MV} {r : List (Option MV)} (hd : decode cc pc = .ok (.aload 8, 2))
    (k : WW l w own cc nL R cs sl A Qf Ex (pc + 2) (a0 :: a1 :: a2 :: a3 :: a4 :: a5 :: a6 :: a7 :: some vN :: r) (vN :: st) M) : WW l w own cc nL R cs sl A Qf Ex pc (a0 :: a1 :: a2 :: a3 :: a4 :: a5 :: a6 :: a7 :: some vN :: r) st M := by
  intro p e s m args below meth c H locs ls hF hE hS hA hP hSS hM hL hst
  refine lv_aloadN hF.1 hF.2.1 hd (hL.2.2.2 8 vN rfl).2 ?_
  exact k p e s m args below meth c H locs ls hF hE hS hA hP hSS hM hL (List.forall_mem_cons.mpr ⟨trivial, hst⟩)
theorem e_iload9 {a0 a1 a2 a3 a4 a5 a6 a7 a8 : Option MV} {r : List (Option MV)} {x : Int} (hd : decode cc pc = .ok (.iload 9, 2))
    (k : WW l w own cc nL R cs sl A Qf Ex (pc + 2) (a0 :: a1 :: a2 :: a3 :: a4 :: a5 :: a6 :: a7 :: a8 :: some (vI x) :: r) (vI x :: st) M) : WW l w own cc nL R cs sl A Qf Ex pc (a0 :: a1 :: a2 :: a3 :: a4 :: a5 :: a6 :: a7 :: a8 :: some (vI x) :: r) st M := by
  intro p e s m args below meth c H locs ls hF hE hS hA hP hSS hM hL hst
  refine lv_iload hF.1 hF.2.1 hd (hL.2.2.2 9 (vI x) rfl).2 ?_
  exact k p e s m args below meth c H locs ls hF hE hS hA hP hSS hM hL (List.forall_mem_cons.mpr ⟨(hL.2.2.2 9 (vI x) rfl).1, hst⟩)
theorem e_lload9 {a0 a1 a2 a3 a4 a5 a6 a7 a8 : Option MV} {r : List (Option MV)} {x : Int} (hd : decode cc pc = .ok (.lload 9, 2))
    (k : WW l w own cc nL R cs sl A Qf Ex (pc + 2) (a0 :: a1 :: a2 :: a3 :: a4 :: a5 :: a6 :: a7 :: a8 :: some (vL x) :: r) (vL x :: st) M) : WW l w own cc nL R cs sl A Qf Ex pc (a0 :: a1 :: a2 :: a3 :: a4 :: a5 :: a6 :: a7 :: a8 :: some (vL x) :: r) st M := by
  intro p e s m args below meth c H locs ls hF hE hS hA hP hSS hM hL hst
  refine lv_lload hF.1 hF.2.1 hd (hL.2.2.2 9 (vL x) rfl).2 ?_
  exact k p e s m args below meth c H locs ls hF hE hS hA hP hSS hM hL (List.forall_mem_cons.mpr ⟨(hL.2.2.2 9 (vL x) rfl).1, hst⟩)
theorem e_aload9 {a0 a1 a2 a3 a4 a5 a6 a7 a8 : Option MV} {r : List (Option MV)} {x : Nat} (hd : decode cc pc = .ok (.aload 9, 2))
    (k : WW l w own cc nL R cs sl A Qf Ex (pc + 2) (a0 :: a1 :: a2 :: a3 :: a4 :: a5 :: a6 :: a7 :: a8 :: some (vR x) :: r) (vR x :: st) M) : WW l w own cc nL R cs sl A Qf Ex pc (a0 :: a1 :: a2 :: a3 :: a4 :: a5 :: a6 :: a7 :: a8 :: some (vR x) :: r) st M := by
  intro p e s m args below meth c H locs ls hF hE hS hA hP hSS hM hL hst
  refine lv_aload hF.1 hF.2.1 hd (hL.2.2.2 9 (vR x) rfl).2 ?_
  exact k p e s m args below meth c H locs ls hF hE hS hA hP hSS hM hL (List.forall_mem_cons.mpr ⟨(hL.2.2.2 9 (vR x) rfl).1, hst⟩)
theorem e_aloadN9 {a0 a1 a2 a3 a4 a5 a6 a7 a8 : Option MV} {r : List (Option MV)} (hd : decode cc pc = .ok (.aload 9, 2))
    (k : WW l w own cc nL R cs sl A Qf Ex (pc + 2) (a0 :: a1 :: a2 :: a3 :: a4 :: a5 :: a6 :: a7 :: a8 :: some vN :: r) (vN :: st) M) : WW l w own cc nL R cs sl A Qf Ex pc (a0 :: a1 :: a2 :: a3 :: a4 :: a5 :: a6 :: a7 :: a8 :: some vN :: r) st M := by
  intro p e s m args below meth c H locs ls hF hE hS hA hP hSS hM hL hst
  refine lv_aloadN hF.1 hF.2.1 hd (hL.2.2.2 9 vN rfl).2 ?_
  exact k p e s m args below meth c H locs ls hF hE hS hA hP hSS hM hL (List.forall_mem_cons.mpr ⟨trivial, hst⟩)
theorem e_iload10 {a0 a1 a2 a3 a4 a5 a6 a7 a8 a9 : Option MV} {r : List (Option MV)} {x : Int} (hd : decode cc pc = .ok (.iload 10, 2))
    (k : WW l w own cc nL R cs sl A Qf Ex (pc + 2) (a0 :: a1 :: a2 :: a3 :: a4 :: a5 :: a6 :: a7 :: a8 :: a9 :: some (vI x) :: r) (vI x :: st) M) : WW l w own cc nL R cs sl A Qf Ex pc (a0 :: a1 :: a2 :: a3 :: a4 :: a5 :: a6 :: a7 :: a8 :: a9 :: some (vI x) :: r) st M := by
  intro p e s m args below meth c H locs ls hF hE hS hA hP hSS hM hL hst
  refine lv_iload hF.1 hF.2.1 hd (hL.2.2.2 10 (vI x) rfl).2 ?_
  exact k p e s m args below meth c H locs ls hF hE hS hA hP hSS hM hL (List.forall_mem_cons.mpr ⟨(hL.2.2.2 10 (vI x) rfl).1, hst⟩)
theorem e_lload10 {a0 a1 a2 a3 a4 a5 a6 a7 a8 a9 : Option MV} {r : List (Option MV)} {x : Int} (hd : decode cc pc = .ok (.lload 10, 2))
    (k : WW l w own cc nL R cs sl A Qf Ex (pc + 2) (a0 :: a1 :: a2 :: a3 :: a4 :: a5 :: a6 :: a7 :: a8 :: a9 :: some (vL x) :: r) (vL x :: st) M) : WW l w own cc nL R cs sl A Qf Ex pc (a0 :: a1 :: a2 :: a3 :: a4 :: a5 :: a6 :: a7 :: a8 :: a9 :: some (vL x) :: r) st M := by
  intro p e s m args below meth c H locs ls hF hE hS hA hP hSS hM hL hst
  refine lv_lload hF.1 hF.2.1 hd (hL.2.2.2 10 (vL x) rfl).2 ?_
  exact k p e s m args below meth c H locs ls hF hE hS hA hP hSS hM hL (List.forall_mem_cons.mpr ⟨(hL.2.2.2 10 (vL x) rfl).1, hst⟩)
theorem e_aload10 {a0 a1 a2 a3 a4 a5 a6 a7 a8 a9 : Option MV} {r : List (Option MV)} {x : Nat} (hd : decode cc pc = .ok (.aload 10, 2))
    (k : WW l w own cc nL R cs sl A Qf Ex (pc + 2) (a0 :: a1 :: a2 :: a3 :: a4 :: a5 :: a6 :: a7 :: a8 :: a9 :: some (vR x) :: r) (vR x :: st) M) : WW l w own cc nL R cs sl A Qf Ex pc (a0 :: a1 :: a2 :: a3 :: a4 :: a5 :: a6 :: a7 :: a8 :: a9 :: some (vR x) :: r) st M := by
  intro p e s m args below meth c H locs ls hF hE hS hA hP hSS hM hL hst
  refine lv_aload hF.1 hF.2.1 hd (hL.2.2.2 10 (vR x) rfl).2 ?_
  exact k p e s m args below meth c H locs ls hF hE hS hA hP hSS hM hL (List.forall_mem_cons.mpr ⟨(hL.2.2.2 10 (vR x) rfl).1, hst⟩)
theorem e_aloadN10 {a0 a1 a2 a3 a4 a5 a6 a7 a8 a9 : Option MV} {r : List (Option MV)} (hd : decode cc pc = .ok (.aload 10, 2))
    (k : WW l w own cc nL R cs sl A Qf Ex (pc + 2) (a0 :: a1 :: a2 :: a3 :: a4 :: a5 :: a6 :: a7 :: a8 :: a9 :: some vN :: r) (vN :: st) M) : WW l w own cc nL R cs sl A Qf Ex pc (a0 :: a1 :: a2 :: a3 :: a4 :: a5 :: a6 :: a7 :: a8 :: a9 :: some vN :: r) st M := by
  intro p e s m args below meth c H locs ls hF hE hS hA hP hSS hM hL hst
  refine lv_aloadN hF.1 hF.2.1 hd (hL.2.2.2 10 vN rfl).2 ?_
  exact k p e s m args below meth c H locs ls hF hE hS hA hP hSS hM hL (List.forall_mem_cons.mpr ⟨trivial, hst⟩)
theorem e_iload11 {a0 a1 a2 a3 a4 a5 a6 a7 a8 a9 a10 : Option MV} {r : List (Option MV)} {x : Int} (hd : decode cc pc = .ok (.iload 11, 2))
    (k : WW l w own cc nL R cs sl A Qf Ex (pc + 2) (a0 :: a1 :: a2 :: a3 :: a4 :: a5 :: a6 :: a7 :: a8 :: a9 :: a10 :: some (vI x) :: r) (vI x :: st) M) : WW l w own cc nL R cs sl A Qf Ex pc (a0 :: a1 :: a2 :: a3 :: a4 :: a5 :: a6 :: a7 :: a8 :: a9 :: a10 :: some (vI x) :: r) st M := by
  intro p e s m args below meth c H locs ls hF hE hS hA hP hSS hM hL hst
  refine lv_iload hF.1 hF.2.1 hd (hL.2.2.2 11 (vI x) rfl).2 ?_
  exact k p e s m args below meth c H locs ls hF hE hS hA hP hSS hM hL (List.forall_mem_cons.mpr ⟨(hL.2.2.2 11 (vI x) rfl).1, hst⟩)
theorem e_lload11 {a0 a1 a2 a3 a4 a5 a6 a7 a8 a9 a10 : Option MV} {r : List (Option MV)} {x : Int} (hd : decode cc pc = .ok (.lload 11, 2))
    (k : WW l w own cc nL R cs sl A Qf Ex (pc + 2) (a0 :: a1 :: a2 :: a3 :: a4 :: a5 :: a6 :: a7 :: a8 :: a9 :: a10 :: some (vL x) :: r) (vL x :: st) M) : WW l w own cc nL R cs sl A Qf Ex pc (a0 :: a1 :: a2 :: a3 :: a4 :: a5 :: a6 :: a7 :: a8 :: a9 :: a10 :: some (vL x) :: r) st M := by
  intro p e s m args below meth c H locs ls hF hE hS hA hP hSS hM hL hst
  refine lv_lload hF.1 hF.2.1 hd (hL.2.2.2 11 (vL x) rfl).2 ?_
  exact k p e s m args below meth c H locs ls hF hE hS hA hP hSS hM hL (List.forall_mem_cons.mpr ⟨(hL.2.2.2 11 (vL x) rfl).1, hst⟩)
theorem e_aload11 {a0 a1 a2 a3 a4 a5 a6 a7 a8 a9 a10 : Option MV} {r : List (Option MV)} {x : Nat} (hd : decode cc pc = .ok (.aload 11, 2))
    (k : WW l w own cc nL R cs sl A Qf Ex (pc + 2) (a0 :: a1 :: a2 :: a3 :: a4 :: a5 :: a6 :: a7 :: a8 :: a9 :: a10 :: some (vR x) :: r) (vR x :: st) M) : WW l w own cc nL R cs sl A Qf Ex pc (a0 :: a1 :: a2 :: a3 :: a4 :: a5 :: a6 :: a7 :: a8 :: a9 :: a10 :: some (vR x) :: r) st M := by
  intro p e s m args below meth c H locs ls hF hE hS hA hP hSS hM hL hst
  refine lv_aload hF.1 hF.2.1 hd (hL.2.2.2 11 (vR x) rfl).2 ?_
  exact k p e s m args below meth c H locs ls hF hE hS hA hP hSS hM hL (List.forall_mem_cons.mpr ⟨(hL.2.2.2 11 (vR x) rfl).1, hst⟩)
theorem e_aloadN11 {a0 a1 a2 a3 a4 a5 a6 a7 a8 a9 a10 : Option MV} {r : List (Option MV)} (hd : decode cc pc = .ok (.aload 11, 2))
    (k : WW l w own cc nL R cs sl A Qf Ex (pc + 2) (a0 :: a1 :: a2 :: a3 :: a4 :: a5 :: a6 :: a7 :: a8 :: a9 :: a10 :: some vN :: r) (vN :: st) M) : WW l w own cc nL R cs sl A Qf Ex pc (a0 :: a1 :: a2 :: a3 :: a4 :: a5 :: a6 :: a7 :: a8 :: a9 :: a10 :: some vN :: r) st M := by
  intro p e s m args below meth c H locs ls hF hE hS hA hP hSS hM hL hst
  refine lv_aloadN hF.1 hF.2.1 hd (hL.2.2.2 11 vN rfl).2 ?_
  exact k p e s m args below meth c H locs ls hF hE hS hA hP hSS hM hL (List.forall_mem_cons.mpr ⟨trivial, hst⟩)
theorem e_iload12 {a0 a1 a2 a3 a4 a5 a6 a7 a8 a9 a10 a11 : Option MV} {r : List (Option MV)} {x : Int} (hd : decode cc pc = .ok (.iload 12, 2))
    (k : WW l w own cc nL R cs sl A Qf Ex (pc + 2) (a0 :: a1 :: a2 :: a3 :: a4 :: a5 :: a6 :: a7 :: a8 :: a9 :: a10 :: a11 :: some (vI x) :: r) (vI x :: st) M) : WW l w own cc nL R cs sl A Qf Ex pc (a0 :: a1 :: a2 :: a3 :: a4 :: a5 :: a6 :: a7 :: a8 :: a9 :: a10 :: a11 :: some (vI x) :: r) st M := by
  intro p e s m args below meth c H locs ls hF hE hS hA hP hSS hM hL hst
  refine lv_iload hF.1 hF.2.1 hd (hL.2.2.2 12 (vI x) rfl).2 ?_
  exact k p e s m args below meth c H locs ls hF hE hS hA hP hSS hM hL (List.forall_mem_cons.mpr ⟨(hL.2.2.2 12 (vI x) rfl).1, hst⟩)
theorem e_lload12 {a0 a1 a2 a3 a4 a5 a6 a7 a8 a9 a10 a11 : Option MV} {r : List (Option MV)} {x : Int} (hd : decode cc pc = .ok (.lload 12, 2))
    (k : WW l w own cc nL R cs sl A Qf Ex (pc + 2) (a0 :: a1 :: a2 :: a3 :: a4 :: a5 :: a6 :: a7 :: a8 :: a9 :: a10 :: a11 :: some (vL x) :: r) (vL x :: st) M) : WW l w own cc nL R cs sl A Qf Ex pc (a0 :: a1 :: a2 :: a3 :: a4 :: a5 :: a6 :: a7 :: a8 :: a9 :: a10 :: a11 :: some (vL x) :: r) st M := by
  intro p e s m args below meth c H locs ls hF hE hS hA hP hSS hM hL hst
  refine lv_lload hF.1 hF.2.1 hd (hL.2.2.2 12 (vL x) rfl).2 ?_
  exact k p e s m args below meth c H locs ls hF hE hS hA hP hSS hM hL (List.forall_mem_cons.mpr ⟨(hL.2.2.2 12 (vL x) rfl).1, hst⟩)
theorem e_aload12 {a0 a1 a2 a3 a4 a5 a6 a7 a8 a9 a10 a11 : Option MV} {r : List (Option MV)} {x : Nat} (hd : decode cc pc = .ok (.aload 12, 2))
    (k : WW l w own cc nL R cs sl A Qf Ex (pc + 2) (a0 :: a1 :: a2 :: a3 :: a4 :: a5 :: a6 :: a7 :: a8 :: a9 :: a10 :: a11 :: some (vR x) :: r) (vR x :: st) M) : WW l w own cc nL R cs sl A Qf Ex pc (a0 :: a1 :: a2 :: a3 :: a4 :: a5 :: a6 :: a7 :: a8 :: a9 :: a10 :: a11 :: some (vR x) :: r) st M := by
  intro p e s m args below meth c H locs ls hF hE hS hA hP hSS hM hL hst
  refine lv_aload hF.1 hF.2.1 hd (hL.2.2.2 12 (vR x) rfl).2 ?_
  exact k p e s m args below meth c H locs ls hF hE hS hA hP hSS hM hL (List.forall_mem_cons.mpr ⟨(hL.2.2.2 12 (vR x) rfl).1, hst⟩)
theorem e_aloadN12 {a0 a1 a2 a3 a4 a5 a6 a7 a8 a9 a10 a11 : Option MV} {r : List (Option MV)} (hd : decode cc pc = .ok (.aload 12, 2))
    (k : WW l w own cc nL R cs sl A Qf Ex (pc + 2) (a0 :: a1 :: a2 :: a3 :: a4 :: a5 :: a6 :: a7 :: a8 :: a9 :: a10 :: a11 :: some vN :: r) (vN :: st) M) : WW l w own cc nL R cs sl A Qf Ex pc (a0 :: a1 :: a2 :: a3 :: a4 :: a5 :: a6 :: a7 :: a8 :: a9 :: a10 :: a11 :: some vN :: r) st M := by
  intro p e s m args below meth c H locs ls hF hE hS hA hP hSS hM hL hst
  refine lv_aloadN hF.1 hF.2.1 hd (hL.2.2.2 12 vN rfl).2 ?_
  exact k p e s m args below meth c H locs ls hF hE hS hA hP hSS hM hL (List.forall_mem_cons.mpr ⟨trivial, hst⟩)
theorem e_iload13 {a0 a1 a2 a3 a4 a5 a6 a7 a8 a9 a10 a11 a12 : Option MV} {r : List (Option MV)} {x : Int} (hd : decode cc pc = .ok (.iload 13, 2))
    (k : WW l w own cc nL R cs sl A Qf Ex (pc + 2) (a0 :: a1 :: a2 :: a3 :: a4 :: a5 :: a6 :: a7 :: a8 :: a9 :: a10 :: a11 :: a12 :: some (vI x) :: r) (vI x :: st) M) : WW l w own cc nL R cs sl A Qf Ex pc (a0 :: a1 :: a2 :: a3 :: a4 :: a5 :: a6 :: a7 :: a8 :: a9 :: a10 :: a11 :: a12 :: some (vI x) :: r) st M := by
  intro p e s m args below meth c H locs ls hF hE hS hA hP hSS hM hL hst
  refine lv_iload hF.1 hF.2.1 hd (hL.2.2.2 13 (vI x) rfl).2 ?_
  exact k p e s m args below meth c H locs ls hF hE hS hA hP hSS hM hL (List.forall_mem_cons.mpr ⟨(hL.2.2.2 13 (vI x) rfl).1, hst⟩)
theorem e_lload13 {a0 a1 a2 a3 a4 a5 a6 a7 a8 a9 a10 a11 a12 : Option MV} {r : List (Option MV)} {x : Int} (hd : decode cc pc = .ok (.lload 13, 2))
    (k : WW l w own cc nL R cs sl A Qf Ex (pc + 2) (a0 :: a1 :: a2 :: a3 :: a4 :: a5 :: a6 :: a7 :: a8 :: a9 :: a10 :: a11 :: a12 :: some (vL x) :: r) (vL x :: st) M) : WW l w own cc nL R cs sl A Qf Ex pc (a0 :: a1 :: a2 :: a3 :: a4 :: a5 :: a6 :: a7 :: a8 :: a9 :: a10 :: a11 :: a12 :: some (vL x) :: r) st M := by
  intro p e s m args below meth c H locs ls hF hE hS hA hP hSS hM hL hst
  refine lv_lload hF.1 hF.2.1 hd (hL.2.2.2 13 (vL x) rfl).2 ?_
  exact k p e s m args below meth c H locs ls hF hE hS hA hP hSS hM hL (List.forall_mem_cons.mpr ⟨(hL.2.2.2 13 (vL x) rfl).1, hst⟩)
theorem e_aload13 {a0 a1 a2 a3 a4 a5 a6 a7 a8 a9 a10 a11 a12 : Option MV} {r : List (Option MV)} {x : Nat} (hd : decode cc pc = .ok (.aload 13, 2))
    (k : WW l w own cc nL R cs sl A Qf Ex (pc + 2) (a0 :: a1 :: a2 :: a3 :: a4 :: a5 :: a6 :: a7 :: a8 :: a9 :: a10 :: a11 :: a12 :: some (vR x) :: r) (vR x :: st) M) : WW l w own cc nL R cs sl A Qf Ex pc (a0 :: a1 :: a2 :: a3 :: a4 :: a5 :: a6 :: a7 :: a8 :: a9 :: a10 :: a11 :: a12 :: some (vR x) :: r) st M := by
  intro p e s m args below meth c H locs ls hF hE hS hA hP hSS hM hL hst
  refine lv_aload hF.1 hF.2.1 hd (hL.2.2.2 13 (vR x) rfl).2 ?_
  exact k p e s m args below meth c H locs ls hF hE hS hA hP hSS hM hL (List.forall_mem_cons.mpr ⟨(hL.2.2.2 13 (vR x) rfl).1, hst⟩)
theorem e_aloadN13 {a0 a1 a2 a3 a4 a5 a6 a7 a8 a9 a10 a11 a12 : Option MV} {r : List (Option MV)} (hd : decode cc pc = .ok (.aload 13, 2))
    (k : WW l w own cc nL R cs sl A Qf Ex (pc + 2) (a0 :: a1 :: a2 :: a3 :: a4 :: a5 :: a6 :: a7 :: a8 :: a9 :: a10 :: a11 :: a12 :: some vN :: r) (vN :: st) M) : WW l w own cc nL R cs sl A Qf Ex pc (a0 :: a1 :: a2 :: a3 :: a4 :: a5 :: a6 :: a7 :: a8 :: a9 :: a10 :: a11 :: a12 :: some vN :: r) st M := by
  intro p e s m args below meth c H locs ls hF hE hS hA hP hSS hM hL hst
  refine lv_aloadN hF.1 hF.2.1 hd (hL.2.2.2 13 vN rfl).2 ?_
  exact k p e s m args below meth c H locs ls hF hE hS hA hP hSS hM hL (List.forall_mem_cons.mpr ⟨trivial, hst⟩)
theorem e_iload14 {a0 a1 a2 a3 a4 a5 a6 a7 a8 a9 a10 a11 a12 a13 : Option MV} {r : List (Option MV)} {x : Int} (hd : decode cc pc = .ok (.iload 14, 2))
    (k : WW l w own cc nL R cs sl A Qf Ex (pc + 2) (a0 :: a1 :: a2 :: a3 :: a4 :: a5 :: a6 :: a7 :: a8 :: a9 :: a10 :: a11 :: a12 :: a13 :: some (vI x) :: r) (vI x :: st) M) : WW l w own cc nL R cs sl A Qf Ex pc (a0 :: a1 :: a2 :: a3 :: a4 :: a5 :: a6 :: a7 :: a8 :: a9 :: a10 :: a11 :: a12 :: a13 :: some (vI x) :: r) st M := by
  intro p e s m args below meth c H locs ls hF hE hS hA hP hSS hM hL hst
  refine lv_iload hF.1 hF.2.1 hd (hL.2.2.2 14 (vI x) rfl).2 ?_
  exact k p e s m args below meth c H locs ls hF hE hS hA hP hSS hM hL (List.forall_mem_cons.mpr ⟨(hL.2.2.2 14 (vI x) rfl).1, hst⟩)
theorem e_lload14 {a0 a1 a2 a3 a4 a5 a6 a7 a8 a9 a10 a11 a12 a13 : Option MV} {r : List (Option MV)} {x : Int} (hd : decode cc pc = .ok (.lload 14, 2))
    (k : WW l w own cc nL R cs sl A Qf Ex (pc + 2) (a0 :: a1 :: a2 :: a3 :: a4 :: a5 :: a6 :: a7 :: a8 :: a9 :: a10 :: a11 :: a12 :: a13 :: some (vL x) :: r) (vL x :: st) M) : WW l w own cc nL R cs sl A Qf Ex pc (a0 :: a1 :: a2 :: a3 :: a4 :: a5 :: a6 :: a7 :: a8 :: a9 :: a10 :: a11 :: a12 :: a13 :: some (vL x) :: r) st M := by
  intro p e s m args below meth c H locs ls hF hE hS hA hP hSS hM hL hst
  refine lv_lload hF.1 hF.2.1 hd (hL.2.2.2 14 (vL x) rfl).2 ?_
  exact k p e s m args below meth c H locs ls hF hE hS hA hP hSS hM hL (List.forall_mem_cons.mpr ⟨(hL.2.2.2 14 (vL x) rfl).1, hst⟩)
theorem e_aload14 {a0 a1 a2 a3 a4 a5 a6 a7 a8 a9 a10 a11 a12 a13 : Option MV} {r : List (Option MV)} {x : Nat} (hd : decode cc pc = .ok (.aload 14, 2))
    (k : WW l w own cc nL R cs sl A Qf Ex (pc + 2) (a0 :: a1 :: a2 :: a3 :: a4 :: a5 :: a6 :: a7 :: a8 :: a9 :: a10 :: a11 :: a12 :: a13 :: some (vR x) :: r) (vR x :: st) M) : WW l w own cc nL R cs sl A Qf Ex pc (a0 :: a1 :: a2 :: a3 :: a4 :: a5 :: a6 :: a7 :: a8 :: a9 :: a10 :: a11 :: a12 :: a13 :: some (vR x) :: r) st M := by
  intro p e s m args below meth c H locs ls hF hE hS hA hP hSS hM hL hst
  refine lv_aload hF.1 hF.2.1 hd (hL.2.2.2 14 (vR x) rfl).2 ?_
  exact k p e s m args below meth c H locs ls hF hE hS hA hP hSS hM hL (List.forall_mem_cons.mpr ⟨(hL.2.2.2 14 (vR x) rfl).1, hst⟩)
theorem e_aloadN14 {a0 a1 a2 a3 a4 a5 a6 a7 a8 a9 a10 a11 a12 a13 : Option MV} {r : List (Option MV)} (hd : decode cc pc = .ok (.aload 14, 2))
    (k : WW l w own cc nL R cs sl A Qf Ex (pc + 2) (a0 :: a1 :: a2 :: a3 :: a4 :: a5 :: a6 :: a7 :: a8 :: a9 :: a10 :: a11 :: a12 :: a13 :: some vN :: r) (vN :: st) M) : WW l w own cc nL R cs sl A Qf Ex pc (a0 :: a1 :: a2 :: a3 :: a4 :: a5 :: a6 :: a7 :: a8 :: a9 :: a10 :: a11 :: a12 :: a13 :: some vN :: r) st M := by
  intro p e s m args below meth c H locs ls hF hE hS hA hP hSS hM hL hst
  refine lv_aloadN hF.1 hF.2.1 hd (hL.2.2.2 14 vN rfl).2 ?_
  exact k p e s m args below meth c H locs ls hF hE hS hA hP hSS hM hL (List.forall_mem_cons.mpr ⟨trivial, hst⟩)
theorem e_iload15 {a0 a1 a2 a3 a4 a5 a6 a7 a8 a9 a10 a11 a12 a13 a14 : Option MV} {r : List (Option MV)} {x : Int} (hd : decode cc pc = .ok (.iload 15, 2))
    (k : WW l w own cc nL R cs sl A Qf Ex (pc + 2) (a0 :: a1 :: a2 :: a3 :: a4 :: a5 :: a6 :: a7 :: a8 :: a9 :: a10 :: a11 :: a12 :: a13 :: a14 :: some (vI x) :: r) (vI x :: st) M) : WW l w own cc nL R cs sl A Qf Ex pc (a0 :: a1 :: a2 :: a3 :: a4 :: a5 :: a6 :: a7 :: a8 :: a9 :: a10 :: a11 :: a12 :: a13 :: a14 :: some (vI x) :: r) st M := by
  intro p e s m args below meth c H locs ls hF hE hS hA hP hSS hM hL hst
  refine lv_iload hF.1 hF.2.1 hd (hL.2.2.2 15 (vI x) rfl).2 ?_
  exact k p e s m args below meth c H locs ls hF hE hS hA hP hSS hM hL (List.forall_mem_cons.mpr ⟨(hL.2.2.2 15 (vI x) rfl).1, hst⟩)
theorem e_lload15 {a0 a1 a2 a3 a4 a5 a6 a7 a8 a9 a10 a11 a12 a13 a14 : Option MV} {r : List (Option MV)} {x : Int} (hd : decode cc pc = .ok (.lload 15, 2))
    (k : WW l w own cc nL R cs sl A Qf Ex (pc + 2) (a0 :: a1 :: a2 :: a3 :: a4 :: a5 :: a6 :: a7 :: a8 :: a9 :: a10 :: a11 :: a12 :: a13 :: a14 :: some (vL x) :: r) (vL x :: st) M) : WW l w own cc nL R cs sl A Qf Ex pc (a0 :: a1 :: a2 :: a3 :: a4 :: a5 :: a6 :: a7 :: a8 :: a9 :: a10 :: a11 :: a12 :: a13 :: a14 :: some (vL x) :: r) st M := by
  intro p e s m args below meth c H locs ls hF hE hS hA hP hSS hM hL hst
  refine lv_lload hF.1 hF.2.1 hd (hL.2.2.2 15 (vL x) rfl).2 ?_
  exact k p e s m args below meth c H locs ls hF hE hS hA hP hSS hM hL (List.forall_mem_cons.mpr ⟨(hL.2.2.2 15 (vL x) rfl).1, hst⟩)
theorem e_aload15 {a0 a1 a2 a3 a4 a5 a6 a7 a8 a9 a10 a11 a12 a13 a14 : Option MV} {r : List (Option MV)} {x : Nat} (hd : decode cc pc = .ok (.aload 15, 2))
    (k : WW l w own cc nL R cs sl A Qf Ex (pc + 2) (a0 :: a1 :: a2 :: a3 :: a4 :: a5 :: a6 :: a7 :: a8 :: a9 :: a10 :: a11 :: a12 :: a13 :: a14 :: some (vR x) :: r) (vR x :: st) M) : WW l w own cc nL R cs sl A Qf Ex pc (a0 :: a1 :: a2 :: a3 :: a4 :: a5 :: a6 :: a7 :: a8 :: a9 :: a10 :: a11 :: a12 :: a13 :: a14 :: some (vR x) :: r) st M := by
  intro p e s m args below meth c H locs ls hF hE hS hA hP hSS hM hL hst
  refine lv_aload hF.1 hF.2.1 hd (hL.2.2.2 15 (vR x) rfl).2 ?_
  exact k p e s m args below meth c H locs ls hF hE hS hA hP hSS hM hL (List.forall_mem_cons.mpr ⟨(hL.2.2.2 15 (vR x) rfl).1, hst⟩)
theorem e_aloadN15 {a0 a1 a2 a3 a4 a5 a6 a7 a8 a9 a10 a11 a12 a13 a14 : Option MV} {r : List (Option MV)} (hd : decode cc pc = .ok (.aload 15, 2))
    (k : WW l w own cc nL R cs sl A Qf Ex (pc + 2) (a0 :: a1 :: a2 :: a3 :: a4 :: a5 :: a6 :: a7 :: a8 :: a9 :: a10 :: a11 :: a12 :: a13 :: a14 :: some vN :: r) (vN :: st) M) : WW l w own cc nL R cs sl A Qf Ex pc (a0 :: a1 :: a2 :: a3 :: a4 :: a5 :: a6 :: a7 :: a8 :: a9 :: a10 :: a11 :: a12 :: a13 :: a14 :: some vN :: r) st M := by
  intro p e s m args below meth c H locs ls hF hE hS hA hP hSS hM hL hst
  refine lv_aloadN hF.1 hF.2.1 hd (hL.2.2.2 15 vN rfl).2 ?_
  exact k p e s m args below meth c H locs ls hF hE hS hA hP hSS hM hL (List.forall_mem_cons.mpr ⟨trivial, hst⟩)
def isL : Option MV → Bool
  | some (.inr (.inl _)) => true
  | _ => false
def asc (w : Wd) (L : List (Option MV)) : List (Nat × Value) := (L.zipIdx).filterMap (fun q => q.1.map (fun v => (q.2, tv w v)))
theorem asc_in {w : Wd} {L : List (Option MV)} {q : Nat × Value} (h : q ∈ asc w L) : ∃ v, L[q.1]? = some (some v) ∧ q.2 = tv w v := by
  obtain ⟨⟨a, i⟩, h1, h2⟩ := List.mem_filterMap.mp h
  have h3 := List.mem_zipIdx_iff_getElem?.mp h1
  cases a with
  | none => cases h2
  | some v =>
    cases h2
    exact ⟨v, h3, rfl⟩
theorem asc_of {w : Wd} {L : List (Option MV)} {i : Nat} {v : MV} (h : L[i]? = some (some v)) : (i, tv w v) ∈ asc w L :=
  List.mem_filterMap.mpr ⟨(some v, i), List.mem_zipIdx_iff_getElem?.mpr h, rfl⟩
theorem LOK.has {w : Wd} {ls : Array Slot} {nL : Nat} {L : List (Option MV)} (h : LOK w ls nL L) : lv_has ls nL (asc w L) :=
  ⟨h.1, h.2.1, fun q hq => by obtain ⟨v, h1, h2⟩ := asc_in hq; rw [h2]; exact (h.2.2.2 _ _ h1).2⟩
theorem tv_cat2 {w : Wd} {v : MV} (h : isL (some v) = false) : (tv w v).category = 1 := by
  rcases v with x | x | x
  · rfl
  · cases h
  · cases x <;> rfl
theorem LOK.st1 {w : Wd} {ls ls' : Array Slot} {nL i : Nat} {L : List (Option MV)} {v : MV} (h : LOK w ls nL L) (hv : inR v) (h' : lv_has ls' nL ((i, tv w v) :: (asc w L).filter (fun q => !(q.1 == i) && !(q.1 + 1 == i && q.2.category == 2))))
    (hk : ∀ (j : Nat) (u : Option MV), j + 1 = i → L[j]? = some u → isL u = false) : LOK w ls' nL (L.set i (some v)) := by
  refine ⟨h'.1, h'.2.1, by rw [List.length_set]; exact h.2.2.1, fun j u hj => ?_⟩
  by_cases e : j = i
  · subst e
    rw [List.getElem?_set] at hj
    simp only [if_true] at hj
    split at hj
    · cases hj
      exact ⟨hv, h'.2.2 (j, tv w v) List.mem_cons_self⟩
    · cases hj
  · rw [List.getElem?_set_ne (fun q => e q.symm)] at hj
    refine ⟨(h.2.2.2 j u hj).1, h'.2.2 (j, tv w u) (List.mem_cons_of_mem _ (List.mem_filter.mpr ⟨asc_of hj, ?_⟩))⟩
    by_cases e2 : j + 1 = i
    · simp [e, e2, tv_cat2 (w := w) (hk j _ e2 hj)]
    · simp [e, e2]
theorem LOK.st2 {w : Wd} {ls ls' : Array Slot} {nL i : Nat} {L : List (Option MV)} {v : MV} (h : LOK w ls nL L) (hv : inR v) (h' : lv_has ls' nL ((i, tv w v) :: (asc w L).filter (fun q => !(q.1 == i) && (!(q.1 == i + 1) && !(q.1 + 1 == i && q.2.category == 2)))))
    (hk : ∀ (j : Nat) (u : Option MV), j + 1 = i → L[j]? = some u → isL u = false) : LOK w ls' nL ((L.set i (some v)).set (i + 1) none) := by
  refine ⟨h'.1, h'.2.1, by rw [List.length_set, List.length_set]; exact h.2.2.1, fun j u hj => ?_⟩
  by_cases e1 : j = i + 1
  · subst e1
    rw [List.getElem?_set] at hj
    simp only [if_true] at hj
    split at hj <;> cases hj
  · rw [List.getElem?_set_ne (fun q => e1 q.symm)] at hj
    by_cases e : j = i
    · subst e
      rw [List.getElem?_set] at hj
      simp only [if_true] at hj
      split at hj
      · cases hj
        exact ⟨hv, h'.2.2 (j, tv w v) List.mem_cons_self⟩
      · cases hj
    · rw [List.getElem?_set_ne (fun q => e q.symm)] at hj
      refine ⟨(h.2.2.2 j u hj).1, h'.2.2 (j, tv w u) (List.mem_cons_of_mem _ (List.mem_filter.mpr ⟨asc_of hj, ?_⟩))⟩
      by_cases e2 : j + 1 = i
      · simp [e, e1, e2, tv_cat2 (w := w) (hk j _ e2 hj)]
      · simp [e, e1, e2]
theorem e_istore0 {b : Option MV} {r : List (Option MV)} {x : Int} (hd : decode cc pc = .ok (.istore_n 0, 1)) 
    (k : WW l w own cc nL R cs sl A Qf Ex (pc + 1) (some (vI x) :: r) st M) : WW l w own cc nL R cs sl A Qf Ex pc (b :: r) (vI x :: st) M := by
  intro p e s m args below meth c H locs ls hF hE hS hA hP hSS hM hL hst
  have hlt : 0 < nL := Nat.lt_of_lt_of_le (by simp) hL.2.2.1
  refine lv_istore_n hF.1 hF.2.1 hd rfl hL.has hlt rfl (fun ls' h' => ?_)
  exact k p e s m args below meth c H locs ls' hF hE hS hA hP hSS hM (hL.st1 (i := 0) (v := vI x) (hst _ List.mem_cons_self) h' (fun j u hj hu => absurd hj (by omega))) (fun v hv => hst v (List.mem_cons_of_mem _ hv))
theorem e_astore0 {b : Option MV} {r : List (Option MV)} {x : Nat} (hd : decode cc pc = .ok (.astore_n 0, 1)) 
    (k : WW l w own cc nL R cs sl A Qf Ex (pc + 1) (some (vR x) :: r) st M) : WW l w own cc nL R cs sl A Qf Ex pc (b :: r) (vR x :: st) M := by
  intro p e s m args below meth c H locs ls hF hE hS hA hP hSS hM hL hst
  have hlt : 0 < nL := Nat.lt_of_lt_of_le (by simp) hL.2.2.1
  refine lv_astore_n hF.1 hF.2.1 hd rfl hL.has hlt rfl (fun ls' h' => ?_)
  exact k p e s m args below meth c H locs ls' hF hE hS hA hP hSS hM (hL.st1 (i := 0) (v := vR x) (hst _ List.mem_cons_self) h' (fun j u hj hu => absurd hj (by omega))) (fun v hv => hst v (List.mem_cons_of_mem _ hv))
theorem e_astoreN0 {b : Option MV} {r : List (Option MV)}  (hd : decode cc pc = .ok (.astore_n 0, 1)) 
    (k : WW l w own cc nL R cs sl A Qf Ex (pc + 1) (some (vN) :: r) st M) : WW l w own cc nL R cs sl A Qf Ex pc (b :: r) (vN :: st) M := by
  intro p e s m args below meth c H locs ls hF hE hS hA hP hSS hM hL hst
  have hlt : 0 < nL := Nat.lt_of_lt_of_le (by simp) hL.2.2.1
  refine lv_astore_nN hF.1 hF.2.1 hd rfl hL.has hlt rfl (fun ls' h' => ?_)
  exact k p e s m args below meth c H locs ls' hF hE hS hA hP hSS hM (hL.st1 (i := 0) (v := vN) (hst _ List.mem_cons_self) h' (fun j u hj hu => absurd hj (by omega))) (fun v hv => hst v (List.mem_cons_of_mem _ hv))
theorem e_lstore0 {b b2 : Option MV} {r : List (Option MV)} {x : Int} (hd : decode cc pc = .ok (.lstore_n 0, 1)) 
    (k : WW l w own cc nL R cs sl A Qf Ex (pc + 1) (some (vL x) :: none :: r) st M) : WW l w own cc nL R cs sl A Qf Ex pc (b :: b2 :: r) (vL x :: st) M := by
  intro p e s m args below meth c H locs ls hF hE hS hA hP hSS hM hL hst
  have hlt : 0 + 1 < nL := Nat.lt_of_lt_of_le (by simp) hL.2.2.1
  refine lv_lstore_n hF.1 hF.2.1 hd rfl hL.has hlt rfl (fun ls' h' => ?_)
  exact k p e s m args below meth c H locs ls' hF hE hS hA hP hSS hM (hL.st2 (i := 0) (v := vL x) (hst _ List.mem_cons_self) h' (fun j u hj hu => absurd hj (by omega))) (fun v hv => hst v (List.mem_cons_of_mem _ hv))
theorem e_iinc0 {r : List (Option MV)} {x y n : Int} (hd : decode cc pc = .ok (.iinc 0 n, 3)) (hy : x + n = y) (hr : inR (vI y)) 
    (k : WW l w own cc nL R cs sl A Qf Ex (pc + 3) (some (vI y) :: r) st M) : WW l w own cc nL R cs sl A Qf Ex pc (some (vI x) :: r) st M := by
  intro p e s m args below meth c H locs ls hF hE hS hA hP hSS hM hL hst
  have hlt : 0 < nL := Nat.lt_of_lt_of_le (by simp) hL.2.2.1
  obtain ⟨ki, hki⟩ := List.getElem?_of_mem (asc_of (w := w) (L := (some (vI x) :: r)) (i := 0) (v := vI x) rfl)
  refine lv_iinc (v := Int32.ofInt y) hF.1 hF.2.1 hd hL.has hki (by rw [← hy, Int32.ofInt_add]) hlt rfl (fun ls' h' => ?_)
  exact k p e s m args below meth c H locs ls' hF hE hS hA hP hSS hM (hL.st1 (i := 0) (v := vI y) hr h' (fun j u hj hu => absurd hj (by omega))) hst
theorem e_istore1 {a0 b : Option MV} {r : List (Option MV)} {x : Int} (hd : decode cc pc = .ok (.istore_n 1, 1)) (hk : isL a0 = false) 
    (k : WW l w own cc nL R cs sl A Qf Ex (pc + 1) (a0 :: some (vI x) :: r) st M) : WW l w own cc nL R cs sl A Qf Ex pc (a0 :: b :: r) (vI x :: st) M := by
  intro p e s m args below meth c H locs ls hF hE hS hA hP hSS hM hL hst
  have hlt : 1 < nL := Nat.lt_of_lt_of_le (by simp) hL.2.2.1
  refine lv_istore_n hF.1 hF.2.1 hd rfl hL.has hlt rfl (fun ls' h' => ?_)
  exact k p e s m args below meth c H locs ls' hF hE hS hA hP hSS hM (hL.st1 (i := 1) (v := vI x) (hst _ List.mem_cons_self) h' (fun j u hj hu => by (obtain rfl : j = 0 := by omega); cases hu; exact hk)) (fun v hv => hst v (List.mem_cons_of_mem _ hv))
theorem e_astore1 {a0 b : Option MV} {r : List (Option MV)} {x : Nat} (hd : decode cc pc = .ok (.astore_n 1, 1)) (hk : isL a0 = false) 
    (k : WW l w own cc nL R cs sl A Qf Ex (pc + 1) (a0 :: some (vR x) :: r) st M) : WW l w own cc nL R cs sl A Qf Ex pc (a0 :: b :: r) (vR x :: st) M := by
  intro p e s m args below meth c H locs ls hF hE hS hA hP hSS hM hL hst
  have hlt : 1 < nL := Nat.lt_of_lt_of_le (by simp) hL.2.2.1
  refine lv_astore_n hF.1 hF.2.1 hd rfl hL.has hlt rfl (fun ls' h' => ?_)
  exact k p e s m args below meth c H locs ls' hF hE hS hA hP hSS hM (hL.st1 (i := 1) (v := vR x) (hst _ List.mem_cons_self) h' (fun j u hj hu => by (obtain rfl : j = 0 := by omega); cases hu; exact hk)) (fun v hv => hst v (List.mem_cons_of_mem _ hv))
theorem e_astoreN1 {a0 b : Option MV} {r : List (Option MV)}  (hd : decode cc pc = .ok (.astore_n 1, 1)) (hk : isL a0 = false) 
    (k : WW l w own cc nL R cs sl A Qf Ex (pc + 1) (a0 :: some (vN) :: r) st M) : WW l w own cc nL R cs sl A Qf Ex pc (a0 :: b :: r) (vN :: st) M := by
  intro p e s m args below meth c H locs ls hF hE hS hA hP hSS hM hL hst
  have hlt : 1 < nL := Nat.lt_of_lt_of_le (by simp) hL.2.2.1
  refine lv_astore_nN hF.1 hF.2.1 hd rfl hL.has hlt rfl (fun ls' h' => ?_)
  exact k p e s m args below meth c H locs ls' hF hE hS hA hP hSS hM (hL.st1 (i := 1) (v := vN) (hst _ List.mem_cons_self) h' (fun j u hj hu => by (obtain rfl : j = 0 := by omega); cases hu; exact hk)) (fun v hv => hst v (List.mem_cons_of_mem _ hv))
theorem e_lstore1 {a0 b b2 : Option MV} {r : List (Option MV)} {x : Int} (hd : decode cc pc = .ok (.lstore_n 1, 1)) (hk : isL a0 = false) 
    (k : WW l w own cc nL R cs sl A Qf Ex (pc + 1) (a0 :: some (vL x) :: none :: r) st M) : WW l w own cc nL R cs sl A Qf Ex pc (a0 :: b :: b2 :: r) (vL x :: st) M := by
  intro p e s m args below meth c H locs ls hF hE hS hA hP hSS hM hL hst
  have hlt : 1 + 1 < nL := Nat.lt_of_lt_of_le (by simp) hL.2.2.1
  refine lv_lstore_n hF.1 hF.2.1 hd rfl hL.has hlt rfl (fun ls' h' => ?_)
  exact k p e s m args below meth c H locs ls' hF hE hS hA hP hSS hM (hL.st2 (i := 1) (v := vL x) (hst _ List.mem_cons_self) h' (fun j u hj hu => by (obtain rfl : j = 0 := by omega); cases hu; exact hk)) (fun v hv => hst v (List.mem_cons_of_mem _ hv))
theorem e_iinc1 {a0 : Option MV} {r : List (Option MV)} {x y n : Int} (hd : decode cc pc = .ok (.iinc 1 n, 3)) (hy : x + n = y) (hr : inR (vI y)) (hk : isL a0 = false) 
    (k : WW l w own cc nL R cs sl A Qf Ex (pc + 3) (a0 :: some (vI y) :: r) st M) : WW l w own cc nL R cs sl A Qf Ex pc (a0 :: some (vI x) :: r) st M := by
  intro p e s m args below meth c H locs ls hF hE hS hA hP hSS hM hL hst
  have hlt : 1 < nL := Nat.lt_of_lt_of_le (by simp) hL.2.2.1
  obtain ⟨ki, hki⟩ := List.getElem?_of_mem (asc_of (w := w) (L := (a0 :: some (vI x) :: r)) (i := 1) (v := vI x) rfl)
  refine lv_iinc (v := Int32.ofInt y) hF.1 hF.2.1 hd hL.has hki (by rw [← hy, Int32.ofInt_add]) hlt rfl (fun ls' h' => ?_)
  exact k p e s m args below meth c H locs ls' hF hE hS hA hP hSS hM (hL.st1 (i := 1) (v := vI y) hr h' (fun j u hj hu => by (obtain rfl : j = 0 := by omega); cases hu; exact hk)) hst
theorem e_istore2 {a0 a1 b : Option MV} {r : List (Option MV)} {x : Int} (hd : decode cc pc = .ok (.istore_n 2, 1)) (hk : isL a1 = false) 
    (k : WW l w own cc nL R cs sl A Qf Ex (pc + 1) (a0 :: a1 :: some (vI x) :: r) st M) : WW l w own cc nL R cs sl A Qf Ex pc (a0 :: a1 :: b :: r) (vI x :: st) M := by
  intro p e s m args below meth c H locs ls hF hE hS hA hP hSS hM hL hst
  have hlt : 2 < nL := Nat.lt_of_lt_of_le (by simp) hL.2.2.1
  refine lv_istore_n hF.1 hF.2.1 hd rfl hL.has hlt rfl (fun ls' h' => ?_)
  exact k p e s m args below meth c H locs ls' hF hE hS hA hP hSS hM (hL.st1 (i := 2) (v := vI x) (hst _ List.mem_cons_self) h' (fun j u hj hu => by (obtain rfl : j = 1 := by omega); cases hu; exact hk)) (fun v hv => hst v (List.mem_cons_of_mem _ hv))
theorem e_astore2 {a0 a1 b : Option MV} {r : List (Option MV)} {x : Nat} (hd : decode cc pc = .ok (.astore_n 2, 1)) (hk : isL a1 = false) 
    (k : WW l w own cc nL R cs sl A Qf Ex (pc + 1) (a0 :: a1 :: some (vR x) :: r) st M) : WW l w own cc nL R cs sl A Qf Ex pc (a0 :: a1 :: b :: r) (vR x :: st) M := by
  intro p e s m args below meth c H locs ls hF hE hS hA hP hSS hM hL hst
  have hlt : 2 < nL := Nat.lt_of_lt_of_le (by simp) hL.2.2.1
  refine lv_astore_n hF.1 hF.2.1 hd rfl hL.has hlt rfl (fun ls' h' => ?_)
  exact k p e s m args below meth c H locs ls' hF hE hS hA hP hSS hM (hL.st1 (i := 2) (v := vR x) (hst _ List.mem_cons_self) h' (fun j u hj hu => by (obtain rfl : j = 1 := by omega); cases hu; exact hk)) (fun v hv => hst v (List.mem_cons_of_mem _ hv))
theorem e_astoreN2 {a0 a1 b : Option MV} {r : List (Option MV)}  (hd : decode cc pc = .ok (.astore_n 2, 1)) (hk : isL a1 = false) 
    (k : WW l w own cc nL R cs sl A Qf Ex (pc + 1) (a0 :: a1 :: some (vN) :: r) st M) : WW l w own cc nL R cs sl A Qf Ex pc (a0 :: a1 :: b :: r) (vN :: st) M := by
  intro p e s m args below meth c H locs ls hF hE hS hA hP hSS hM hL hst
  have hlt : 2 < nL := Nat.lt_of_lt_of_le (by simp) hL.2.2.1
  refine lv_astore_nN hF.1 hF.2.1 hd rfl hL.has hlt rfl (fun ls' h' => ?_)
  exact k p e s m args below meth c H locs ls' hF hE hS hA hP hSS hM (hL.st1 (i := 2) (v := vN) (hst _ List.mem_cons_self) h' (fun j u hj hu => by (obtain rfl : j = 1 := by omega); cases hu; exact hk)) (fun v hv => hst v (List.mem_cons_of_mem _ hv))
theorem e_lstore2 {a0 a1 b b2 : Option MV} {r : List (Option MV)} {x : Int} (hd : decode cc pc = .ok (.lstore_n 2, 1)) (hk : isL a1 = false) 
    (k : WW l w own cc nL R cs sl A Qf Ex (pc + 1) (a0 :: a1 :: some (vL x) :: none :: r) st M) : WW l w own cc nL R cs sl A Qf Ex pc (a0 :: a1 :: b :: b2 :: r) (vL x :: st) M := by
  intro p e s m args below meth c H locs ls hF hE hS hA hP hSS hM hL hst
  have hlt : 2 + 1 < nL := Nat.lt_of_lt_of_le (by simp) hL.2.2.1
  refine lv_lstore_n hF.1 hF.2.1 hd rfl hL.has hlt rfl (fun ls' h' => ?_)
  exact k p e s m args below meth c H locs ls' hF hE hS hA hP hSS hM (hL.st2 (i := 2) (v := vL x) (hst _ List.mem_cons_self) h' (fun j u hj hu => by (obtain rfl : j = 1 := by omega); cases hu; exact hk)) (fun v hv => hst v (List.mem_cons_of_mem _ hv))
theorem e_iinc2 {a0 a1 : Option MV} {r : List (Option MV)} {x y n : Int} (hd : decode cc pc = .ok (.iinc 2 n, 3)) (hy : x + n = y) (hr : inR (vI y)) (hk : isL a1 = false) 
    (k : WW l w own cc nL R cs sl A Qf Ex (pc + 3) (a0 :: a1 :: some (vI y) :: r) st M) : WW l w own cc nL R cs sl A Qf Ex pc (a0 :: a1 :: some (vI x) :: r) st M := by
  intro p e s m args below meth c H locs ls hF hE hS hA hP hSS hM hL hst
  have hlt : 2 < nL := Nat.lt_of_lt_of_le (by simp) hL.2.2.1
  obtain ⟨ki, hki⟩ := List.getElem?_of_mem (asc_of (w := w) (L := (a0 :: a1 :: some (vI x) :: r)) (i := 2) (v := vI x) rfl)
  refine lv_iinc (v := Int32.ofInt y) hF.1 hF.2.1 hd hL.has hki (by rw [← hy, Int32.ofInt_add]) hlt rfl (fun ls' h' => ?_)
  exact k p e s m args below meth c H locs ls' hF hE hS hA hP hSS hM (hL.st1 (i := 2) (v := vI y) hr h' (fun j u hj hu => by (obtain rfl : j = 1 := by omega); cases hu; exact hk)) hst
theorem e_istore3 {a0 a1 a2 b : Option MV} {r : List (Option MV)} {x : Int} (hd : decode cc pc = .ok (.istore_n 3, 1)) (hk : isL a2 = false) 
    (k : WW l w own cc nL R cs sl A Qf Ex (pc + 1) (a0 :: a1 :: a2 :: some (vI x) :: r) st M) : WW l w own cc nL R cs sl A Qf Ex pc (a0 :: a1 :: a2 :: b :: r) (vI x :: st) M := by
  intro p e s m args below meth c H locs ls hF hE hS hA hP hSS hM hL hst
  have hlt : 3 < nL := Nat.lt_of_lt_of_le (by simp) hL.2.2.1
  refine lv_istore_n hF.1 hF.2.1 hd rfl hL.has hlt rfl (fun ls' h' => ?_)
  exact k p e s m args below meth c H locs ls' hF hE hS hA hP hSS hM (hL.st1 (i := 3) (v := vI x) (hst _ List.mem_cons_self) h' (fun j u hj hu => by (obtain rfl : j = 2 := by omega); cases hu; exact hk)) (fun v hv => hst v (List.mem_cons_of_mem _ hv))
theorem e_astore3 {a0 a1 a2 b : Option MV} {r : List (Option MV)} {x : Nat} (hd : decode cc pc = .ok (.astore_n 3, 1)) (hk : isL a2 = false) 
    (k : WW l w own cc nL R cs sl A Qf Ex (pc + 1) (a0 :: a1 :: a2 :: some (vR x) :: r) st M) : WW l w own cc nL R cs sl A Qf Ex pc (a0 :: a1 :: a2 :: b :: r) (vR x :: st) M := by
  intro p e s m args below meth c H locs ls hF hE hS hA hP hSS hM hL hst
  have hlt : 3 < nL := Nat.lt_of_lt_of_le (by simp) hL.2.2.1
  refine lv_astore_n hF.1 hF.2.1 hd rfl hL.has hlt rfl (fun ls' h' => ?_)
  exact k p e s m args below meth c H locs ls' hF hE hS hA hP hSS hM (hL.st1 (i := 3) (v := vR x) (hst _ List.mem_cons_self) h' (fun j u hj hu => by (obtain rfl : j = 2 := by omega); cases hu; exact hk)) (fun v hv => hst v (List.mem_cons_of_mem _ hv))
theorem e_astoreN3 {a0 a1 a2 b : Option MV} {r : List (Option MV)}  (hd : decode cc pc = .ok (.astore_n 3, 1)) (hk : isL a2 = false) 
    (k : WW l w own cc nL R cs sl A Qf Ex (pc + 1) (a0 :: a1 :: a2 :: some (vN) :: r) st M) : WW l w own cc nL R cs sl A Qf Ex pc (a0 :: a1 :: a2 :: b :: r) (vN :: st) M := by
  intro p e s m args below meth c H locs ls hF hE hS hA hP hSS hM hL hst
  have hlt : 3 < nL := Nat.lt_of_lt_of_le (by simp) hL.2.2.1
  refine lv_astore_nN hF.1 hF.2.1 hd rfl hL.has hlt rfl (fun ls' h' => ?_)
  exact k p e s m args below meth c H locs ls' hF hE hS hA hP hSS hM (hL.st1 (i := 3) (v := vN) (hst _ List.mem_cons_self) h' (fun j u hj hu => by (obtain rfl : j = 2 := by omega); cases hu; exact hk)) (fun v hv => hst v (List.mem_cons_of_mem _ hv))
theorem e_lstore3 {a0 a1 a2 b b2 : Option MV} {r : List (Option MV)} {x : Int} (hd : decode cc pc = .ok (.lstore_n 3, 1)) (hk : isL a2 = false) 
    (k : WW l w own cc nL R cs sl A Qf Ex (pc + 1) (a0 :: a1 :: a2 :: some (vL x) :: none :: r) st M) : WW l w own cc nL R cs sl A Qf Ex pc (a0 :: a1 :: a2 :: b :: b2 :: r) (vL x :: st) M := by
  intro p e s m args below meth c H locs ls hF hE hS hA hP hSS hM hL hst
  have hlt : 3 + 1 < nL := Nat.lt_of_lt_of_le (by simp) hL.2.2.1
  refine lv_lstore_n hF.1 hF.2.1 hd rfl hL.has hlt rfl (fun ls' h' => ?_)
  exact k p e s m args below meth c H locs ls' hF hE hS hA hP hSS hM (hL.st2 (i := 3) (v := vL x) (hst _ List.mem_cons_self) h' (fun j u hj hu => by (obtain rfl : j = 2 := by omega); cases hu; exact hk)) (fun v hv => hst v (List.mem_cons_of_mem _ hv))
theorem e_iinc3 {a0 a1 a2 : Option MV} {r : List (Option MV)} {x y n : Int} (hd : decode cc pc = .ok (.iinc 3 n, 3)) (hy : x + n = y) (hr : inR (vI y)) (hk : isL a2 = false) 
    (k : WW l w own cc nL R cs sl A Qf Ex (pc + 3) (a0 :: a1 :: a2 :: some (vI y) :: r) st M) : WW l w own cc nL R cs sl A Qf Ex pc (a0 :: a1 :: a2 :: some (vI x) :: r) st M := by
  intro p e s m args below meth c H locs ls hF hE hS hA hP hSS hM hL hst
  have hlt : 3 < nL := Nat.lt_of_lt_of_le (by simp) hL.2.2.1
  obtain ⟨ki, hki⟩ := List.getElem?_of_mem (asc_of (w := w) (L := (a0 :: a1 :: a2 :: some (vI x) :: r)) (i := 3) (v := vI x) rfl)
  refine lv_iinc (v := Int32.ofInt y) hF.1 hF.2.1 hd hL.has hki (by rw [← hy, Int32.ofInt_add]) hlt rfl (fun ls' h' => ?_)
  exact k p e s m args below meth c H locs ls' hF hE hS hA hP hSS hM (hL.st1 (i := 3) (v := vI y) hr h' (fun j u hj hu => by (obtain rfl : j = 2 := by omega); cases hu; exact hk)) hst
theorem e_istore4 {a0 a1 a2 a3 b : Option MV} {r : List (Option MV)} {x : Int} (hd : decode cc pc = .ok (.istore 4, 2)) (hk : isL a3 = false) 
    (k : WW l w own cc nL R cs sl A Qf Ex (pc + 2) (a0 :: a1 :: a2 :: a3 :: some (vI x) :: r) st M) : WW l w own cc nL R cs sl A Qf Ex pc (a0 :: a1 :: a2 :: a3 :: b :: r) (vI x :: st) M := by
  intro p e s m args below meth c H locs ls hF hE hS hA hP hSS hM hL hst
  have hlt : 4 < nL := Nat.lt_of_lt_of_le (by simp) hL.2.2.1
  refine lv_istore hF.1 hF.2.1 hd hL.has hlt rfl (fun ls' h' => ?_)
  exact k p e s m args below meth c H locs ls' hF hE hS hA hP hSS hM (hL.st1 (i := 4) (v := vI x) (hst _ List.mem_cons_self) h' (fun j u hj hu => by (obtain rfl : j = 3 := by omega); cases hu; exact hk)) (fun v hv => hst v (List.mem_cons_of_mem _ hv))
theorem e_astore4 {a0 a1 a2 a3 b : Option MV} {r : List (Option MV)} {x : Nat} (hd : decode cc pc = .ok (.astore 4, 2)) (hk : isL a3 = false) 
    (k : WW l w own cc nL R cs sl A Qf Ex (pc + 2) (a0 :: a1 :: a2 :: a3 :: some (vR x) :: r) st M) : WW l w own cc nL R cs sl A Qf Ex pc (a0 :: a1 :: a2 :: a3 :: b :: r) (vR x :: st) M := by
  intro p e s m args below meth c H locs ls hF hE hS hA hP hSS hM hL hst
  have hlt : 4 < nL := Nat.lt_of_lt_of_le (by simp) hL.2.2.1
  refine lv_astore hF.1 hF.2.1 hd hL.has hlt rfl (fun ls' h' => ?_)
  exact k p e s m args below meth c H locs ls' hF hE hS hA hP hSS hM (hL.st1 (i := 4) (v := vR x) (hst _ List.mem_cons_self) h' (fun j u hj hu => by (obtain rfl : j = 3 := by omega); cases hu; exact hk)) (fun v hv => hst v (List.mem_cons_of_mem _ hv))
theorem e_astoreN4 {a0 a1 a2 a3 b : Option MV} {r : List (Option MV)}  (hd : decode cc pc = .ok (.astore 4, 2)) (hk : isL a3 = false) 
    (k : WW l w own cc nL R cs sl A Qf Ex (pc + 2) (a0 :: a1 :: a2 :: a3 :: some (vN) :: r) st M) : WW l w own cc nL R cs sl A Qf Ex pc (a0 :: a1 :: a2 :: a3 :: b :: r) (vN :: st) M := by
  intro p e s m args below meth c H locs ls hF hE hS hA hP hSS hM hL hst
  have hlt : 4 < nL := Nat.lt_of_lt_of_le (by simp) hL.2.2.1
  refine lv_astoreN hF.1 hF.2.1 hd hL.has hlt rfl (fun ls' h' => ?_)
  exact k p e s m args below meth c H locs ls' hF hE hS hA hP hSS hM (hL.st1 (i := 4) (v := vN) (hst _ List.mem_cons_self) h' (fun j u hj hu => by (obtain rfl : j = 3 := by omega); cases hu; exact hk)) (fun v hv => hst v (List.mem_cons_of_mem _ hv))
theorem e_lstore4 {a0 a1 a2 a3 b b2 : Option MV} {r : List (Option MV)} {x : Int} (hd : decode cc pc = .ok (.lstore 4, 2)) (hk : isL a3 = false) 
    (k : WW l w own cc nL R cs sl A Qf Ex (pc + 2) (a0 :: a1 :: a2 :: a3 :: some (vL x) :: none :: r) st M) : WW l w own cc nL R cs sl A Qf Ex pc (a0 :: a1 :: a2 :: a3 :: b :: b2 :: r) (vL x :: st) M := by
  intro p e s m args below meth c H locs ls hF hE hS hA hP hSS hM hL hst
  have hlt : 4 + 1 < nL := Nat.lt_of_lt_of_le (by simp) hL.2.2.1
  refine lv_lstore hF.1 hF.2.1 hd hL.has hlt rfl (fun ls' h' => ?_)
  exact k p e s m args below meth c H locs ls' hF hE hS hA hP hSS hM (hL.st2 (i := 4) (v := vL x) (hst _ List.mem_cons_self) h' (fun j u hj hu => by (obtain rfl : j = 3 := by omega); cases hu; exact hk)) (fun v hv => hst v (List.mem_cons_of_mem _ hv))
theorem e_iinc4 {a0 a1 a2 a3 : Option MV} {r : List (Option MV)} {x y n : Int} (hd : decode cc pc = .ok (.iinc 4 n, 3)) (hy : x + n = y) (hr : inR (vI y)) (hk : isL a3 = false) 
    (k : WW l w own cc nL R cs sl A Qf Ex (pc + 3) (a0 :: a1 :: a2 :: a3 :: some (vI y) :: r) st M) : WW l w own cc nL R cs sl A Qf Ex pc (a0 :: a1 :: a2 :: a3 :: some (vI x) :: r) st M := by
  intro p e s m args below meth c H locs ls hF hE hS hA hP hSS hM hL hst
  have hlt : 4 < nL := Nat.lt_of_lt_of_le (by simp) hL.2.2.1
  obtain ⟨ki, hki⟩ := List.getElem?_of_mem (asc_of (w := w) (L := (a0 :: a1 :: a2 :: a3 :: some (vI x) :: r)) (i := 4) (v := vI x) rfl)
  refine lv_iinc (v := Int32.ofInt y) hF.1 hF.2.1 hd hL.has hki (by rw [← hy, Int32.ofInt_add]) hlt rfl (fun ls' h' => ?_)
  exact k p e s m args below meth c H locs ls' hF hE hS hA hP hSS hM (hL.st1 (i := 4) (v := vI y) hr h' (fun j u hj hu => by (obtain rfl : j = 3 := by omega); cases hu; exact hk)) hst
theorem e_istore5 {a0 a1 a2 a3 a4 b : Option MV} {r : List (Option MV)} {x : Int} (hd : decode cc pc = .ok (.istore 5, 2)) (hk : isL a4 = false) 
    (k : WW l w own cc nL R cs sl A Qf Ex (pc + 2) (a0 :: a1 :: a2 :: a3 :: a4 :: some (vI x) :: r) st M) : WW l w own cc nL R cs sl A Qf Ex pc (a0 :: a1 :: a2 :: a3 :: a4 :: b :: r) (vI x :: st) M := by
  intro p e s m args below meth c H locs ls hF hE hS hA hP hSS hM hL hst
  have hlt : 5 < nL := Nat.lt_of_lt_of_le (by simp) hL.2.2.1
  refine lv_istore hF.1 hF.2.1 hd hL.has hlt rfl (fun ls' h' => ?_)
  exact k p e s m args below meth c H locs ls' hF hE hS hA hP hSS hM (hL.st1 (i := 5) (v := vI x) (hst _ List.mem_cons_self) h' (fun j u hj hu => by (obtain rfl : j = 4 := by omega); cases hu; exact hk)) (fun v hv => hst v (List.mem_cons_of_mem _ hv))
theorem e_astore5 {a0 a1 a2 a3 a4 b : Option MV} {r : List (Option MV)} {x : Nat} (hd : decode cc pc = .ok (.astore 5, 2)) (hk : isL a4 = false) 
    (k : WW l w own cc nL R cs sl A Qf Ex (pc + 2) (a0 :: a1 :: a2 :: a3 :: a4 :: some (vR x) :: r) st M) : WW l w own cc nL R cs sl A Qf Ex pc (a0 :: a1 :: a2 :: a3 :: a4 :: b :: r) (vR x :: st) M := by
  intro p e s m args below meth c H locs ls hF hE hS hA hP hSS hM hL hst
  have hlt : 5 < nL := Nat.lt_of_lt_of_le (by simp) hL.2.2.1
  refine lv_astore hF.1 hF.2.1 hd hL.has hlt rfl (fun ls' h' => ?_)
  exact k p e s m args below meth c H locs ls' hF hE hS hA hP hSS hM (hL.st1 (i := 5) (v := vR x) (hst _ List.mem_cons_self) h' (fun j u hj hu => by (obtain rfl : j = 4 := by omega); cases hu; exact hk)) (fun v hv => hst v (List.mem_cons_of_mem _ hv))
theorem e_astoreN5 {a0 a1 a2 a3 a4 b : Option MV} {r : List (Option MV)}  (hd : decode cc pc = .ok (.astore 5, 2)) (hk : isL a4 = false) 
    (k : WW l w own cc nL R cs sl A Qf Ex (pc + 2) (a0 :: a1 :: a2 :: a3 :: a4 :: some (vN) :: r) st M) : WW l w own cc nL R cs sl A Qf Ex pc (a0 :: a1 :: a2 :: a3 :: a4 :: b :: r) (vN :: st) M := by
  intro p e s m args below meth c H locs ls hF hE hS hA hP hSS hM hL hst
  have hlt : 5 < nL := Nat.lt_of_lt_of_le (by simp) hL.2.2.1
  refine lv_astoreN hF.1 hF.2.1 hd hL.has hlt rfl (fun ls' h' => ?_)
  exact k p e s m args below meth c H locs ls' hF hE hS hA hP hSS hM (hL.st1 (i := 5) (v := vN) (hst _ List.mem_cons_self) h' (fun j u hj hu => by (obtain rfl : j = 4 := by omega); cases hu; exact hk)) (fun v hv => hst v (List.mem_cons_of_mem _ hv))
theorem e_lstore5 {a0 a1 a2 a3 a4 b b2 : Option MV} {r : List (Option MV)} {x : Int} (hd : decode cc pc = .ok (.lstore 5, 2)) (hk : isL a4 = false) 
    (k : WW l w own cc nL R cs sl A Qf Ex (pc + 2) (a0 :: a1 :: a2 :: a3 :: a4 :: some (vL x) :: none :: r) st M) : WW l w own cc nL R cs sl A Qf Ex pc (a0 :: a1 :: a2 :: a3 :: a4 :: b :: b2 :: r) (vL x :: st) M := by
  intro p e s m args below meth c H locs ls hF hE hS hA hP hSS hM hL hst
  have hlt : 5 + 1 < nL := Nat.lt_of_lt_of_le (by simp) hL.2.2.1
  refine lv_lstore hF.1 hF.2.1 hd hL.has hlt rfl (fun ls' h' => ?_)
  exact k p e s m args below meth c H locs ls' hF hE hS hA hP hSS hM (hL.st2 (i := 5) (v := vL x) (hst _ List.mem_cons_self) h' (fun j u hj hu => by (obtain rfl : j = 4 := by omega); cases hu; exact hk)) (fun v hv => hst v (List.mem_cons_of_mem _ hv))
theorem e_iinc5 {a0 a1 a2 a3 a4 : Option MV} {r : List (Option MV)} {x y n : Int} (hd : decode cc pc = .ok (.iinc 5 n, 3)) (hy : x + n = y) (hr : inR (vI y)) (hk : isL a4 = false) 
    (k : WW l w own cc nL R cs sl A Qf Ex (pc + 3) (a0 :: a1 :: a2 :: a3 :: a4 :: some (vI y) :: r) st M) : WW l w own cc nL R cs sl A Qf Ex pc (a0 :: a1 :: a2 :: a3 :: a4 :: some (vI x) :: r) st M := by
  intro p e s m args below meth c H locs ls hF hE hS hA hP hSS hM hL hst
  have hlt : 5 < nL := Nat.lt_of_lt_of_le (by simp) hL.2.2.1
  obtain ⟨ki, hki⟩ := List.getElem?_of_mem (asc_of (w := w) (L := (a0 :: a1 :: a2 :: a3 :: a4 :: some (vI x) :: r)) (i := 5) (v := vI x) rfl)
  refine lv_iinc (v := Int32.ofInt y) hF.1 hF.2.1 hd hL.has hki (by rw [← hy, Int32.ofInt_add]) hlt rfl (fun ls' h' => ?_)
  exact k p e s m args below meth c H locs ls' hF hE hS hA hP hSS hM (hL.st1 (i := 5) (v := vI y) hr h' (fun j u hj hu => by (obtain rfl : j = 4 := by omega); cases hu; exact hk)) hst
theorem e_istore6 {a0 a1 a2 a3 a4 a5 b : Option MV} {r : List (Option MV)} {x : Int} (hd : decode cc pc = .ok (.istore 6, 2)) (hk : isL a5 = false) 
    (k : WW l w own cc nL R cs sl A Qf Ex (pc + 2) (a0 :: a1 :: a2 :: a3 :: a4 :: a5 :: some (vI x) :: r) st M) : WW l w own cc nL R cs sl A Qf Ex pc (a0 :: a1 :: a2 :: a3 :: a4 :: a5 :: b :: r) (vI x :: st) M := by
  intro p e s m args below meth c H locs ls hF hE hS hA hP hSS hM hL hst
  have hlt : 6 < nL := Nat.lt_of_lt_of_le (by simp) hL.2.2.1
  refine lv_istore hF.1 hF.2.1 hd hL.has hlt rfl (fun ls' h' => ?_)
  exact k p e s m args below meth c H locs ls' hF hE hS hA hP hSS hM (hL.st1 (i := 6) (v := vI x) (hst _ List.mem_cons_self) h' (fun j u hj hu => by (obtain rfl : j = 5 := by omega); cases hu; exact hk)) (fun v hv => hst v (List.mem_cons_of_mem _ hv))
theorem e_astore6 {a0 a1 a2 a3 a4 a5 b : Option MV} {r : List (Option MV)} {x : Nat} (hd : decode cc pc = .ok (.astore 6, 2)) (hk : isL a5 = false) 
    (k : WW l w own cc nL R cs sl A Qf Ex (pc + 2) (a0 :: a1 :: a2 :: a3 :: a4 :: a5 :: some (vR x) :: r) st M) : WW l w own cc nL R cs sl A Qf Ex pc (a0 :: a1 :: a2 :: a3 :: a4 :: a5 :: b :: r) (vR x :: st) M := by
  intro p e s m args below meth c H locs ls hF hE hS hA hP hSS hM hL hst
  have hlt : 6 < nL := Nat.lt_of_lt_of_le (by simp) hL.2.2.1
  refine lv_astore hF.1 hF.2.1 hd hL.has hlt rfl (fun ls' h' => ?_)
  exact k p e s m args below meth c H locs ls' hF hE hS hA hP hSS hM (hL.st1 (i := 6) (v := vR x) (hst _ List.mem_cons_self) h' (fun j u hj hu => by (obtain rfl : j = 5 := by omega); cases hu; exact hk)) (fun v hv => hst v (List.mem_cons_of_mem _ hv))
theorem e_astoreN6 {a0 a1 a2 a3 a4 a5 b : Option MV} {r : List (Option MV)}  (hd : decode cc pc = .ok (.astore 6, 2)) (hk : isL a5 = false) 
    (k : WW l w own cc nL R cs sl A Qf Ex (pc + 2) (a0 :: a1 :: a2 :: a3 :: a4 :: a5 :: some (vN) :: r) st M) : WW l w own cc nL R cs sl A Qf Ex pc (a0 :: a1 :: a2 :: a3 :: a4 :: a5 :: b :: r) (vN :: st) M := by
  intro p e s m args below meth c H locs ls hF hE hS hA hP hSS hM hL hst
  have hlt : 6 < nL := Nat.lt_of_lt_of_le (by simp) hL.2.2.1
  refine lv_astoreN hF.1 hF.2.1 hd hL.has hlt rfl (fun ls' h' => ?_)
  exact k p e s m args below meth c H locs ls' hF hE hS hA hP hSS hM (hL.st1 (i := 6) (v := vN) (hst _ List.mem_cons_self) h' (fun j u hj hu => by (obtain rfl : j = 5 := by omega); cases hu; exact hk)) (fun v hv => hst v (List.mem_cons_of_mem _ hv))
theorem e_lstore6 {a0 a1 a2 a3 a4 a5 b b2 : Option MV} {r : List (Option MV)} {x : Int} (hd : decode cc pc = .ok (.lstore 6, 2)) (hk : isL a5 = false) 
    (k : WW l w own cc nL R cs sl A Qf Ex (pc + 2) (a0 :: a1 :: a2 :: a3 :: a4 :: a5 :: some (vL x) :: none :: r) st M) : WW l w own cc nL R cs sl A Qf Ex pc (a0 :: a1 :: a2 :: a3 :: a4 :: a5 :: b :: b2 :: r) (vL x :: st) M := by
  intro p e s m args below meth c H locs ls hF hE hS hA hP hSS hM hL hst
  have hlt : 6 + 1 < nL := Nat.lt_of_lt_of_le (by simp) hL.2.2.1
  refine lv_lstore hF.1 hF.2.1 hd hL.has hlt rfl (fun ls' h' => ?_)
  exact k p e s m args below meth c H locs ls' hF hE hS hA hP hSS hM (hL.st2 (i := 6) (v := vL x) (hst _ List.mem_cons_self) h' (fun j u hj hu => by (obtain rfl : j = 5 := by omega); cases hu; exact hk)) (fun v hv => hst v (List.mem_cons_of_mem _ hv))
theorem e_iinc6 {a0 a1 a2 a3 a4 a5 : Option MV} {r : List (Option MV)} {x y n : Int} (hd : decode cc pc = .ok (.iinc 6 n, 3)) (hy : x + n = y) (hr : inR (vI y)) (hk : isL a5 = false) 
    (k : WW l w own cc nL R cs sl A Qf Ex (pc + 3) (a0 :: a1 :: a2 :: a3 :: a4 :: a5 :: some (vI y) :: r) st M) : WW l w own cc nL R cs sl A Qf Ex pc (a0 :: a1 :: a2 :: a3 :: a4 :: a5 :: some (vI x) :: r) st M := by
  intro p e s m args below meth c H locs ls hF hE hS hA hP hSS hM hL hst
  have hlt : 6 < nL := Nat.lt_of_lt_of_le (by simp) hL.2.2.1
  obtain ⟨ki, hki⟩ := List.getElem?_of_mem (asc_of (w := w) (L := (a0 :: a1 :: a2 :: a3 :: a4 :: a5 :: some (vI x) :: r)) (i := 6) (v := vI x) rfl)
  refine lv_iinc (v := Int32.ofInt y) hF.1 hF.2.1 hd hL.has hki (by rw [← hy, Int32.ofInt_add]) hlt rfl (fun ls' h' => ?_)
  exact k p e s m args below meth c H locs ls' hF hE hS hA hP hSS hM (hL.st1 (i := 6) (v := vI y) hr h' (fun j u hj hu => by (obtain rfl : j = 5 := by omega); cases hu; exact hk)) hst
theorem e_istore7 {a0 a1 a2 a3 a4 a5 a6 b : Option MV} {r : List (Option MV)} {x : Int} (hd : decode cc pc = .ok (.istore 7, 2)) (hk : isL a6 = false) 
    (k : WW l w own cc nL R cs sl A Qf Ex (pc + 2) (a0 :: a1 :: a2 :: a3 :: a4 :: a5 :: a6 :: some (vI x) :: r) st M) : WW l w own cc nL R cs sl A Qf Ex pc (a0 :: a1 :: a2 :: a3 :: a4 :: a5 :: a6 :: b :: r) (vI x :: st) M := by
  intro p e s m args below meth c H locs ls hF hE hS hA hP hSS hM hL hst
  have hlt : 7 < nL := Nat.lt_of_lt_of_le (by simp) hL.2.2.1
  refine lv_istore hF.1 hF.2.1 hd hL.has hlt rfl (fun ls' h' => ?_)
  exact k p e s m args below meth c H locs ls' hF hE hS hA hP hSS hM (hL.st1 (i := 7) (v := vI x) (hst _ List.mem_cons_self) h' (fun j u hj hu => by (obtain rfl : j = 6 := by omega); cases hu; exact hk)) (fun v hv => hst v (List.mem_cons_of_mem _ hv))
theorem e_astore7 {a0 a1 a2 a3 a4 a5 a6 b : Option MV} {r : List (Option MV)} {x : Nat} (hd : decode cc pc = .ok (.astore 7, 2)) (hk : isL a6 = false) 
    (k : WW l w own cc nL R cs sl A Qf Ex (pc + 2) (a0 :: a1 :: a2 :: a3 :: a4 :: a5 :: a6 :: some (vR x) :: r) st M) : WW l w own cc nL R cs sl A Qf Ex pc (a0 :: a1 :: a2 :: a3 :: a4 :: a5 :: a6 :: b :: r) (vR x :: st) M := by
  intro p e s m args below meth c H locs ls hF hE hS hA hP hSS hM hL hst
  have hlt : 7 < nL := Nat.lt_of_lt_of_le (by simp) hL.2.2.1
  refine lv_astore hF.1 hF.2.1 hd hL.has hlt rfl (fun ls' h' => ?_)
  exact k p e s m args below meth c H locs ls' hF hE hS hA hP hSS hM (hL.st1 (i := 7) (v := vR x) (hst _ List.mem_cons_self) h' (fun j u hj hu => by (obtain rfl : j = 6 := by omega); cases hu; exact hk)) (fun v hv => hst v (List.mem_cons_of_mem _ hv))
theorem e_astoreN7 {a0 a1 a2 a3 a4 a5 a6 b : Option MV} {r : List (Option MV)}  (hd : decode cc pc = .ok (.astore 7, 2)) (hk : isL a6 = false) 
    (k : WW l w own cc nL R cs sl A Qf Ex (pc + 2) (a0 :: a1 :: a2 :: a3 :: a4 :: a5 :: a6 :: some (vN) :: r) st M) : WW l w own cc nL R cs sl A Qf Ex pc (a0 :: a1 :: a2 :: a3 :: a4 :: a5 :: a6 :: b :: r) (vN :: st) M := by
  intro p e s m args below meth c H locs ls hF hE hS hA hP hSS hM hL hst
  have hlt : 7 < nL := Nat.lt_of_lt_of_le (by simp) hL.2.2.1
  refine lv_astoreN hF.1 hF.2.1 hd hL.has hlt rfl (fun ls' h' => ?_)
  exact k p e s m args below meth c H locs ls' hF hE hS hA hP hSS hM (hL.st1 (i := 7) (v := vN) (hst _ List.mem_cons_self) h' (fun j u hj hu => by (obtain rfl : j = 6 := by omega); cases hu; exact hk)) (fun v hv => hst v (List.mem_cons_of_mem _ hv))
theorem e_lstore7 {a0 a1 a2 a3 a4 a5 a6 b b2 : Option MV} {r : List (Option MV)} {x : Int} (hd : decode cc pc = .ok (.lstore 7, 2)) (hk : isL a6 = false) 
    (k : WW l w own cc nL R cs sl A Qf Ex (pc + 2) (a0 :: a1 :: a2 :: a3 :: a4 :: a5 :: a6 :: some (vL x) :: none :: r) st M) : WW l w own cc nL R cs sl A Qf Ex pc (a0 :: a1 :: a2 :: a3 :: a4 :: a5 :: a6 :: b :: b2 :: r) (vL x :: st) M := by
  intro p e s m args below meth c H locs ls hF hE hS hA hP hSS hM hL hst
  have hlt : 7 + 1 < nL := Nat.lt_of_lt_of_le (by simp) hL.2.2.1
  refine lv_lstore hF.1 hF.2.1 hd hL.has hlt rfl (fun ls' h' => ?_)
  exact k p e s m args below meth c H locs ls' hF hE hS hA hP hSS hM (hL.st2 (i := 7) (v := vL x) (hst _ List.mem_cons_self) h' (fun j u hj hu => by (obtain rfl : j = 6 := by omega); cases hu; exact hk)) (fun v hv => hst v (List.mem_cons_of_mem _ hv))
theorem e_iinc7 {a0 a1 a2 a3 a4 a5 a6 : Option MV} {r : List (Option MV)} {x y n : Int} (hd : decode cc pc = .ok (.iinc 7 n, 3)) (hy : x + n = y) (hr : inR (vI y)) (hk : isL a6 = false) 
    (k : WW l w own cc nL R cs sl A Qf Ex (pc + 3) (a0 :: a1 :: a2 :: a3 :: a4 :: a5 :: a6 :: some (vI y) :: r) st M) : WW l w own cc nL R cs sl A Qf Ex pc (a0 :: a1 :: a2 :: a3 :: a4 :: a5 :: a6 :: some (vI x) :: r) st M := by
  intro p e s m args below meth c H locs ls hF hE hS hA hP hSS hM hL hst
  have hlt : 7 < nL := Nat.lt_of_lt_of_le (by simp) hL.2.2.1
  obtain ⟨ki, hki⟩ := List.getElem?_of_mem (asc_of (w := w) (L := (a0 :: a1 :: a2 :: a3 :: a4 :: a5 :: a6 :: some (vI x) :: r)) (i := 7) (v := vI x) rfl)
  refine lv_iinc (v := Int32.ofInt y) hF.1 hF.2.1 hd hL.has hki (by rw [← hy, Int32.ofInt_add]) hlt rfl (fun ls' h' => ?_)
  exact k p e s m args below meth c H locs ls' hF hE hS hA hP hSS hM (hL.st1 (i := 7) (v := vI y) hr h' (fun j u hj hu => by (obtain rfl : j = 6 := by omega); cases hu; exact hk)) hst
theorem e_istore8 {a0 a1 a2 a3 a4 a5 a6 a7 b : Option MV} {r : List (Option MV)} {x : Int} (hd : decode cc pc = .ok (.istore 8, 2)) (hk : isL a7 = false) 
    (k : WW l w own cc nL R cs sl A Qf Ex (pc + 2) (a0 :: a1 :: a2 :: a3 :: a4 :: a5 :: a6 :: a7 :: some (vI x) :: r) st M) : WW l w own cc nL R cs sl A Qf Ex pc (a0 :: a1 :: a2 :: a3 :: a4 :: a5 :: a6 :: a7 :: b :: r) (vI x :: st) M := by
  intro p e s m args below meth c H locs ls hF hE hS hA hP hSS hM hL hst
  have hlt : 8 < nL := Nat.lt_of_lt_of_le (by simp) hL.2.2.1
  refine lv_istore hF.1 hF.2.1 hd hL.has hlt rfl (fun ls' h' => ?_)
  exact k p e s m args below meth c H locs ls' hF hE hS hA hP hSS hM (hL.st1 (i := 8) (v := vI x) (hst _ List.mem_cons_self) h' (fun j u hj hu => by (obtain rfl : j = 7 := by omega); cases hu; exact hk)) (fun v hv => hst v (List.mem_cons_of_mem _ hv))
theorem e_astore8 {a0 a1 a2 a3 a4 a5 a6 a7 b : Option MV} {r : List (Option MV)} {x : Nat} (hd : decode cc pc = .ok (.astore 8, 2)) (hk : isL a7 = false) 
    (k : WW l w own cc nL R cs sl A Qf Ex (pc + 2) (a0 :: a1 :: a2 :: a3 :: a4 :: a5 :: a6 :: a7 :: some (vR x) :: r) st M) : WW l w own cc nL R cs sl A Qf Ex pc (a0 :: a1 :: a2 :: a3 :: a4 :: a5 :: a6 :: a7 :: b :: r) (vR x :: st) M := by
  intro p e s m args below meth c H locs ls hF hE hS hA hP hSS hM hL hst
  have hlt : 8 < nL := Nat.lt_of_lt_of_le (by simp) hL.2.2.1
  refine lv_astore hF.1 hF.2.1 hd hL.has hlt rfl (fun ls' h' => ?_)
  exact k p e s m args below meth c H locs ls' hF hE hS hA hP hSS hM (hL.st1 (i := 8) (v := vR x) (hst _ List.mem_cons_self) h' (fun j u hj hu => by (obtain rfl : j = 7 := by omega); cases hu; exact hk)) (fun v hv => hst v (List.mem_cons_of_mem _ hv))
theorem e_astoreN8 {a0 a1 a2 a3 a4 a5 a6 a7 b : Option MV} {r : List (Option MV)}  (hd : decode cc pc = .ok (.astore 8, 2)) (hk : isL a7 = false) 
    (k : WW l w own cc nL R cs sl A Qf Ex (pc + 2) (a0 :: a1 :: a2 :: a3 :: a4 :: a5 :: a6 :: a7 :: some (vN) :: r) st M) : WW l w own cc nL R cs sl A Qf Ex pc (a0 :: a1 :: a2 :: a3 :: a4 :: a5 :: a6 :: a7 :: b :: r) (vN :: st) M := by
  intro p e s m args below meth c H locs ls hF hE hS hA hP hSS hM hL hst
  have hlt : 8 < nL := Nat.lt_of_lt_of_le (by simp) hL.2.2.1
  refine lv_astoreN hF.1 hF.2.1 hd hL.has hlt rfl (fun ls' h' => ?_)
  exact k p e s m args below meth c H locs ls' hF hE hS hA hP hSS hM (hL.st1 (i := 8) (v := vN) (hst _ List.mem_cons_self) h' (fun j u hj hu => by (obtain rfl : j = 7 := by omega); cases hu; exact hk)) (fun v hv => hst v (List.mem_cons_of_mem _ hv))
theorem e_lstore8 {a0 a1 a2 a3 a4 a5 a6 a7 b b2 : Option MV} {r : List (Option MV)} {x : Int} (hd : decode cc pc = .ok (.lstore 8, 2)) (hk : isL a7 = false) 
    (k : WW l w own cc nL R cs sl A Qf Ex (pc + 2) (a0 :: a1 :: a2 :: a3 :: a4 :: a5 :: a6 :: a7 :: some (vL x) :: none :: r) st M) : WW l w own cc nL R cs sl A Qf Ex pc (a0 :: a1 :: a2 :: a3 :: a4 :: a5 :: a6 :: a7 :: b :: b2 :: r) (vL x :: st) M := by
  intro p e s m args below meth c H locs ls hF hE hS hA hP hSS hM hL hst
  have hlt : 8 + 1 < nL := Nat.lt_of_lt_of_le (by simp) hL.2.2.1
  refine lv_lstore hF.1 hF.2.1 hd hL.has hlt rfl (fun ls' h' => ?_)
  exact k p e s m args below meth c H locs ls' hF hE hS hA hP hSS hM (hL.st2 (i := 8) (v := vL x) (hst _ List.mem_cons_self) h' (fun j u hj hu => by (obtain rfl : j = 7 := by omega); cases hu; exact hk)) (fun v hv => hst v (List.mem_cons_of_mem _ hv))
theorem e_iinc8 {a0 a1 a2 a3 a4 a5 a6 a7 : Option MV} {r : List (Option MV)} {x y n : Int} (hd : decode cc pc = .ok (.iinc 8 n, 3)) (hy : x + n = y) (hr : inR (vI y)) (hk : isL a7 = false) 
    (k : WW l w own cc nL R cs sl A Qf Ex (pc + 3) (a0 :: a1 :: a2 :: a3 :: a4 :: a5 :: a6 :: a7 :: some (vI y) :: r) st M) : WW l w own cc nL R cs sl A Qf Ex pc (a0 :: a1 :: a2 :: a3 :: a4 :: a5 :: a6 :: a7 :: some (vI x) :: r) st M := by
  intro p e s m args below meth c H locs ls hF hE hS hA hP hSS hM hL hst
  have hlt : 8 < nL := Nat.lt_of_lt_of_le (by simp) hL.2.2.1
  obtain ⟨ki, hki⟩ := List.getElem?_of_mem (asc_of (w := w) (L := (a0 :: a1 :: a2 :: a3 :: a4 :: a5 :: a6 :: a7 :: some (vI x) :: r)) (i := 8) (v := vI x) rfl)
  refine lv_iinc (v := Int32.ofInt y) hF.1 hF.2.1 hd hL.has hki (by rw [← hy, Int32.ofInt_add]) hlt rfl (fun ls' h' => ?_)
  exact k p e s m args below meth c H locs ls' hF hE hS hA hP hSS hM (hL.st1 (i := 8) (v := vI y) hr h' (fun j u hj hu => by (obtain rfl : j = 7 := by omega); cases hu; exact hk)) hst
theorem e_istore9 {a0 a1 a2 a3 a4 a5 a6 a7 a8 b : Option MV} {r : List (Option MV)} {x : Int} (hd : decode cc pc = .ok (.istore 9, 2)) (hk : isL a8 = false) 
    (k : WW l w own cc nL R cs sl A Qf Ex (pc + 2) (a0 :: a1 :: a2 :: a3 :: a4 :: a5 :: a6 :: a7 :: a8 :: some (vI x) :: r) st M) : WW l w own cc nL R cs sl A Qf Ex pc (a0 :: a1 :: a2 :: a3 :: a4 :: a5 :: a6 :: a7 :: a8 :: b :: r) (vI x :: st) M := by
  intro p e s m args below meth c H locs ls hF hE hS hA hP hSS hM hL hst
  have hlt : 9 < nL := Nat.lt_of_lt_of_le (by simp) hL.2.2.1
  refine lv_istore hF.1 hF.2.1 hd hL.has hlt rfl (fun ls' h' => ?_)
  exact k p e s m args below meth c H locs ls' hF hE hS hA hP hSS hM (hL.st1 (i := 9) (v := vI x) (hst _ List.mem_cons_self) h' (fun j u hj hu => by (obtain rfl : j = 8 := by omega); cases hu; exact hk)) (fun v hv => hst v (List.mem_cons_of_mem _ hv))
theorem e_astore9 {a0 a1 a2 a3 a4 a5 a6 a7 a8 b : Option MV} {r : List (Option MV)} {x : Nat} (hd : decode cc pc = .ok (.astore 9, 2)) (hk : isL a8 = false) 
    (k : WW l w own cc nL R cs sl A Qf Ex (pc + 2) (a0 :: a1 :: a2 :: a3 :: a4 :: a5 :: a6 :: a7 :: a8 :: some (vR x) :: r) st M) : WW l w own cc nL R cs sl A Qf Ex pc (a0 :: a1 :: a2 :: a3 :: a4 :: a5 :: a6 :: a7 :: a8 :: b :: r) (vR x :: st) M := by
  intro p e s m args below meth c H locs ls hF hE hS hA hP hSS hM hL hst
  have hlt : 9 < nL := Nat.lt_of_lt_of_le (by simp) hL.2.2.1
  refine lv_astore hF.1 hF.2.1 hd hL.has hlt rfl (fun ls' h' => ?_)
  exact k p e s m args below meth c H locs ls' hF hE hS hA hP hSS hM (hL.st1 (i := 9) (v := vR x) (hst _ List.mem_cons_self) h' (fun j u hj hu => by (obtain rfl : j = 8 := by omega); cases hu; exact hk)) (fun v hv => hst v (List.mem_cons_of_mem _ hv))
theorem e_astoreN9 {a0 a1 a2 a3 a4 a5 a6 a7 a8 b : Option MV} {r : List (Option MV)}  (hd : decode cc pc = .ok (.astore 9, 2)) (hk : isL a8 = false) 
    (k : WW l w own cc nL R cs sl A Qf Ex (pc + 2) (a0 :: a1 :: a2 :: a3 :: a4 :: a5 :: a6 :: a7 :: a8 :: some (vN) :: r) st M) : WW l w own cc nL R cs sl A Qf Ex pc (a0 :: a1 :: a2 :: a3 :: a4 :: a5 :: a6 :: a7 :: a8 :: b :: r) (vN :: st) M := by
  intro p e s m args below meth c H locs ls hF hE hS hA hP hSS hM hL hst
  have hlt : 9 < nL := Nat.lt_of_lt_of_le (by simp) hL.2.2.1
  refine lv_astoreN hF.1 hF.2.1 hd hL.has hlt rfl (fun ls' h' => ?_)
  exact k p e s m args below meth c H locs ls' hF hE hS hA hP hSS hM (hL.st1 (i := 9) (v := vN) (hst _ List.mem_cons_self) h' (fun j u hj hu => by (obtain rfl : j = 8 := by omega); cases hu; exact hk)) (fun v hv => hst v (List.mem_cons_of_mem _ hv))
theorem e_lstore9 {a0 a1 a2 a3 a4 a5 a6 a7 a8 b b2 : Option MV} {r : List (Option MV)} {x : Int} (hd : decode cc pc = .ok (.lstore 9, 2)) (hk : isL a8 = false) 
    (k : WW l w own cc nL R cs sl A Qf Ex (pc + 2) (a0 :: a1 :: a2 :: a3 :: a4 :: a5 :: a6 :: a7 :: a8 :: some (vL x) :: none :: r) st M) : WW l w own cc nL R cs sl A Qf Ex pc (a0 :: a1 :: a2 :: a3 :: a4 :: a5 :: a6 :: a7 :: a8 :: b :: b2 :: r) (vL x :: st) M := by
  intro p e s m args below meth c H locs ls hF hE hS hA hP hSS hM hL hst
  have hlt : 9 + 1 < nL := Nat.lt_of_lt_of_le (by simp) hL.2.2.1
  refine lv_lstore hF.1 hF.2.1 hd hL.has hlt rfl (fun ls' h' => ?_)
  exact k p e s m args below meth c H locs ls' hF hE hS hA hP hSS hM (hL.st2 (i := 9) (v := vL x) (hst _ List.mem_cons_self) h' (fun j u hj hu => by (obtain rfl : j = 8 := by omega); cases hu; exact hk)) (fun v hv => hst v (List.mem_cons_of_mem _ hv))
theorem e_iinc9 {a0 a1 a2 a3 a4 a5 a6 a7 a8 : Option MV} {r : List (Option MV)} {x y n : Int} (hd : decode cc pc = .ok (.iinc 9 n, 3)) (hy : x + n = y) (hr : inR (vI y)) (hk : isL a8 = false) 
    (k : WW l w own cc nL R cs sl A Qf Ex (pc + 3) (a0 :: a1 :: a2 :: a3 :: a4 :: a5 :: a6 :: a7 :: a8 :: some (vI y) :: r) st M) : WW l w own cc nL R cs sl A Qf Ex pc (a0 :: a1 :: a2 :: a3 :: a4 :: a5 :: a6 :: a7 :: a8 :: some (vI x) :: r) st M := by
  intro p e s m args below meth c H locs ls hF hE hS hA hP hSS hM hL hst
  have hlt : 9 < nL := Nat.lt_of_lt_of_le (by simp) hL.2.2.1
  obtain ⟨ki, hki⟩ := List.getElem?_of_mem (asc_of (w := w) (L := (a0 :: a1 :: a2 :: a3 :: a4 :: a5 :: a6 :: a7 :: a8 :: some (vI x) :: r)) (i := 9) (v := vI x) rfl)
  refine lv_iinc (v := Int32.ofInt y) hF.1 hF.2.1 hd hL.has hki (by rw [← hy, Int32.ofInt_add]) hlt rfl (fun ls' h' => ?_)
  exact k p e s m args below meth c H locs ls' hF hE hS hA hP hSS hM (hL.st1 (i := 9) (v := vI y) hr h' (fun j u hj hu => by (obtain rfl : j = 8 := by omega); cases hu; exact hk)) hst
theorem e_istore10 {a0 a1 a2 a3 a4 a5 a6 a7 a8 a9 b : Option MV} {r : List (Option MV)} {x : Int} (hd : decode cc pc = .ok (.istore 10, 2)) (hk : isL a9 = false) 
    (k : WW l w own cc nL R cs sl A Qf Ex (pc + 2) (a0 :: a1 :: a2 :: a3 :: a4 :: a5 :: a6 :: a7 :: a8 :: a9 :: some (vI x) :: r) st M) : WW l w own cc nL R cs sl A Qf Ex pc (a0 :: a1 :: a2 :: a3 :: a4 :: a5 :: a6 :: a7 :: a8 :: a9 :: b :: r) (vI x :: st) M := by
  intro p e s m args below meth c H locs ls hF hE hS hA hP hSS hM hL hst
  have hlt : 10 < nL := Nat.lt_of_lt_of_le (by simp) hL.2.2.1
  refine lv_istore hF.1 hF.2.1 hd hL.has hlt rfl (fun ls' h' => ?_)
  exact k p e s m args below meth c H locs ls' hF hE hS hA hP hSS hM (hL.st1 (i := 10) (v := vI x) (hst _ List.mem_cons_self) h' (fun j u hj hu => by (obtain rfl : j = 9 := by omega); cases hu; exact hk)) (fun v hv => hst v (List.mem_cons_of_mem _ hv))
theorem e_astore10 {a0 a1 a2 a3 a4 a5 a6 a7 a8 a9 b : Option MV} {r : List (Option MV)} {x : Nat} (hd : decode cc pc = .ok (.astore 10, 2)) (hk : isL a9 = false) 
    (k : WW l w own cc nL R cs sl A Qf Ex (pc + 2) (a0 :: a1 :: a2 :: a3 :: a4 :: a5 :: a6 :: a7 :: a8 :: a9 :: some (vR x) :: r) st M) : WW l w own cc nL R cs sl A Qf Ex pc (a0 :: a1 :: a2 :: a3 :: a4 :: a5 :: a6 :: a7 :: a8 :: a9 :: b :: r) (vR x :: st) M := by
  intro p e s m args below meth c H locs ls hF hE hS hA hP hSS hM hL hst
  have hlt : 10 < nL := Nat.lt_of_lt_of_le (by simp) hL.2.2.1
  refine lv_astore hF.1 hF.2.1 hd hL.has hlt rfl (fun ls' h' => ?_)
  exact k p e s m args below meth c H locs ls' hF hE hS hA hP hSS hM (hL.st1 (i := 10) (v := vR x) (hst _ List.mem_cons_self) h' (fun j u hj hu => by (obtain rfl : j = 9 := by omega); cases hu; exact hk)) (fun v hv => hst v (List.mem_cons_of_mem _ hv))
theorem e_astoreN10 {a0 a1 a2 a3 a4 a5 a6 a7 a8 a9 b : Option MV} {r : List (Option MV)}  (hd : decode cc pc = .ok (.astore 10, 2)) (hk : isL a9 = false) 
    (k : WW l w own cc nL R cs sl A Qf Ex (pc + 2) (a0 :: a1 :: a2 :: a3 :: a4 :: a5 :: a6 :: a7 :: a8 :: a9 :: some (vN) :: r) st M) : WW l w own cc nL R cs sl A Qf Ex pc (a0 :: a1 :: a2 :: a3 :: a4 :: a5 :: a6 :: a7 :: a8 :: a9 :: b :: r) (vN :: st) M := by
  intro p e s m args below meth c H locs ls hF hE hS hA hP hSS hM hL hst
  have hlt : 10 < nL := Nat.lt_of_lt_of_le (by simp) hL.2.2.1
  refine lv_astoreN hF.1 hF.2.1 hd hL.has hlt rfl (fun ls' h' => ?_)
  exact k p e s m args below meth c H locs ls' hF hE hS hA hP hSS hM (hL.st1 (i := 10) (v := vN) (hst _ List.mem_cons_self) h' (fun j u hj hu => by (obtain rfl : j = 9 := by omega); cases hu; exact hk)) (fun v hv => hst v (List.mem_cons_of_mem _ hv))
theorem e_lstore10 {a0 a1 a2 a3 a4 a5 a6 a7 a8 a9 b b2 : Option MV} {r : List (Option MV)} {x : Int} (hd : decode cc pc = .ok (.lstore 10, 2)) (hk : isL a9 = false) 
    (k : WW l w own cc nL R cs sl A Qf Ex (pc + 2) (a0 :: a1 :: a2 :: a3 :: a4 :: a5 :: a6 :: a7 :: a8 :: a9 :: some (vL x) :: none :: r) st M) : WW l w own cc nL R cs sl A Qf Ex pc (a0 :: a1 :: a2 :: a3 :: a4 :: a5 :: a6 :: a7 :: a8 :: a9 :: b :: b2 :: r) (vL x :: st) M := by
  intro p e s m args below meth c H locs ls hF hE hS hA hP hSS hM hL hst
  have hlt : 10 + 1 < nL := Nat.lt_of_lt_of_le (by simp) hL.2.2.1
  refine lv_lstore hF.1 hF.2.1 hd hL.has hlt rfl (fun ls' h' => ?_)
  exact k p e s m args below meth c H locs ls' hF hE hS hA hP hSS hM (hL.st2 (i := 10) (v := vL x) (hst _ List.mem_cons_self) h' (fun j u hj hu => by (obtain rfl : j = 9 := by omega); cases hu; exact hk)) (fun v hv => hst v (List.mem_cons_of_mem _ hv))
theorem e_iinc10 {a0 a1 a2 a3 a4 a5 a6 a7 a8 a9 : Option MV} {r : List (Option MV)} {x y n : Int} (hd : decode cc pc = .ok (.iinc 10 n, 3)) (hy : x + n = y) (hr : inR (vI y)) (hk : isL a9 = false) 
    (k : WW l w own cc nL R cs sl A Qf Ex (pc + 3) (a0 :: a1 :: a2 :: a3 :: a4 :: a5 :: a6 :: a7 :: a8 :: a9 :: some (vI y) :: r) st M) : WW l w own cc nL R cs sl A Qf Ex pc (a0 :: a1 :: a2 :: a3 :: a4 :: a5 :: a6 :: a7 :: a8 :: a9 :: some (vI x) :: r) st M := by
  intro p e s m args below meth c H locs ls hF hE hS hA hP hSS hM hL hst
  have hlt : 10 < nL := Nat.lt_of_lt_of_le (by simp) hL.2.2.1
  obtain ⟨ki, hki⟩ := List.getElem?_of_mem (asc_of (w := w) (L := (a0 :: a1 :: a2 :: a3 :: a4 :: a5 :: a6 :: a7 :: a8 :: a9 :: some (vI x) :: r)) (i := 10) (v := vI x) rfl)
  refine lv_iinc (v := Int32.ofInt y) hF.1 hF.2.1 hd hL.has hki (by rw [← hy, Int32.ofInt_add]) hlt rfl (fun ls' h' => ?_)
  exact k p e s m args below meth c H locs ls' hF hE hS hA hP hSS hM (hL.st1 (i := 10) (v := vI y) hr h' (fun j u hj hu => by (obtain rfl : j = 9 := by omega); cases hu; exact hk)) hst
theorem e_istore11 {a0 a1 a2 a3 a4 a5 a6 a7 a8 a9 a10 b : Option MV} {r : List (Option MV)} {x : Int} (hd : decode cc pc = .ok (.istore 11, 2)) (hk : isL a10 = false) 
    (k : WW l w own cc nL R cs sl A Qf Ex (pc + 2) (a0 :: a1 :: a2 :: a3 :: a4 :: a5 :: a6 :: a7 :: a8 :: a9 :: a10 :: some (vI x) :: r) st M) : WW l w own cc nL R cs sl A Qf Ex pc (a0 :: a1 :: a2 :: a3 :: a4 :: a5 :: a6 :: a7 :: a8 :: a9 :: a10 :: b :: r) (vI x :: st) M := by
  intro p e s m args below meth c H locs ls hF hE hS hA hP hSS hM hL hst
  have hlt : 11 < nL := Nat.lt_of_lt_of_le (by simp) hL.2.2.1
  refine lv_istore hF.1 hF.2.1 hd hL.has hlt rfl (fun ls' h' => ?_)
  exact k p e s m args below meth c H locs ls' hF hE hS hA hP hSS hM (hL.st1 (i := 11) (v := vI x) (hst _ List.mem_cons_self) h' (fun j u hj hu => by (obtain rfl : j = 10 := by omega); cases hu; exact hk)) (fun v hv => hst v (List.mem_cons_of_mem _ hv))
theorem e_astore11 {a0 a1 a2 a3 a4 a5 a6 a7 a8 a9 a10 b : Option MV} {r : List (Option MV)} {x : Nat} (hd : decode cc pc = .ok (.astore 11, 2)) (hk : isL a10 = false) 
    (k : WW l w own cc nL R cs sl A Qf Ex (pc + 2) (a0 :: a1 :: a2 :: a3 :: a4 :: a5 :: a6 :: a7 :: a8 :: a9 :: a10 :: some (vR x) :: r) st M) : WW l w own cc nL R cs sl A Qf Ex pc (a0 :: a1 :: a2 :: a3 :: a4 :: a5 :: a6 :: a7 :: a8 :: a9 :: a10 :: b :: r) (vR x :: st) M := by
  intro p e s m args below meth c H locs ls hF hE hS hA hP hSS hM hL hst
  have hlt : 11 < nL := Nat.lt_of_lt_of_le (by simp) hL.2.2.1
  refine lv_astore hF.1 hF.2.1 hd hL.has hlt rfl (fun ls' h' => ?_)
  exact k p e s m args below meth c H locs ls' hF hE hS hA hP hSS hM (hL.st1 (i := 11) (v := vR x) (hst _ List.mem_cons_self) h' (fun j u hj hu => by (obtain rfl : j = 10 := by omega); cases hu; exact hk)) (fun v hv => hst v (List.mem_cons_of_mem _ hv))
theorem e_astoreN11 {a0 a1 a2 a3 a4 a5 a6 a7 a8 a9 a10 b : Option MV} {r : List (Option MV)}  (hd : decode cc pc = .ok (.astore 11, 2)) (hk : isL a10 = false) 
    (k : WW l w own cc nL R cs sl A Qf Ex (pc + 2) (a0 :: a1 :: a2 :: a3 :: a4 :: a5 :: a6 :: a7 :: a8 :: a9 :: a10 :: some (vN) :: r) st M) : WW l w own cc nL R cs sl A Qf Ex pc (a0 :: a1 :: a2 :: a3 :: a4 :: a5 :: a6 :: a7 :: a8 :: a9 :: a10 :: b :: r) (vN :: st) M := by
  intro p e s m args below meth c H locs ls hF hE hS hA hP hSS hM hL hst
  have hlt : 11 < nL := Nat.lt_of_lt_of_le (by simp) hL.2.2.1
  refine lv_astoreN hF.1 hF.2.1 hd hL.has hlt rfl (fun ls' h' => ?_)
  exact k p e s m args below meth c H locs ls' hF hE hS hA hP hSS hM (hL.st1 (i := 11) (v := vN) (hst _ List.mem_cons_self) h' (fun j u hj hu => by (obtain rfl : j = 10 := by omega); cases hu; exact hk)) (fun v hv => hst v (List.mem_cons_of_mem _ hv))
theorem e_lstore11 {a0 a1 a2 a3 a4 a5 a6 a7 a8 a9 a10 b b2 : Option MV} {r : List (Option MV)} {x : Int} (hd : decode cc pc = .ok (.lstore 11, 2)) (hk : isL a10 = false) 
    (k : WW l w own cc nL R cs sl A Qf Ex (pc + 2) (a0 :: a1 :: a2 :: a3 :: a4 :: a5 :: a6 :: a7 :: a8 :: a9 :: a10 :: some (vL x) :: none :: r) st M) : WW l w own cc nL R cs sl A Qf Ex pc (a0 :: a1 :: a2 :: a3 :: a4 :: a5 :: a6 :: a7 :: a8 :: a9 :: a10 :: b :: b2 :: r) (vL x :: st) M := by
  intro p e s m args below meth c H locs ls hF hE hS hA hP hSS hM hL hst
  have hlt : 11 + 1 < nL := Nat.lt_of_lt_of_le (by simp) hL.2.2.1
  refine lv_lstore hF.1 hF.2.1 hd hL.has hlt rfl (fun ls' h' => ?_)
  exact k p e s m args below meth c H locs ls' hF hE hS hA hP hSS hM (hL.st2 (i := 11) (v := vL x) (hst _ List.mem_cons_self) h' (fun j u hj hu => by (obtain rfl : j = 10 := by omega); cases hu; exact hk)) (fun v hv => hst v (List.mem_cons_of_mem _ hv))
theorem e_iinc11 {a0 a1 a2 a3 a4 a5 a6 a7 a8 a9 a10 : Option MV} {r : List (Option MV)} {x y n : Int} (hd : decode cc pc = .ok (.iinc 11 n, 3)) (hy : x + n = y) (hr : inR (vI y)) (hk : isL a10 = false) 
    (k : WW l w own cc nL R cs sl A Qf Ex (pc + 3) (a0 :: a1 :: a2 :: a3 :: a4 :: a5 :: a6 :: a7 :: a8 :: a9 :: a10 :: some (vI y) :: r) st M) : WW l w own cc nL R cs sl A Qf Ex pc (a0 :: a1 :: a2 :: a3 :: a4 :: a5 :: a6 :: a7 :: a8 :: a9 :: a10 :: some (vI x) :: r) st M := by
  intro p e s m args below meth c H locs ls hF hE hS hA hP hSS hM hL hst
  have hlt : 11 < nL := Nat.lt_of_lt_of_le (by simp) hL.2.2.1
  obtain ⟨ki, hki⟩ := List.getElem?_of_mem (asc_of (w := w) (L := (a0 :: a1 :: a2 :: a3 :: a4 :: a5 :: a6 :: a7 :: a8 :: a9 :: a10 :: some (vI x) :: r)) (i := 11) (v := vI x) rfl)
  refine lv_iinc (v := Int32.ofInt y) hF.1 hF.2.1 hd hL.has hki (by rw [← hy, Int32.ofInt_add]) hlt rfl (fun ls' h' => ?_)
  exact k p e s m args below meth c H locs ls' hF hE hS hA hP hSS hM (hL.st1 (i := 11) (v := vI y) hr h' (fun j u hj hu => by (obtain rfl : j = 10 := by omega); cases hu; exact hk)) hst
theorem e_istore12 {a0 a1 a2 a3 a4 a5 a6 a7 a8 a9 a10 a11 b : Option MV} {r : List (Option MV)} {x : Int} (hd : decode cc pc = .ok (.istore 12, 2)) (hk : isL a11 = false) 
    (k : WW l w own cc nL R cs sl A Qf Ex (pc + 2) (a0 :: a1 :: a2 :: a3 :: a4 :: a5 :: a6 :: a7 :: a8 :: a9 :: a10 :: a11 :: some (vI x) :: r) st M) : WW l w own cc nL R cs sl A Qf Ex pc (a0 :: a1 :: a2 :: a3 :: a4 :: a5 :: a6 :: a7 :: a8 :: a9 :: a10 :: a11 :: b :: r) (vI x :: st) M := by
  intro p e s m args below meth c H locs ls hF hE hS hA hP hSS hM hL hst
  have hlt : 12 < nL := Nat.lt_of_lt_of_le (by simp) hL.2.2.1
  refine lv_istore hF.1 hF.2.1 hd hL.has hlt rfl (fun ls' h' => ?_)
  exact k p e s m args below meth c H locs ls' hF hE hS hA hP hSS hM (hL.st1 (i := 12) (v := vI x) (hst _ List.mem_cons_self) h' (fun j u hj hu => by (obtain rfl : j = 11 := by omega); cases hu; exact hk)) (fun v hv => hst v (List.mem_cons_of_mem _ hv))
theorem e_astore12 {a0 a1 a2 a3 a4 a5 a6 a7 a8 a9 a10 a11 b : Option MV} {r : List (Option MV)} {x : Nat} (hd : decode cc pc = .ok (.astore 12, 2)) (hk : isL a11 = false) 
    (k : WW l w own cc nL R cs sl A Qf Ex (pc + 2) (a0 :: a1 :: a2 :: a3 :: a4 :: a5 :: a6 :: a7 :: a8 :: a9 :: a10 :: a11 :: some (vR x) :: r) st M) : WW l w own cc nL R cs sl A Qf Ex pc (a0 :: a1 :: a2 :: a3 :: a4 :: a5 :: a6 :: a7 :: a8 :: a9 :: a10 :: a11 :: b :: r) (vR x :: st) M := by
  intro p e s m args below meth c H locs ls hF hE hS hA hP hSS hM hL hst
  have hlt : 12 < nL := Nat.lt_of_lt_of_le (by simp) hL.2.2.1
  refine lv_astore hF.1 hF.2.1 hd hL.has hlt rfl (fun ls' h' => ?_)
  exact k p e s m args below meth c H locs ls' hF hE hS hA hP hSS hM (hL.st1 (i := 12) (v := vR x) (hst _ List.mem_cons_self) h' (fun j u hj hu => by (obtain rfl : j = 11 := by omega); cases hu; exact hk)) (fun v hv => hst v (List.mem_cons_of_mem _ hv))
theorem e_astoreN12 {a0 a1 a2 a3 a4 a5 a6 a7 a8 a9 a10 a11 b : Option MV} {r : List (Option MV)}  (hd : decode cc pc = .ok (.astore 12, 2)) (hk : isL a11 = false) 
    (k : WW l w own cc nL R cs sl A Qf Ex (pc + 2) (a0 :: a1 :: a2 :: a3 :: a4 :: a5 :: a6 :: a7 :: a8 :: a9 :: a10 :: a11 :: some (vN) :: r) st M) : WW l w own cc nL R cs sl A Qf Ex pc (a0 :: a1 :: a2 :: a3 :: a4 :: a5 :: a6 :: a7 :: a8 :: a9 :: a10 :: a11 :: b :: r) (vN :: st) M := by
  intro p e s m args below meth c H locs ls hF hE hS hA hP hSS hM hL hst
  have hlt : 12 < nL := Nat.lt_of_lt_of_le (by simp) hL.2.2.1
  refine lv_astoreN hF.1 hF.2.1 hd hL.has hlt rfl (fun ls' h' => ?_)
  exact k p e s m args below meth c H locs ls' hF hE hS hA hP hSS hM (hL.st1 (i := 12) (v := vN) (hst _ List.mem_cons_self) h' (fun j u hj hu => by (obtain rfl : j = 11 := by omega); cases hu; exact hk)) (fun v hv => hst v (List.mem_cons_of_mem _ hv))
theorem e_lstore12 {a0 a1 a2 a3 a4 a5 a6 a7 a8 a9 a10 a11 b b2 : Option MV} {r : List (Option MV)} {x : Int} (hd : decode cc pc = .ok (.lstore 12, 2)) (hk : isL a11 = false) 
    (k : WW l w own cc nL R cs sl A Qf Ex (pc + 2) (a0 :: a1 :: a2 :: a3 :: a4 :: a5 :: a6 :: a7 :: a8 :: a9 :: a10 :: a11 :: some (vL x) :: none :: r) st M) : WW l w own cc nL R cs sl A Qf Ex pc (a0 :: a1 :: a2 :: a3 :: a4 :: a5 :: a6 :: a7 :: a8 :: a9 :: a10 :: a11 :: b :: b2 :: r) (vL x :: st) M := by
  intro p e s m args below meth c H locs ls hF hE hS hA hP hSS hM hL hst
  have hlt : 12 + 1 < nL := Nat.lt_of_lt_of_le (by simp) hL.2.2.1
  refine lv_lstore hF.1 hF.2.1 hd hL.has hlt rfl (fun ls' h' => ?_)
  exact k p e s m args below meth c H locs ls' hF hE hS hA hP hSS hM (hL.st2 (i := 12) (v := vL x) (hst _ List.mem_cons_self) h' (fun j u hj hu => by (obtain rfl : j = 11 := by omega); cases hu; exact hk)) (fun v hv => hst v (List.mem_cons_of_mem _ hv))
theorem e_iinc12 {a0 a1 a2 a3 a4 a5 a6 a7 a8 a9 a10 a11 : Option MV} {r : List (Option MV)} {x y n : Int} (hd : decode cc pc = .ok (.iinc 12 n, 3)) (hy : x + n = y) (hr : inR (vI y)) (hk : isL a11 = false) 
    (k : WW l w own cc nL R cs sl A Qf Ex (pc + 3) (a0 :: a1 :: a2 :: a3 :: a4 :: a5 :: a6 :: a7 :: a8 :: a9 :: a10 :: a11 :: some (vI y) :: r) st M) : WW l w own cc nL R cs sl A Qf Ex pc (a0 :: a1 :: a2 :: a3 :: a4 :: a5 :: a6 :: a7 :: a8 :: a9 :: a10 :: a11 :: some (vI x) :: r) st M := by
  intro p e s m args below meth c H locs ls hF hE hS hA hP hSS hM hL hst
  have hlt : 12 < nL := Nat.lt_of_lt_of_le (by simp) hL.2.2.1
  obtain ⟨ki, hki⟩ := List.getElem?_of_mem (asc_of (w := w) (L := (a0 :: a1 :: a2 :: a3 :: a4 :: a5 :: a6 :: a7 :: a8 :: a9 :: a10 :: a11 :: some (vI x) :: r)) (i := 12) (v := vI x) rfl)
  refine lv_iinc (v := Int32.ofInt y) hF.1 hF.2.1 hd hL.has hki (by rw [← hy, Int32.ofInt_add]) hlt rfl (fun ls' h' => ?_)
  exact k p e s m args below meth c H locs ls' hF hE hS hA hP hSS hM (hL.st1 (i := 12) (v := vI y) hr h' (fun j u hj hu => by (obtain rfl : j = 11 := by omega); cases hu; exact hk)) hst
theorem e_istore13 {a0 a1 a2 a3 a4 a5 a6 a7 a8 a9 a10 a11 a12 b : Option MV} {r : List (Option MV)} {x : Int} (hd : decode cc pc = .ok (.istore 13, 2)) (hk : isL a12 = false) 
    (k : WW l w own cc nL R cs sl A Qf Ex (pc + 2) (a0 :: a1 :: a2 :: a3 :: a4 :: a5 :: a6 :: a7 :: a8 :: a9 :: a10 :: a11 :: a12 :: some (vI x) :: r) st M) : WW l w own cc nL R cs sl A Qf Ex pc (a0 :: a1 :: a2 :: a3 :: a4 :: a5 :: a6 :: a7 :: a8 :: a9 :: a10 :: a11 :: a12 :: b :: r) (vI x :: st) M := by
  intro p e s m args below meth c H locs ls hF hE hS hA hP hSS hM hL hst
  have hlt : 13 < nL := Nat.lt_of_lt_of_le (by simp) hL.2.2.1
  refine lv_istore hF.1 hF.2.1 hd hL.has hlt rfl (fun ls' h' => ?_)
  exact k p e s m args below meth c H locs ls' hF hE hS hA hP hSS hM (hL.st1 (i := 13) (v := vI x) (hst _ List.mem_cons_self) h' (fun j u hj hu => by (obtain rfl : j = 12 := by omega); cases hu; exact hk)) (fun v hv => hst v (List.mem_cons_of_mem _ hv))
theorem e_astore13 {a0 a1 a2 a3 a4 a5 a6 a7 a8 a9 a10 a11 a12 b : Option MV} {r : List (Option MV)} {x : Nat} (hd : decode cc pc = .ok (.astore 13, 2)) (hk : isL a12 = false) 
    (k : WW l w own cc nL R cs sl A Qf Ex (pc + 2) (a0 :: a1 :: a2 :: a3 :: a4 :: a5 :: a6 :: a7 :: a8 :: a9 :: a10 :: a11 :: a12 :: some (vR x) :: r) st M) : WW l w own cc nL R cs sl A Qf Ex pc (a0 :: a1 :: a2 :: a3 :: a4 :: a5 :: a6 :: a7 :: a8 :: a9 :: a10 :: a11 :: a12 :: b :: r) (vR x :: st) M := by
  intro p e s m args below meth c H locs ls hF hE hS hA hP hSS hM hL hst
  have hlt : 13 < nL := Nat.lt_of_lt_of_le (by simp) hL.2.2.1
  refine lv_astore hF.1 hF.2.1 hd hL.has hlt rfl (fun ls' h' => ?_)
  exact k p e s m args below meth c H locs ls' hF hE hS hA hP hSS hM (hL.st1 (i := 13) (v := vR x) (hst _ List.mem_cons_self) h' (fun j u hj hu => by (obtain rfl : j = 12 := by omega); cases hu; exact hk)) (fun v hv => hst v (List.mem_cons_of_mem _ hv))
theorem e_astoreN13 {a0 a1 a2 a3 a4 a5 a6 a7 a8 a9 a10 a11 a12 b : Option MV} {r : List (Option MV)}  (hd : decode cc pc = .ok (.astore 13, 2)) (hk : isL a12 = false) 
    (k : WW l w own cc nL R cs sl A Qf Ex (pc + 2) (a0 :: a1 :: a2 :: a3 :: a4 :: a5 :: a6 :: a7 :: a8 :: a9 :: a10 :: a11 :: a12 :: some (vN) :: r) st M) : WW l w own cc nL R cs sl A Qf Ex pc (a0 :: a1 :: a2 :: a3 :: a4 :: a5 :: a6 :: a7 :: a8 :: a9 :: a10 :: a11 :: a12 :: b :: r) (vN :: st) M := by
  intro p e s m args below meth c H locs ls hF hE hS hA hP hSS hM hL hst
  have hlt : 13 < nL := Nat.lt_of_lt_of_le (by simp) hL.2.2.1
  refine lv_astoreN hF.1 hF.2.1 hd hL.has hlt rfl (fun ls' h' => ?_)
  exact k p e s m args below meth c H locs ls' hF hE hS hA hP hSS hM (hL.st1 (i := 13) (v := vN) (hst _ List.mem_cons_self) h' (fun j u hj hu => by (obtain rfl : j = 12 := by omega); cases hu; exact hk)) (fun v hv => hst v (List.mem_cons_of_mem _ hv))
theorem e_lstore13 {a0 a1 a2 a3 a4 a5 a6 a7 a8 a9 a10 a11 a12 b b2 : Option MV} {r : List (Option MV)} {x : Int} (hd : decode cc pc = .ok (.lstore 13, 2)) (hk : isL a12 = false) 
    (k : WW l w own cc nL R cs sl A Qf Ex (pc + 2) (a0 :: a1 :: a2 :: a3 :: a4 :: a5 :: a6 :: a7 :: a8 :: a9 :: a10 :: a11 :: a12 :: some (vL x) :: none :: r) st M) : WW l w own cc nL R cs sl A Qf Ex pc (a0 :: a1 :: a2 :: a3 :: a4 :: a5 :: a6 :: a7 :: a8 :: a9 :: a10 :: a11 :: a12 :: b :: b2 :: r) (vL x :: st) M := by
  intro p e s m args below meth c H locs ls hF hE hS hA hP hSS hM hL hst
  have hlt : 13 + 1 < nL := Nat.lt_of_lt_of_le (by simp) hL.2.2.1
  refine lv_lstore hF.1 hF.2.1 hd hL.has hlt rfl (fun ls' h' => ?_)
  exact k p e s m args below meth c H locs ls' hF hE hS hA hP hSS hM (hL.st2 (i := 13) (v := vL x) (hst _ List.mem_cons_self) h' (fun j u hj hu => by (obtain rfl : j = 12 := by omega); cases hu; exact hk)) (fun v hv => hst v (List.mem_cons_of_mem _ hv))
theorem e_iinc13 {a0 a1 a2 a3 a4 a5 a6 a7 a8 a9 a10 a11 a12 : Option MV} {r : List (Option MV)} {x y n : Int} (hd : decode cc pc = .ok (.iinc 13 n, 3)) (hy : x + n = y) (hr : inR (vI y)) (hk : isL a12 = false) 
    (k : WW l w own cc nL R cs sl A Qf Ex (pc + 3) (a0 :: a1 :: a2 :: a3 :: a4 :: a5 :: a6 :: a7 :: a8 :: a9 :: a10 :: a11 :: a12 :: some (vI y) :: r) st M) : WW l w own cc nL R cs sl A Qf Ex pc (a0 :: a1 :: a2 :: a3 :: a4 :: a5 :: a6 :: a7 :: a8 :: a9 :: a10 :: a11 :: a12 :: some (vI x) :: r) st M := by
  intro p e s m args below meth c H locs ls hF hE hS hA hP hSS hM hL hst
  have hlt : 13 < nL := Nat.lt_of_lt_of_le (by simp) hL.2.2.1
  obtain ⟨ki, hki⟩ := List.getElem?_of_mem (asc_of (w := w) (L := (a0 :: a1 :: a2 :: a3 :: a4 :: a5 :: a6 :: a7 :: a8 :: a9 :: a10 :: a11 :: a12 :: some (vI x) :: r)) (i := 13) (v := vI x) rfl)
  refine lv_iinc (v := Int32.ofInt y) hF.1 hF.2.1 hd hL.has hki (by rw [← hy, Int32.ofInt_add]) hlt rfl (fun ls' h' => ?_)
  exact k p e s m args below meth c H locs ls' hF hE hS hA hP hSS hM (hL.st1 (i := 13) (v := vI y) hr h' (fun j u hj hu => by (obtain rfl : j = 12 := by omega); cases hu; exact hk)) hst
theorem e_istore14 {a0 a1 a2 a3 a4 a5 a6 a7 a8 a9 a10 a11 a12 a13 b : Option MV} {r : List (Option MV)} {x : Int} (hd : decode cc pc = .ok (.istore 14, 2)) (hk : isL a13 = false) 
    (k : WW l w own cc nL R cs sl A Qf Ex (pc + 2) (a0 :: a1 :: a2 :: a3 :: a4 :: a5 :: a6 :: a7 :: a8 :: a9 :: a10 :: a11 :: a12 :: a13 :: some (vI x) :: r) st M) : WW l w own cc nL R cs sl A Qf Ex pc (a0 :: a1 :: a2 :: a3 :: a4 :: a5 :: a6 :: a7 :: a8 :: a9 :: a10 :: a11 :: a12 :: a13 :: b :: r) (vI x :: st) M := by
  intro p e s m args below meth c H locs ls hF hE hS hA hP hSS hM hL hst
  have hlt : 14 < nL := Nat.lt_of_lt_of_le (by simp) hL.2.2.1
  refine lv_istore hF.1 hF.2.1 hd hL.has hlt rfl (fun ls' h' => ?_)
  exact k p e s m args below meth c H locs ls' hF hE hS hA hP hSS hM (hL.st1 (i := 14) (v := vI x) (hst _ List.mem_cons_self) h' (fun j u hj hu => by (obtain rfl : j = 13 := by omega); cases hu; exact hk)) (fun v hv => hst v (List.mem_cons_of_mem _ hv))
theorem e_astore14 {a0 a1 a2 a3 a4 a5 a6 a7 a8 a9 a10 a11 a12 a13 b : Option MV} {r : List (Option MV)} {x : Nat} (hd : decode cc pc = .ok (.astore 14, 2)) (hk : isL a13 = false) 
    (k : WW l w own cc nL R cs sl A Qf Ex (pc + 2) (a0 :: a1 :: a2 :: a3 :: a4 :: a5 :: a6 :: a7 :: a8 :: a9 :: a10 :: a11 :: a12 :: a13 :: some (vR x) :: r) st M) : WW l w own cc nL R cs sl A Qf Ex pc (a0 :: a1 :: a2 :: a3 :: a4 :: a5 :: a6 :: a7 :: a8 :: a9 :: a10 :: a11 :: a12 :: a13 :: b :: r) (vR x :: st) M := by
  intro p e s m args below meth c H locs ls hF hE hS hA hP hSS hM hL hst
  have hlt : 14 < nL := Nat.lt_of_lt_of_le (by simp) hL.2.2.1
  refine lv_astore hF.1 hF.2.1 hd hL.has hlt rfl (fun ls' h' => ?_)
  exact k p e s m args below meth c H locs ls' hF hE hS hA hP hSS hM (hL.st1 (i := 14) (v := vR x) (hst _ List.mem_cons_self) h' (fun j u hj hu => by (obtain rfl : j = 13 := by omega); cases hu; exact hk)) (fun v hv => hst v (List.mem_cons_of_mem _ hv))
theorem e_astoreN14 {a0 a1 a2 a3 a4 a5 a6 a7 a8 a9 a10 a11 a12 a13 b : Option MV} {r : List (Option MV)}  (hd : decode cc pc = .ok (.astore 14, 2)) (hk : isL a13 = false) 
    (k : WW l w own cc nL R cs sl A Qf Ex (pc + 2) (a0 :: a1 :: a2 :: a3 :: a4 :: a5 :: a6 :: a7 :: a8 :: a9 :: a10 :: a11 :: a12 :: a13 :: some (vN) :: r) st M) : WW l w own cc nL R cs sl A Qf Ex pc (a0 :: a1 :: a2 :: a3 :: a4 :: a5 :: a6 :: a7 :: a8 :: a9 :: a10 :: a11 :: a12 :: a13 :: b :: r) (vN :: st) M := by
  intro p e s m args below meth c H locs ls hF hE hS hA hP hSS hM hL hst
  have hlt : 14 < nL := Nat.lt_of_lt_of_le (by simp) hL.2.2.1
  refine lv_astoreN hF.1 hF.2.1 hd hL.has hlt rfl (fun ls' h' => ?_)
  exact k p e s m args below meth c H locs ls' hF hE hS hA hP hSS hM (hL.st1 (i := 14) (v := vN) (hst _ List.mem_cons_self) h' (fun j u hj hu => by (obtain rfl : j = 13 := by omega); cases hu; exact hk)) (fun v hv => hst v (List.mem_cons_of_mem _ hv))
theorem e_lstore14 {a0 a1 a2 a3 a4 a5 a6 a7 a8 a9 a10 a11 a12 a13 b b2 : Option MV} {r : List (Option MV)} {x : Int} (hd : decode cc pc = .ok (.lstore 14, 2)) (hk : isL a13 = false) 
    (k : WW l w own cc nL R cs sl A Qf Ex (pc + 2) (a0 :: a1 :: a2 :: a3 :: a4 :: a5 :: a6 :: a7 :: a8 :: a9 :: a10 :: a11 :: a12 :: a13 :: some (vL x) :: none :: r) st M) : WW l w own cc nL R cs sl A Qf Ex pc (a0 :: a1 :: a2 :: a3 :: a4 :: a5 :: a6 :: a7 :: a8 :: a9 :: a10 :: a11 :: a12 :: a13 :: b :: b2 :: r) (vL x :: st) M := by
  intro p e s m args below meth c H locs ls hF hE hS hA hP hSS hM hL hst
  have hlt : 14 + 1 < nL := Nat.lt_of_lt_of_le (by simp) hL.2.2.1
  refine lv_lstore hF.1 hF.2.1 hd hL.has hlt rfl (fun ls' h' => ?_)
  exact k p e s m args below meth c H locs ls' hF hE hS hA hP hSS hM (hL.st2 (i := 14) (v := vL x) (hst _ List.mem_cons_self) h' (fun j u hj hu => by (obtain rfl : j = 13 := by omega); cases hu; exact hk)) (fun v hv => hst v (List.mem_cons_of_mem _ hv))
theorem e_iinc14 {a0 a1 a2 a3 a4 a5 a6 a7 a8 a9 a10 a11 a12 a13 : Option MV} {r : List (Option MV)} {x y n : Int} (hd : decode cc pc = .ok (.iinc 14 n, 3)) (hy : x + n = y) (hr : inR (vI y)) (hk : isL a13 = false) 
    (k : WW l w own cc nL R cs sl A Qf Ex (pc + 3) (a0 :: a1 :: a2 :: a3 :: a4 :: a5 :: a6 :: a7 :: a8 :: a9 :: a10 :: a11 :: a12 :: a13 :: some (vI y) :: r) st M) : WW l w own cc nL R cs sl A Qf Ex pc (a0 :: a1 :: a2 :: a3 :: a4 :: a5 :: a6 :: a7 :: a8 :: a9 :: a10 :: a11 :: a12 :: a13 :: some (vI x) :: r) st M := by
  intro p e s m args below meth c H locs ls hF hE hS hA hP hSS hM hL hst
  have hlt : 14 < nL := Nat.lt_of_lt_of_le (by simp) hL.2.2.1
  obtain ⟨ki, hki⟩ := List.getElem?_of_mem (asc_of (w := w) (L := (a0 :: a1 :: a2 :: a3 :: a4 :: a5 :: a6 :: a7 :: a8 :: a9 :: a10 :: a11 :: a12 :: a13 :: some (vI x) :: r)) (i := 14) (v := vI x) rfl)
  refine lv_iinc (v := Int32.ofInt y) hF.1 hF.2.1 hd hL.has hki (by rw [← hy, Int32.ofInt_add]) hlt rfl (fun ls' h' => ?_)
  exact k p e s m args below meth c H locs ls' hF hE hS hA hP hSS hM (hL.st1 (i := 14) (v := vI y) hr h' (fun j u hj hu => by (obtain rfl : j = 13 := by omega); cases hu; exact hk)) hst
theorem e_istore15 {a0 a1 a2 a3 a4 a5 a6 a7 a8 a9 a10 a11 a12 a13 a14 b : Option MV} {r : List (Option MV)} {x : Int} (hd : decode cc pc = .ok (.istore 15, 2)) (hk : isL a14 = false) 
    (k : WW l w own cc nL R cs sl A Qf Ex (pc + 2) (a0 :: a1 :: a2 :: a3 :: a4 :: a5 :: a6 :: a7 :: a8 :: a9 :: a10 :: a11 :: a12 :: a13 :: a14 :: some (vI x) :: r) st M) : WW l w own cc nL R cs sl A Qf Ex pc (a0 :: a1 :: a2 :: a3 :: a4 :: a5 :: a6 :: a7 :: a8 :: a9 :: a10 :: a11 :: a12 :: a13 :: a14 :: b :: r) (vI x :: st) M := by
  intro p e s m args below meth c H locs ls hF hE hS hA hP hSS hM hL hst
  have hlt : 15 < nL := Nat.lt_of_lt_of_le (by simp) hL.2.2.1
  refine lv_istore hF.1 hF.2.1 hd hL.has hlt rfl (fun ls' h' => ?_)
  exact k p e s m args below meth c H locs ls' hF hE hS hA hP hSS hM (hL.st1 (i := 15) (v := vI x) (hst _ List.mem_cons_self) h' (fun j u hj hu => by (obtain rfl : j = 14 := by omega); cases hu; exact hk)) (fun v hv => hst v (List.mem_cons_of_mem _ hv))
theorem e_astore15 {a0 a1 a2 a3 a4 a5 a6 a7 a8 a9 a10 a11 a12 a13 a14 b : Option MV} {r : List (Option MV)} {x : Nat} (hd : decode cc pc = .ok (.astore 15, 2)) (hk : isL a14 = false) 
    (k : WW l w own cc nL R cs sl A Qf Ex (pc + 2) (a0 :: a1 :: a2 :: a3 :: a4 :: a5 :: a6 :: a7 :: a8 :: a9 :: a10 :: a11 :: a12 :: a13 :: a14 :: some (vR x) :: r) st M) : WW l w own cc nL R cs sl A Qf Ex pc (a0 :: a1 :: a2 :: a3 :: a4 :: a5 :: a6 :: a7 :: a8 :: a9 :: a10 :: a11 :: a12 :: a13 :: a14 :: b :: r) (vR x :: st) M := by
  intro p e s m args below meth c H locs ls hF hE hS hA hP hSS hM hL hst
  have hlt : 15 < nL := Nat.lt_of_lt_of_le (by simp) hL.2.2.1
  refine lv_astore hF.1 hF.2.1 hd hL.has hlt rfl (fun ls' h' => ?_)
  exact k p e s m args below meth c H locs ls' hF hE hS hA hP hSS hM (hL.st1 (i := 15) (v := vR x) (hst _ List.mem_cons_self) h' (fun j u hj hu => by (obtain rfl : j = 14 := by omega); cases hu; exact hk)) (fun v hv => hst v (List.mem_cons_of_mem _ hv))
theorem e_astoreN15 {a0 a1 a2 a3 a4 a5 a6 a7 a8 a9 a10 a11 a12 a13 a14 b : Option MV} {r : List (Option MV)}  (hd : decode cc pc = .ok (.astore 15, 2)) (hk : isL a14 = false) 
    (k : WW l w own cc nL R cs sl A Qf Ex (pc + 2) (a0 :: a1 :: a2 :: a3 :: a4 :: a5 :: a6 :: a7 :: a8 :: a9 :: a10 :: a11 :: a12 :: a13 :: a14 :: some (vN) :: r) st M) : WW l w own cc nL R cs sl A Qf Ex pc (a0 :: a1 :: a2 :: a3 :: a4 :: a5 :: a6 :: a7 :: a8 :: a9 :: a10 :: a11 :: a12 :: a13 :: a14 :: b :: r) (vN :: st) M := by
  intro p e s m args below meth c H locs ls hF hE hS hA hP hSS hM hL hst
  have hlt : 15 < nL := Nat.lt_of_lt_of_le (by simp) hL.2.2.1
  refine lv_astoreN hF.1 hF.2.1 hd hL.has hlt rfl (fun ls' h' => ?_)
  exact k p e s m args below meth c H locs ls' hF hE hS hA hP hSS hM (hL.st1 (i := 15) (v := vN) (hst _ List.mem_cons_self) h' (fun j u hj hu => by (obtain rfl : j = 14 := by omega); cases hu; exact hk)) (fun v hv => hst v (List.mem_cons_of_mem _ hv))
theorem e_lstore15 {a0 a1 a2 a3 a4 a5 a6 a7 a8 a9 a10 a11 a12 a13 a14 b b2 : Option MV} {r : List (Option MV)} {x : Int} (hd : decode cc pc = .ok (.lstore 15, 2)) (hk : isL a14 = false) 
    (k : WW l w own cc nL R cs sl A Qf Ex (pc + 2) (a0 :: a1 :: a2 :: a3 :: a4 :: a5 :: a6 :: a7 :: a8 :: a9 :: a10 :: a11 :: a12 :: a13 :: a14 :: some (vL x) :: none :: r) st M) : WW l w own cc nL R cs sl A Qf Ex pc (a0 :: a1 :: a2 :: a3 :: a4 :: a5 :: a6 :: a7 :: a8 :: a9 :: a10 :: a11 :: a12 :: a13 :: a14 :: b :: b2 :: r) (vL x :: st) M := by
  intro p e s m args below meth c H locs ls hF hE hS hA hP hSS hM hL hst
  have hlt : 15 + 1 < nL := Nat.lt_of_lt_of_le (by simp) hL.2.2.1
  refine lv_lstore hF.1 hF.2.1 hd hL.has hlt rfl (fun ls' h' => ?_)
  exact k p e s m args below meth c H locs ls' hF hE hS hA hP hSS hM (hL.st2 (i := 15) (v := vL x) (hst _ List.mem_cons_self) h' (fun j u hj hu => by (obtain rfl : j = 14 := by omega); cases hu; exact hk)) (fun v hv => hst v (List.mem_cons_of_mem _ hv))
theorem e_iinc15 {a0 a1 a2 a3 a4 a5 a6 a7 a8 a9 a10 a11 a12 a13 a14 : Option MV} {r : List (Option MV)} {x y n : Int} (hd : decode cc pc = .ok (.iinc 15 n, 3)) (hy : x + n = y) (hr : inR (vI y)) (hk : isL a14 = false) 
    (k : WW l w own cc nL R cs sl A Qf Ex (pc + 3) (a0 :: a1 :: a2 :: a3 :: a4 :: a5 :: a6 :: a7 :: a8 :: a9 :: a10 :: a11 :: a12 :: a13 :: a14 :: some (vI y) :: r) st M) : WW l w own cc nL R cs sl A Qf Ex pc (a0 :: a1 :: a2 :: a3 :: a4 :: a5 :: a6 :: a7 :: a8 :: a9 :: a10 :: a11 :: a12 :: a13 :: a14 :: some (vI x) :: r) st M := by
  intro p e s m args below meth c H locs ls hF hE hS hA hP hSS hM hL hst
  have hlt : 15 < nL := Nat.lt_of_lt_of_le (by simp) hL.2.2.1
  obtain ⟨ki, hki⟩ := List.getElem?_of_mem (asc_of (w := w) (L := (a0 :: a1 :: a2 :: a3 :: a4 :: a5 :: a6 :: a7 :: a8 :: a9 :: a10 :: a11 :: a12 :: a13 :: a14 :: some (vI x) :: r)) (i := 15) (v := vI x) rfl)
  refine lv_iinc (v := Int32.ofInt y) hF.1 hF.2.1 hd hL.has hki (by rw [← hy, Int32.ofInt_add]) hlt rfl (fun ls' h' => ?_)
  exact k p e s m args below meth c H locs ls' hF hE hS hA hP hSS hM (hL.st1 (i := 15) (v := vI y) hr h' (fun j u hj hu => by (obtain rfl : j = 14 := by omega); cases hu; exact hk)) hst
theorem e_iadd {x y : Int} (hd : decode cc pc = .ok (.iadd, 1)) (hr : inR (vI (x + y)))
    (k : WW l w own cc nL R cs sl A Qf Ex (pc + 1) L (vI (x + y) :: st) M) : WW l w own cc nL R cs sl A Qf Ex pc L (vI y :: vI x :: st) M := by
  intro p e s m args below meth c H locs ls hF hE hS hA hP hSS hM hL hst
  refine lv_iadd hF.1 hF.2.1 hd ?_
  rw [← Int32.ofInt_add]
  exact k p e s m args below meth c H locs ls hF hE hS hA hP hSS hM hL (List.forall_mem_cons.mpr ⟨hr, fun v hv => hst v (List.mem_cons_of_mem _ (List.mem_cons_of_mem _ hv))⟩)
theorem e_isub {x y : Int} (hd : decode cc pc = .ok (.isub, 1)) (hr : inR (vI (x - y)))
    (k : WW l w own cc nL R cs sl A Qf Ex (pc + 1) L (vI (x - y) :: st) M) : WW l w own cc nL R cs sl A Qf Ex pc L (vI y :: vI x :: st) M := by
  intro p e s m args below meth c H locs ls hF hE hS hA hP hSS hM hL hst
  refine lv_isub hF.1 hF.2.1 hd ?_
  rw [← Int32.ofInt_sub]
  exact k p e s m args below meth c H locs ls hF hE hS hA hP hSS hM hL (List.forall_mem_cons.mpr ⟨hr, fun v hv => hst v (List.mem_cons_of_mem _ (List.mem_cons_of_mem _ hv))⟩)
theorem e_imul {x y : Int} (hd : decode cc pc = .ok (.imul, 1)) (hr : inR (vI (x * y)))
    (k : WW l w own cc nL R cs sl A Qf Ex (pc + 1) L (vI (x * y) :: st) M) : WW l w own cc nL R cs sl A Qf Ex pc L (vI y :: vI x :: st) M := by
  intro p e s m args below meth c H locs ls hF hE hS hA hP hSS hM hL hst
  refine lv_imul hF.1 hF.2.1 hd ?_
  rw [← Int32.ofInt_mul]
  exact k p e s m args below meth c H locs ls hF hE hS hA hP hSS hM hL (List.forall_mem_cons.mpr ⟨hr, fun v hv => hst v (List.mem_cons_of_mem _ (List.mem_cons_of_mem _ hv))⟩)
theorem e_ladd {x y : Int} (hd : decode cc pc = .ok (.ladd, 1)) (hr : inR (vL (x + y)))
    (k : WW l w own cc nL R cs sl A Qf Ex (pc + 1) L (vL (x + y) :: st) M) : WW l w own cc nL R cs sl A Qf Ex pc L (vL y :: vL x :: st) M := by
  intro p e s m args below meth c H locs ls hF hE hS hA hP hSS hM hL hst
  refine lv_ladd hF.1 hF.2.1 hd ?_
  rw [← Int64.ofInt_add]
  exact k p e s m args below meth c H locs ls hF hE hS hA hP hSS hM hL (List.forall_mem_cons.mpr ⟨hr, fun v hv => hst v (List.mem_cons_of_mem _ (List.mem_cons_of_mem _ hv))⟩)
theorem e_lsub {x y : Int} (hd : decode cc pc = .ok (.lsub, 1)) (hr : inR (vL (x - y)))
    (k : WW l w own cc nL R cs sl A Qf Ex (pc + 1) L (vL (x - y) :: st) M) : WW l w own cc nL R cs sl A Qf Ex pc L (vL y :: vL x :: st) M := by
  intro p e s m args below meth c H locs ls hF hE hS hA hP hSS hM hL hst
  refine lv_lsub hF.1 hF.2.1 hd ?_
  rw [← Int64.ofInt_sub]
  exact k p e s m args below meth c H locs ls hF hE hS hA hP hSS hM hL (List.forall_mem_cons.mpr ⟨hr, fun v hv => hst v (List.mem_cons_of_mem _ (List.mem_cons_of_mem _ hv))⟩)
theorem e_lmul {x y : Int} (hd : decode cc pc = .ok (.lmul, 1)) (hr : inR (vL (x * y)))
    (k : WW l w own cc nL R cs sl A Qf Ex (pc + 1) L (vL (x * y) :: st) M) : WW l w own cc nL R cs sl A Qf Ex pc L (vL y :: vL x :: st) M := by
  intro p e s m args below meth c H locs ls hF hE hS hA hP hSS hM hL hst
  refine lv_lmul hF.1 hF.2.1 hd ?_
  rw [← Int64.ofInt_mul]
  exact k p e s m args below meth c H locs ls hF hE hS hA hP hSS hM hL (List.forall_mem_cons.mpr ⟨hr, fun v hv => hst v (List.mem_cons_of_mem _ (List.mem_cons_of_mem _ hv))⟩)
theorem e_idiv {x y : Int} (hd : decode cc pc = .ok (.idiv, 1)) (hne : y ≠ 0) (hr : inR (vI (x.tdiv y)))
    (k : WW l w own cc nL R cs sl A Qf Ex (pc + 1) L (vI (x.tdiv y) :: st) M) : WW l w own cc nL R cs sl A Qf Ex pc L (vI y :: vI x :: st) M := by
  intro p e s m args below meth c H locs ls hF hE hS hA hP hSS hM hL hst
  have hy : inR (vI y) := hst _ List.mem_cons_self
  have hx : inR (vI x) := hst _ (List.mem_cons_of_mem _ List.mem_cons_self)
  refine lv_idiv hF.1 hF.2.1 hd (fun q => hne ((i32_eq hy (y := 0) ⟨by decide, by decide⟩).mp q)) ?_
  rw [i32_div hx hy hr]
  exact k p e s m args below meth c H locs ls hF hE hS hA hP hSS hM hL (List.forall_mem_cons.mpr ⟨hr, fun v hv => hst v (List.mem_cons_of_mem _ (List.mem_cons_of_mem _ hv))⟩)
theorem e_irem {x y : Int} (hd : decode cc pc = .ok (.irem, 1)) (hne : y ≠ 0) (hr : inR (vI (x.tmod y)))
    (k : WW l w own cc nL R cs sl A Qf Ex (pc + 1) L (vI (x.tmod y) :: st) M) : WW l w own cc nL R cs sl A Qf Ex pc L (vI y :: vI x :: st) M := by
  intro p e s m args below meth c H locs ls hF hE hS hA hP hSS hM hL hst
  have hy : inR (vI y) := hst _ List.mem_cons_self
  have hx : inR (vI x) := hst _ (List.mem_cons_of_mem _ List.mem_cons_self)
  refine lv_irem hF.1 hF.2.1 hd (fun q => hne ((i32_eq hy (y := 0) ⟨by decide, by decide⟩).mp q)) ?_
  rw [i32_rem hx hy hr]
  exact k p e s m args below meth c H locs ls hF hE hS hA hP hSS hM hL (List.forall_mem_cons.mpr ⟨hr, fun v hv => hst v (List.mem_cons_of_mem _ (List.mem_cons_of_mem _ hv))⟩)
theorem e_ldiv {x y : Int} (hd : decode cc pc = .ok (.ldiv, 1)) (hne : y ≠ 0) (hr : inR (vL (x.tdiv y)))
    (k : WW l w own cc nL R cs sl A Qf Ex (pc + 1) L (vL (x.tdiv y) :: st) M) : WW l w own cc nL R cs sl A Qf Ex pc L (vL y :: vL x :: st) M := by
  intro p e s m args below meth c H locs ls hF hE hS hA hP hSS hM hL hst
  have hy : inR (vL y) := hst _ List.mem_cons_self
  have hx : inR (vL x) := hst _ (List.mem_cons_of_mem _ List.mem_cons_self)
  refine lv_ldiv hF.1 hF.2.1 hd (fun q => hne ((i64_eq hy (y := 0) ⟨by decide, by decide⟩).mp q)) ?_
  rw [i64_div hx hy hr]
  exact k p e s m args below meth c H locs ls hF hE hS hA hP hSS hM hL (List.forall_mem_cons.mpr ⟨hr, fun v hv => hst v (List.mem_cons_of_mem _ (List.mem_cons_of_mem _ hv))⟩)
theorem e_lrem {x y : Int} (hd : decode cc pc = .ok (.lrem, 1)) (hne : y ≠ 0) (hr : inR (vL (x.tmod y)))
    (k : WW l w own cc nL R cs sl A Qf Ex (pc + 1) L (vL (x.tmod y) :: st) M) : WW l w own cc nL R cs sl A Qf Ex pc L (vL y :: vL x :: st) M := by
  intro p e s m args below meth c H locs ls hF hE hS hA hP hSS hM hL hst
  have hy : inR (vL y) := hst _ List.mem_cons_self
  have hx : inR (vL x) := hst _ (List.mem_cons_of_mem _ List.mem_cons_self)
  refine lv_lrem hF.1 hF.2.1 hd (fun q => hne ((i64_eq hy (y := 0) ⟨by decide, by decide⟩).mp q)) ?_
  rw [i64_rem hx hy hr]
  exact k p e s m args below meth c H locs ls hF hE hS hA hP hSS hM hL (List.forall_mem_cons.mpr ⟨hr, fun v hv => hst v (List.mem_cons_of_mem _ (List.mem_cons_of_mem _ hv))⟩)
theorem e_ineg {x : Int} (hd : decode cc pc = .ok (.ineg, 1)) (hr : inR (vI (-x)))
    (k : WW l w own cc nL R cs sl A Qf Ex (pc + 1) L (vI (-x) :: st) M) : WW l w own cc nL R cs sl A Qf Ex pc L (vI x :: st) M := by
  intro p e s m args below meth c H locs ls hF hE hS hA hP hSS hM hL hst
  refine lv_ineg hF.1 hF.2.1 hd ?_
  rw [← Int32.ofInt_neg]
  exact k p e s m args below meth c H locs ls hF hE hS hA hP hSS hM hL (List.forall_mem_cons.mpr ⟨hr, fun v hv => hst v (List.mem_cons_of_mem _ hv)⟩)
theorem e_lneg {x : Int} (hd : decode cc pc = .ok (.lneg, 1)) (hr : inR (vL (-x)))
    (k : WW l w own cc nL R cs sl A Qf Ex (pc + 1) L (vL (-x) :: st) M) : WW l w own cc nL R cs sl A Qf Ex pc L (vL x :: st) M := by
  intro p e s m args below meth c H locs ls hF hE hS hA hP hSS hM hL hst
  refine lv_lneg hF.1 hF.2.1 hd ?_
  rw [← Int64.ofInt_neg]
  exact k p e s m args below meth c H locs ls hF hE hS hA hP hSS hM hL (List.forall_mem_cons.mpr ⟨hr, fun v hv => hst v (List.mem_cons_of_mem _ hv)⟩)
theorem e_iand {x y : Int} (hd : decode cc pc = .ok (.iand, 1))
    (k : WW l w own cc nL R cs sl A Qf Ex (pc + 1) L (vI (bAnd x y) :: st) M) : WW l w own cc nL R cs sl A Qf Ex pc L (vI y :: vI x :: st) M := by
  intro p e s m args below meth c H locs ls hF hE hS hA hP hSS hM hL hst
  refine lv_iand hF.1 hF.2.1 hd ?_
  have h1 := k p e s m args below meth c H locs ls hF hE hS hA hP hSS hM hL (List.forall_mem_cons.mpr ⟨i32_r _, fun v hv => hst v (List.mem_cons_of_mem _ (List.mem_cons_of_mem _ hv))⟩)
  simp only [List.map_cons, tv, bAnd, Int32.ofInt_toInt] at h1
  exact h1
theorem e_ior {x y : Int} (hd : decode cc pc = .ok (.ior, 1))
    (k : WW l w own cc nL R cs sl A Qf Ex (pc + 1) L (vI (bOr x y) :: st) M) : WW l w own cc nL R cs sl A Qf Ex pc L (vI y :: vI x :: st) M := by
  intro p e s m args below meth c H locs ls hF hE hS hA hP hSS hM hL hst
  refine lv_ior hF.1 hF.2.1 hd ?_
  have h1 := k p e s m args below meth c H locs ls hF hE hS hA hP hSS hM hL (List.forall_mem_cons.mpr ⟨i32_r _, fun v hv => hst v (List.mem_cons_of_mem _ (List.mem_cons_of_mem _ hv))⟩)
  simp only [List.map_cons, tv, bOr, Int32.ofInt_toInt] at h1
  exact h1
theorem e_ixor {x y : Int} (hd : decode cc pc = .ok (.ixor, 1))
    (k : WW l w own cc nL R cs sl A Qf Ex (pc + 1) L (vI (bXor x y) :: st) M) : WW l w own cc nL R cs sl A Qf Ex pc L (vI y :: vI x :: st) M := by
  intro p e s m args below meth c H locs ls hF hE hS hA hP hSS hM hL hst
  refine lv_ixor hF.1 hF.2.1 hd ?_
  have h1 := k p e s m args below meth c H locs ls hF hE hS hA hP hSS hM hL (List.forall_mem_cons.mpr ⟨i32_r _, fun v hv => hst v (List.mem_cons_of_mem _ (List.mem_cons_of_mem _ hv))⟩)
  simp only [List.map_cons, tv, bXor, Int32.ofInt_toInt] at h1
  exact h1
theorem e_ishl {x y : Int} (hd : decode cc pc = .ok (.ishl, 1))
    (k : WW l w own cc nL R cs sl A Qf Ex (pc + 1) L (vI (bShl x y) :: st) M) : WW l w own cc nL R cs sl A Qf Ex pc L (vI y :: vI x :: st) M := by
  intro p e s m args below meth c H locs ls hF hE hS hA hP hSS hM hL hst
  refine lv_ishl hF.1 hF.2.1 hd ?_
  have h1 := k p e s m args below meth c H locs ls hF hE hS hA hP hSS hM hL (List.forall_mem_cons.mpr ⟨i32_r _, fun v hv => hst v (List.mem_cons_of_mem _ (List.mem_cons_of_mem _ hv))⟩)
  simp only [List.map_cons, tv, bShl, Int32.ofInt_toInt] at h1
  exact h1
theorem e_ishr {x y : Int} (hd : decode cc pc = .ok (.ishr, 1))
    (k : WW l w own cc nL R cs sl A Qf Ex (pc + 1) L (vI (bShr x y) :: st) M) : WW l w own cc nL R cs sl A Qf Ex pc L (vI y :: vI x :: st) M := by
  intro p e s m args below meth c H locs ls hF hE hS hA hP hSS hM hL hst
  refine lv_ishr hF.1 hF.2.1 hd ?_
  have h1 := k p e s m args below meth c H locs ls hF hE hS hA hP hSS hM hL (List.forall_mem_cons.mpr ⟨i32_r _, fun v hv => hst v (List.mem_cons_of_mem _ (List.mem_cons_of_mem _ hv))⟩)
  simp only [List.map_cons, tv, bShr, Int32.ofInt_toInt] at h1
  exact h1
theorem e_iushr {x y : Int} (hd : decode cc pc = .ok (.iushr, 1))
    (k : WW l w own cc nL R cs sl A Qf Ex (pc + 1) L (vI (bUsr x y) :: st) M) : WW l w own cc nL R cs sl A Qf Ex pc L (vI y :: vI x :: st) M := by
  intro p e s m args below meth c H locs ls hF hE hS hA hP hSS hM hL hst
  refine lv_iushr hF.1 hF.2.1 hd rfl ?_
  have h1 := k p e s m args below meth c H locs ls hF hE hS hA hP hSS hM hL (List.forall_mem_cons.mpr ⟨i32_r _, fun v hv => hst v (List.mem_cons_of_mem _ (List.mem_cons_of_mem _ hv))⟩)
  simp only [List.map_cons, tv, bUsr, Int32.ofInt_toInt] at h1
  exact h1
theorem e_i2b {x : Int} (hd : decode cc pc = .ok (.i2b, 1))
    (k : WW l w own cc nL R cs sl A Qf Ex (pc + 1) L (vI (bByte x) :: st) M) : WW l w own cc nL R cs sl A Qf Ex pc L (vI x :: st) M := by
  intro p e s m args below meth c H locs ls hF hE hS hA hP hSS hM hL hst
  refine lv_i2b hF.1 hF.2.1 hd rfl ?_
  have h1 := k p e s m args below meth c H locs ls hF hE hS hA hP hSS hM hL (List.forall_mem_cons.mpr ⟨i32_r _, fun v hv => hst v (List.mem_cons_of_mem _ hv)⟩)
  simp only [List.map_cons, tv, bByte, Int32.ofInt_toInt] at h1
  exact h1
theorem e_i2l {x : Int} (hd : decode cc pc = .ok (.i2l, 1))
    (k : WW l w own cc nL R cs sl A Qf Ex (pc + 1) L (vL x :: st) M) : WW l w own cc nL R cs sl A Qf Ex pc L (vI x :: st) M := by
  intro p e s m args below meth c H locs ls hF hE hS hA hP hSS hM hL hst
  have hx : inR (vI x) := hst _ List.mem_cons_self
  have hx2 : inR (vL x) := ⟨Int.le_trans (by decide) hx.1, Int.le_trans hx.2 (by decide)⟩
  refine lv_i2l (v := Int64.ofInt x) hF.1 hF.2.1 hd (by rw [← Int64.toInt_inj, Int32.toInt_toInt64, i32_to hx, i64_to hx2]) ?_
  exact k p e s m args below meth c H locs ls hF hE hS hA hP hSS hM hL (List.forall_mem_cons.mpr ⟨hx2, fun v hv => hst v (List.mem_cons_of_mem _ hv)⟩)
theorem e_l2i {x : Int} (hd : decode cc pc = .ok (.l2i, 1)) (hr : inR (vI x))
    (k : WW l w own cc nL R cs sl A Qf Ex (pc + 1) L (vI x :: st) M) : WW l w own cc nL R cs sl A Qf Ex pc L (vL x :: st) M := by
  intro p e s m args below meth c H locs ls hF hE hS hA hP hSS hM hL hst
  refine lv_l2i (v := Int32.ofInt x) hF.1 hF.2.1 hd Int64.toInt32_ofInt ?_
  exact k p e s m args below meth c H locs ls hF hE hS hA hP hSS hM hL (List.forall_mem_cons.mpr ⟨hr, fun v hv => hst v (List.mem_cons_of_mem _ hv)⟩)
theorem cmpL_r (x y : Int) : inR (vI (cmpL x y)) := by
  unfold cmpL
  split
  · exact ⟨by decide, by decide⟩
  · split <;> exact ⟨by decide, by decide⟩
theorem cmpL_ok {x y : Int} (hx : inR (vL x)) (hy : inR (vL y)) : lg_cmp (Int64.ofInt x) (Int64.ofInt y) = Int32.ofInt (cmpL x y) := by
  unfold lg_cmp cmpL
  simp only [gt_iff_lt, i64_lt hy hx, i64_eq hx hy]
  split
  · decide
  · split <;> decide
theorem e_lcmp {x y : Int} (hd : decode cc pc = .ok (.lcmp, 1))
    (k : WW l w own cc nL R cs sl A Qf Ex (pc + 1) L (vI (cmpL x y) :: st) M) : WW l w own cc nL R cs sl A Qf Ex pc L (vL y :: vL x :: st) M := by
  intro p e s m args below meth c H locs ls hF hE hS hA hP hSS hM hL hst
  have hy : inR (vL y) := hst _ List.mem_cons_self
  have hx : inR (vL x) := hst _ (List.mem_cons_of_mem _ List.mem_cons_self)
  refine W.lcmp hF.1 hF.2.1 hd ?_
  rw [cmpL_ok hx hy]
  exact k p e s m args below meth c H locs ls hF hE hS hA hP hSS hM hL (List.forall_mem_cons.mpr ⟨cmpL_r x y, fun v hv => hst v (List.mem_cons_of_mem _ (List.mem_cons_of_mem _ hv))⟩)
theorem e_dup {v : MV} (hd : decode cc pc = .ok (.dup, 1)) (hv : isL (some v) = false)
    (k : WW l w own cc nL R cs sl A Qf Ex (pc + 1) L (v :: v :: st) M) : WW l w own cc nL R cs sl A Qf Ex pc L (v :: st) M := by
  intro p e s m args below meth c H locs ls hF hE hS hA hP hSS hM hL hst
  refine lv_dup hF.1 hF.2.1 hd (tv_cat2 hv) ?_
  exact k p e s m args below meth c H locs ls hF hE hS hA hP hSS hM hL (List.forall_mem_cons.mpr ⟨hst _ List.mem_cons_self, hst⟩)
theorem e_pop {v : MV} (hd : decode cc pc = .ok (.pop, 1)) (hv : isL (some v) = false)
    (k : WW l w own cc nL R cs sl A Qf Ex (pc + 1) L st M) : WW l w own cc nL R cs sl A Qf Ex pc L (v :: st) M := by
  intro p e s m args below meth c H locs ls hF hE hS hA hP hSS hM hL hst
  refine lv_pop hF.1 hF.2.1 hd (tv_cat2 hv) ?_
  exact k p e s m args below meth c H locs ls hF hE hS hA hP hSS hM hL (fun v hv => hst v (List.mem_cons_of_mem _ hv))
theorem e_dup2 {v u : MV} (hd : decode cc pc = .ok (.dup2, 1)) (hv : isL (some v) = false) (hu : isL (some u) = false)
    (k : WW l w own cc nL R cs sl A Qf Ex (pc + 1) L (v :: u :: v :: u :: st) M) : WW l w own cc nL R cs sl A Qf Ex pc L (v :: u :: st) M := by
  intro p e s m args below meth c H locs ls hF hE hS hA hP hSS hM hL hst
  refine lv_dup2_11 hF.1 hF.2.1 hd (tv_cat2 hv) (tv_cat2 hu) ?_
  exact k p e s m args below meth c H locs ls hF hE hS hA hP hSS hM hL (List.forall_mem_cons.mpr ⟨hst _ List.mem_cons_self, List.forall_mem_cons.mpr ⟨hst _ (List.mem_cons_of_mem _ List.mem_cons_self), hst⟩⟩)
theorem e_icmp_eq {x y off : Int} {tgt : Nat} (hd : decode cc pc = .ok (.if_icmp .eq off, 3)) (ht : (pc : Int) + off = (tgt : Int))
    (kt : x = y → WW l w own cc nL R cs sl A Qf Ex tgt L st M) (kf : ¬ x = y → WW l w own cc nL R cs sl A Qf Ex (pc + 3) L st M) : WW l w own cc nL R cs sl A Qf Ex pc L (vI y :: vI x :: st) M := by
  intro p e s m args below meth c H locs ls hF hE hS hA hP hSS hM hL hst
  have hy : inR (vI y) := hst _ List.mem_cons_self
  have hx : inR (vI x) := hst _ (List.mem_cons_of_mem _ List.mem_cons_self)
  refine lv_icmp_eq hF.1 hF.2.1 hd ht (fun h => ?_) (fun h => ?_)
  · exact kt ((i32_eq hx hy).mp h) p e s m args below meth c H locs ls hF hE hS hA hP hSS hM hL (fun v hv => hst v (List.mem_cons_of_mem _ (List.mem_cons_of_mem _ hv)))
  · exact kf (fun q => h ((i32_eq hx hy).mpr q)) p e s m args below meth c H locs ls hF hE hS hA hP hSS hM hL (fun v hv => hst v (List.mem_cons_of_mem _ (List.mem_cons_of_mem _ hv)))
theorem e_if_eq {x off : Int} {tgt : Nat} (hd : decode cc pc = .ok (.ifCond .eq off, 3)) (ht : (pc : Int) + off = (tgt : Int))
    (kt : x = 0 → WW l w own cc nL R cs sl A Qf Ex tgt L st M) (kf : ¬ x = 0 → WW l w own cc nL R cs sl A Qf Ex (pc + 3) L st M) : WW l w own cc nL R cs sl A Qf Ex pc L (vI x :: st) M := by
  intro p e s m args below meth c H locs ls hF hE hS hA hP hSS hM hL hst
  have hy : inR (vI 0) := r0
  have hx : inR (vI x) := hst _ List.mem_cons_self
  refine lv_if_eq hF.1 hF.2.1 hd ht (fun h => ?_) (fun h => ?_)
  · exact kt ((i32_eq hx hy).mp h) p e s m args below meth c H locs ls hF hE hS hA hP hSS hM hL (fun v hv => hst v (List.mem_cons_of_mem _ hv))
  · exact kf (fun q => h ((i32_eq hx hy).mpr q)) p e s m args below meth c H locs ls hF hE hS hA hP hSS hM hL (fun v hv => hst v (List.mem_cons_of_mem _ hv))
theorem e_icmp_ne {x y off : Int} {tgt : Nat} (hd : decode cc pc = .ok (.if_icmp .ne off, 3)) (ht : (pc : Int) + off = (tgt : Int))
    (kt : ¬ x = y → WW l w own cc nL R cs sl A Qf Ex tgt L st M) (kf : x = y → WW l w own cc nL R cs sl A Qf Ex (pc + 3) L st M) : WW l w own cc nL R cs sl A Qf Ex pc L (vI y :: vI x :: st) M := by
  intro p e s m args below meth c H locs ls hF hE hS hA hP hSS hM hL hst
  have hy : inR (vI y) := hst _ List.mem_cons_self
  have hx : inR (vI x) := hst _ (List.mem_cons_of_mem _ List.mem_cons_self)
  refine lv_icmp_ne hF.1 hF.2.1 hd ht (fun h => ?_) (fun h => ?_)
  · exact kt (fun q => h ((i32_eq hx hy).mpr q)) p e s m args below meth c H locs ls hF hE hS hA hP hSS hM hL (fun v hv => hst v (List.mem_cons_of_mem _ (List.mem_cons_of_mem _ hv)))
  · exact kf ((i32_eq hx hy).mp h) p e s m args below meth c H locs ls hF hE hS hA hP hSS hM hL (fun v hv => hst v (List.mem_cons_of_mem _ (List.mem_cons_of_mem _ hv)))
theorem e_if_ne {x off : Int} {tgt : Nat} (hd : decode cc pc = .ok (.ifCond .ne off, 3)) (ht : (pc : Int) + off = (tgt : Int))
    (kt : ¬ x = 0 → WW l w own cc nL R cs sl A Qf Ex tgt L st M) (kf : x = 0 → WW l w own cc nL R cs sl A Qf Ex (pc + 3) L st M) : WW l w own cc nL R cs sl A Qf Ex pc L (vI x :: st) M := by
  intro p e s m args below meth c H locs ls hF hE hS hA hP hSS hM hL hst
  have hy : inR (vI 0) := r0
  have hx : inR (vI x) := hst _ List.mem_cons_self
  refine lv_if_ne hF.1 hF.2.1 hd ht (fun h => ?_) (fun h => ?_)
  · exact kt (fun q => h ((i32_eq hx hy).mpr q)) p e s m args below meth c H locs ls hF hE hS hA hP hSS hM hL (fun v hv => hst v (List.mem_cons_of_mem _ hv))
  · exact kf ((i32_eq hx hy).mp h) p e s m args below meth c H locs ls hF hE hS hA hP hSS hM hL (fun v hv => hst v (List.mem_cons_of_mem _ hv))
theorem e_icmp_lt {x y off : Int} {tgt : Nat} (hd : decode cc pc = .ok (.if_icmp .lt off, 3)) (ht : (pc : Int) + off = (tgt : Int))
    (kt : x < y → WW l w own cc nL R cs sl A Qf Ex tgt L st M) (kf : ¬ x < y → WW l w own cc nL R cs sl A Qf Ex (pc + 3) L st M) : WW l w own cc nL R cs sl A Qf Ex pc L (vI y :: vI x :: st) M := by
  intro p e s m args below meth c H locs ls hF hE hS hA hP hSS hM hL hst
  have hy : inR (vI y) := hst _ List.mem_cons_self
  have hx : inR (vI x) := hst _ (List.mem_cons_of_mem _ List.mem_cons_self)
  refine lv_icmp_lt hF.1 hF.2.1 hd ht (fun h => ?_) (fun h => ?_)
  · exact kt ((i32_lt hx hy).mp h) p e s m args below meth c H locs ls hF hE hS hA hP hSS hM hL (fun v hv => hst v (List.mem_cons_of_mem _ (List.mem_cons_of_mem _ hv)))
  · exact kf (fun q => h ((i32_lt hx hy).mpr q)) p e s m args below meth c H locs ls hF hE hS hA hP hSS hM hL (fun v hv => hst v (List.mem_cons_of_mem _ (List.mem_cons_of_mem _ hv)))
theorem e_if_lt {x off : Int} {tgt : Nat} (hd : decode cc pc = .ok (.ifCond .lt off, 3)) (ht : (pc : Int) + off = (tgt : Int))
    (kt : x < 0 → WW l w own cc nL R cs sl A Qf Ex tgt L st M) (kf : ¬ x < 0 → WW l w own cc nL R cs sl A Qf Ex (pc + 3) L st M) : WW l w own cc nL R cs sl A Qf Ex pc L (vI x :: st) M := by
  intro p e s m args below meth c H locs ls hF hE hS hA hP hSS hM hL hst
  have hy : inR (vI 0) := r0
  have hx : inR (vI x) := hst _ List.mem_cons_self
  refine lv_if_lt hF.1 hF.2.1 hd ht (fun h => ?_) (fun h => ?_)
  · exact kt ((i32_lt hx hy).mp h) p e s m args below meth c H locs ls hF hE hS hA hP hSS hM hL (fun v hv => hst v (List.mem_cons_of_mem _ hv))
  · exact kf (fun q => h ((i32_lt hx hy).mpr q)) p e s m args below meth c H locs ls hF hE hS hA hP hSS hM hL (fun v hv => hst v (List.mem_cons_of_mem _ hv))
theorem e_icmp_ge {x y off : Int} {tgt : Nat} (hd : decode cc pc = .ok (.if_icmp .ge off, 3)) (ht : (pc : Int) + off = (tgt : Int))
    (kt : y ≤ x → WW l w own cc nL R cs sl A Qf Ex tgt L st M) (kf : ¬ y ≤ x → WW l w own cc nL R cs sl A Qf Ex (pc + 3) L st M) : WW l w own cc nL R cs sl A Qf Ex pc L (vI y :: vI x :: st) M := by
  intro p e s m args below meth c H locs ls hF hE hS hA hP hSS hM hL hst
  have hy : inR (vI y) := hst _ List.mem_cons_self
  have hx : inR (vI x) := hst _ (List.mem_cons_of_mem _ List.mem_cons_self)
  refine lv_icmp_ge hF.1 hF.2.1 hd ht (fun h => ?_) (fun h => ?_)
  · exact kt ((i32_le hy hx).mp h) p e s m args below meth c H locs ls hF hE hS hA hP hSS hM hL (fun v hv => hst v (List.mem_cons_of_mem _ (List.mem_cons_of_mem _ hv)))
  · exact kf (fun q => h ((i32_le hy hx).mpr q)) p e s m args below meth c H locs ls hF hE hS hA hP hSS hM hL (fun v hv => hst v (List.mem_cons_of_mem _ (List.mem_cons_of_mem _ hv)))
theorem e_if_ge {x off : Int} {tgt : Nat} (hd : decode cc pc = .ok (.ifCond .ge off, 3)) (ht : (pc : Int) + off = (tgt : Int))
    (kt : 0 ≤ x → WW l w own cc nL R cs sl A Qf Ex tgt L st M) (kf : ¬ 0 ≤ x → WW l w own cc nL R cs sl A Qf Ex (pc + 3) L st M) : WW l w own cc nL R cs sl A Qf Ex pc L (vI x :: st) M := by
  intro p e s m args below meth c H locs ls hF hE hS hA hP hSS hM hL hst
  have hy : inR (vI 0) := r0
  have hx : inR (vI x) := hst _ List.mem_cons_self
  refine lv_if_ge hF.1 hF.2.1 hd ht (fun h => ?_) (fun h => ?_)
  · exact kt ((i32_le hy hx).mp h) p e s m args below meth c H locs ls hF hE hS hA hP hSS hM hL (fun v hv => hst v (List.mem_cons_of_mem _ hv))
  · exact kf (fun q => h ((i32_le hy hx).mpr q)) p e s m args below meth c H locs ls hF hE hS hA hP hSS hM hL (fun v hv => hst v (List.mem_cons_of_mem _ hv))
theorem e_icmp_gt {x y off : Int} {tgt : Nat} (hd : decode cc pc = .ok (.if_icmp .gt off, 3)) (ht : (pc : Int) + off = (tgt : Int))
    (kt : y < x → WW l w own cc nL R cs sl A Qf Ex tgt L st M) (kf : ¬ y < x → WW l w own cc nL R cs sl A Qf Ex (pc + 3) L st M) : WW l w own cc nL R cs sl A Qf Ex pc L (vI y :: vI x :: st) M := by
  intro p e s m args below meth c H locs ls hF hE hS hA hP hSS hM hL hst
  have hy : inR (vI y) := hst _ List.mem_cons_self
  have hx : inR (vI x) := hst _ (List.mem_cons_of_mem _ List.mem_cons_self)
  refine lv_icmp_gt hF.1 hF.2.1 hd ht (fun h => ?_) (fun h => ?_)
  · exact kt ((i32_lt hy hx).mp h) p e s m args below meth c H locs ls hF hE hS hA hP hSS hM hL (fun v hv => hst v (List.mem_cons_of_mem _ (List.mem_cons_of_mem _ hv)))
  · exact kf (fun q => h ((i32_lt hy hx).mpr q)) p e s m args below meth c H locs ls hF hE hS hA hP hSS hM hL (fun v hv => hst v (List.mem_cons_of_mem _ (List.mem_cons_of_mem _ hv)))
theorem e_if_gt {x off : Int} {tgt : Nat} (hd : decode cc pc = .ok (.ifCond .gt off, 3)) (ht : (pc : Int) + off = (tgt : Int))
    (kt : 0 < x → WW l w own cc nL R cs sl A Qf Ex tgt L st M) (kf : ¬ 0 < x → WW l w own cc nL R cs sl A Qf Ex (pc + 3) L st M) : WW l w own cc nL R cs sl A Qf Ex pc L (vI x :: st) M := by
  intro p e s m args below meth c H locs ls hF hE hS hA hP hSS hM hL hst
  have hy : inR (vI 0) := r0
  have hx : inR (vI x) := hst _ List.mem_cons_self
  refine lv_if_gt hF.1 hF.2.1 hd ht (fun h => ?_) (fun h => ?_)
  · exact kt ((i32_lt hy hx).mp h) p e s m args below meth c H locs ls hF hE hS hA hP hSS hM hL (fun v hv => hst v (List.mem_cons_of_mem _ hv))
  · exact kf (fun q => h ((i32_lt hy hx).mpr q)) p e s m args below meth c H locs ls hF hE hS hA hP hSS hM hL (fun v hv => hst v (List.mem_cons_of_mem _ hv))
theorem e_icmp_le {x y off : Int} {tgt : Nat} (hd : decode cc pc = .ok (.if_icmp .le off, 3)) (ht : (pc : Int) + off = (tgt : Int))
    (kt : x ≤ y → WW l w own cc nL R cs sl A Qf Ex tgt L st M) (kf : ¬ x ≤ y → WW l w own cc nL R cs sl A Qf Ex (pc + 3) L st M) : WW l w own cc nL R cs sl A Qf Ex pc L (vI y :: vI x :: st) M := by
  intro p e s m args below meth c H locs ls hF hE hS hA hP hSS hM hL hst
  have hy : inR (vI y) := hst _ List.mem_cons_self
  have hx : inR (vI x) := hst _ (List.mem_cons_of_mem _ List.mem_cons_self)
  refine lv_icmp_le hF.1 hF.2.1 hd ht (fun h => ?_) (fun h => ?_)
  · exact kt ((i32_le hx hy).mp h) p e s m args below meth c H locs ls hF hE hS hA hP hSS hM hL (fun v hv => hst v (List.mem_cons_of_mem _ (List.mem_cons_of_mem _ hv)))
  · exact kf (fun q => h ((i32_le hx hy).mpr q)) p e s m args below meth c H locs ls hF hE hS hA hP hSS hM hL (fun v hv => hst v (List.mem_cons_of_mem _ (List.mem_cons_of_mem _ hv)))
theorem e_if_le {x off : Int} {tgt : Nat} (hd : decode cc pc = .ok (.ifCond .le off, 3)) (ht : (pc : Int) + off = (tgt : Int))
    (kt : x ≤ 0 → WW l w own cc nL R cs sl A Qf Ex tgt L st M) (kf : ¬ x ≤ 0 → WW l w own cc nL R cs sl A Qf Ex (pc + 3) L st M) : WW l w own cc nL R cs sl A Qf Ex pc L (vI x :: st) M := by
  intro p e s m args below meth c H locs ls hF hE hS hA hP hSS hM hL hst
  have hy : inR (vI 0) := r0
  have hx : inR (vI x) := hst _ List.mem_cons_self
  refine lv_if_le hF.1 hF.2.1 hd ht (fun h => ?_) (fun h => ?_)
  · exact kt ((i32_le hx hy).mp h) p e s m args below meth c H locs ls hF hE hS hA hP hSS hM hL (fun v hv => hst v (List.mem_cons_of_mem _ hv))
  · exact kf (fun q => h ((i32_le hx hy).mpr q)) p e s m args below meth c H locs ls hF hE hS hA hP hSS hM hL (fun v hv => hst v (List.mem_cons_of_mem _ hv))
theorem e_goto {off : Int} {tgt : Nat} (hd : decode cc pc = .ok (.goto off, 3)) (ht : (pc : Int) + off = (tgt : Int))
    (k : WW l w own cc nL R cs sl A Qf Ex tgt L st M) : WW l w own cc nL R cs sl A Qf Ex pc L st M := by
  intro p e s m args below meth c H locs ls hF hE hS hA hP hSS hM hL hst
  refine lv_goto hF.1 hF.2.1 hd ht ?_
  exact k p e s m args below meth c H locs ls hF hE hS hA hP hSS hM hL hst
theorem e_ifnull {o : Nat} {off : Int} (hd : decode cc pc = .ok (.ifnull off, 3))
    (k : WW l w own cc nL R cs sl A Qf Ex (pc + 3) L st M) : WW l w own cc nL R cs sl A Qf Ex pc L (vR o :: st) M := by
  intro p e s m args below meth c H locs ls hF hE hS hA hP hSS hM hL hst
  refine lv_ifnull hF.1 hF.2.1 hd ?_
  exact k p e s m args below meth c H locs ls hF hE hS hA hP hSS hM hL (fun v hv => hst v (List.mem_cons_of_mem _ hv))
theorem e_ifnonnull {o : Nat} {off : Int} {tgt : Nat} (hd : decode cc pc = .ok (.ifnonnull off, 3)) (ht : (pc : Int) + off = (tgt : Int))
    (k : WW l w own cc nL R cs sl A Qf Ex tgt L st M) : WW l w own cc nL R cs sl A Qf Ex pc L (vR o :: st) M := by
  intro p e s m args below meth c H locs ls hF hE hS hA hP hSS hM hL hst
  refine lv_ifnonnull hF.1 hF.2.1 hd ht ?_
  exact k p e s m args below meth c H locs ls hF hE hS hA hP hSS hM hL (fun v hv => hst v (List.mem_cons_of_mem _ hv))
theorem e_ifnullN {off : Int} {tgt : Nat} (hd : decode cc pc = .ok (.ifnull off, 3)) (ht : (pc : Int) + off = (tgt : Int))
    (k : WW l w own cc nL R cs sl A Qf Ex tgt L st M) : WW l w own cc nL R cs sl A Qf Ex pc L (vN :: st) M := by
  intro p e s m args below meth c H locs ls hF hE hS hA hP hSS hM hL hst
  refine lv_ifnullN hF.1 hF.2.1 hd ht ?_
  exact k p e s m args below meth c H locs ls hF hE hS hA hP hSS hM hL (fun v hv => hst v (List.mem_cons_of_mem _ hv))
theorem e_ifnonnullN {off : Int} (hd : decode cc pc = .ok (.ifnonnull off, 3))
    (k : WW l w own cc nL R cs sl A Qf Ex (pc + 3) L st M) : WW l w own cc nL R cs sl A Qf Ex pc L (vN :: st) M := by
  intro p e s m args below meth c H locs ls hF hE hS hA hP hSS hM hL hst
  refine lv_ifnonnullN hF.1 hF.2.1 hd ?_
  exact k p e s m args below meth c H locs ls hF hE hS hA hP hSS hM hL (fun v hv => hst v (List.mem_cons_of_mem _ hv))
theorem e_table {dflt lo hi x : Int} {offs : Array Int} {len tgt : Nat} (hd : decode cc pc = .ok (.tableswitch dflt lo hi offs, len)) (ht : (pc : Int) + dflt = (tgt : Int))
    (kin : lo ≤ x → x ≤ hi → ∃ (off : Int) (tg : Nat), offs[(x - lo).toNat]? = some off ∧ (pc : Int) + off = (tg : Int) ∧ WW l w own cc nL R cs sl A Qf Ex tg L st M) (kout : (x < lo ∨ hi < x) → WW l w own cc nL R cs sl A Qf Ex tgt L st M) : WW l w own cc nL R cs sl A Qf Ex pc L (vI x :: st) M := by
  intro p e s m args below meth c H locs ls hF hE hS hA hP hSS hM hL hst
  have hx : inR (vI x) := hst _ List.mem_cons_self
  by_cases h : x < lo ∨ hi < x
  · refine lv_tableOut hF.1 hF.2.1 hd (by rw [i32_to hx]; exact h) ht ?_
    exact kout h p e s m args below meth c H locs ls hF hE hS hA hP hSS hM hL (fun v hv => hst v (List.mem_cons_of_mem _ hv))
  · obtain ⟨off, tg, h1, h2, h3⟩ := kin (by omega) (by omega)
    refine lv_tableIn hF.1 hF.2.1 hd (by rw [i32_to hx]; omega) (by rw [i32_to hx]; omega) (by rw [i32_to hx]; exact h1) h2 ?_
    exact h3 p e s m args below meth c H locs ls hF hE hS hA hP hSS hM hL (fun v hv => hst v (List.mem_cons_of_mem _ hv))
end MACH
