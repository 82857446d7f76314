/-! MAKING: the cells from n1 on, in the order in which they are made -/
def CP (w : Wd) (n1 : Nat) (es : List va_E) (H : Heap) : Prop := H.size = n1 + es.length ∧ ∀ (j : Nat) (e : va_E), es[j]? = some e → va_at w.2.1 CL (n1 + j, e) H
def AOs (U : State) : Prop := va_AO "CandleEnds$Script" U ∧ (Cond.arrayOver (.array .int)).before #[] U = true
abbrev GE (n : Nat) : Nat → Prop := fun q => n ≤ q
def KS (w : Wd) (n0 : Nat) (s : State) (H : Heap) : Prop := St w (GE n0) s H ∧ AOs s
def CW (l : Launch) (w : Wd) (own : String) (cc : ByteArray) (nL : Nat) (R : Room) (n0 n1 : Nat) (Qf : List Frame → Array Value → State → State → Prop) (Ex : State → Array Value → Method → Prop) (cs sl pc : Nat) (lv : List (Nat × Value)) (st : List Value) (es : List va_E) : Prop :=
  ∀ (p : Program) (e : Env) (s : State) (m : MethodId) (args : Array Value) (below : List Frame) (meth : Method) (c : Code) (H : Heap) (locs : List Loc) (ls : Array Slot),
    Fx p s m args c own cc nL → Ex s args meth → KS w n0 s s.heap → n0 ≤ n1 → n1 ≤ s.heap.size → CP w n1 es H → va_S (GE n1) s.heap H locs → lv_has ls nL lv →
    W p l e R s m args below meth c H locs cs sl (Qf below args s) (F0 m pc ls st)
theorem CP.push {w : Wd} {n1 : Nat} {es : List va_E} {H H1 : Heap} {e : va_E} (h : CP w n1 es H) (z : H1.size = H.size + 1) (o : ∀ q, q < H.size → H1[q]? = H[q]?) (he : va_at w.2.1 CL (n1 + es.length, e) H1) : CP w n1 (es ++ [e]) H1 := by
  refine ⟨by rw [z, h.1, List.length_append]; rfl, fun j e1 hj => ?_⟩
  by_cases hl : j < es.length
  · rw [List.getElem?_append_left hl] at hj
    exact (h.2 j e1 hj).kept (o _ (by rw [h.1]; show n1 + j < _; omega))
  · rw [List.getElem?_append_right (by omega)] at hj
    have h0 : j - es.length < 1 := (List.getElem?_eq_some_iff.mp hj).1
    rw [show j - es.length = 0 by omega] at hj
    cases hj
    rw [show j = es.length by omega]
    exact he
theorem vaS_grow {A : Nat → Prop} {H0 H H1 : Heap} {locs : List Loc} (h : va_S A H0 H locs) (z : H.size ≤ H1.size) (o : ∀ q, q < H.size → H1[q]? = H[q]?) : va_S A H0 H1 locs :=
  ⟨Nat.le_trans h.1 z, fun q h1 h2 => (o q (Nat.lt_of_lt_of_le h1 h.1)).trans (h.2.1 q h1 h2), h.2.2⟩
section MAKE
variable {l : Launch} {w : Wd} {own : String} {cc : ByteArray} {nL : Nat} {R : Room} {n0 n1 : Nat} {Qf : List Frame → Array Value → State → State → Prop} {Ex : State → Array Value → Method → Prop} {cs sl pc : Nat} {lv : List (Nat × Value)} {st : List Value} {es : List va_E}
theorem c_aload {k : Fin 4} {i x : Nat} (q : Nat) (hd : decode cc pc = .ok (.aload_n k, 1)) (hi : (k : Nat) = i) (hq : lv[q]? = some (i, .ref x)) (kk : CW l w own cc nL R n0 n1 Qf Ex cs sl (pc + 1) lv (.ref x :: st) es) : CW l w own cc nL R n0 n1 Qf Ex cs sl pc lv st es := by
  intro p e s m args below meth c H locs ls hF hE hS h01 h1s hP hSS hL
  exact lv_aload_n hF.1 hF.2.1 hd hi (lv_at hL q hq) (kk p e s m args below meth c H locs ls hF hE hS h01 h1s hP hSS hL)
theorem c_iload {k : Fin 4} {i : Nat} {x : Int32} (q : Nat) (hd : decode cc pc = .ok (.iload_n k, 1)) (hi : (k : Nat) = i) (hq : lv[q]? = some (i, .int x)) (kk : CW l w own cc nL R n0 n1 Qf Ex cs sl (pc + 1) lv (.int x :: st) es) : CW l w own cc nL R n0 n1 Qf Ex cs sl pc lv st es := by
  intro p e s m args below meth c H locs ls hF hE hS h01 h1s hP hSS hL
  exact lv_iload_n hF.1 hF.2.1 hd hi (lv_at hL q hq) (kk p e s m args below meth c H locs ls hF hE hS h01 h1s hP hSS hL)
theorem c_iconst {n : Int} {v : Int32} (hd : decode cc pc = .ok (.iconst n, 1)) (hv : Int32.ofInt n = v) (kk : CW l w own cc nL R n0 n1 Qf Ex cs sl (pc + 1) lv (.int v :: st) es) : CW l w own cc nL R n0 n1 Qf Ex cs sl pc lv st es := by
  intro p e s m args below meth c H locs ls hF hE hS h01 h1s hP hSS hL
  exact lv_iconst hF.1 hF.2.1 hd hv (kk p e s m args below meth c H locs ls hF hE hS h01 h1s hP hSS hL)
theorem c_bipush {n : Int} {v : Int32} (hd : decode cc pc = .ok (.bipush n, 2)) (hv : (Int8.ofInt n).toInt32 = v) (kk : CW l w own cc nL R n0 n1 Qf Ex cs sl (pc + 2) lv (.int v :: st) es) : CW l w own cc nL R n0 n1 Qf Ex cs sl pc lv st es := by
  intro p e s m args below meth c H locs ls hF hE hS h01 h1s hP hSS hL
  exact lv_bipush hF.1 hF.2.1 hd hv (kk p e s m args below meth c H locs ls hF hE hS h01 h1s hP hSS hL)
theorem c_sipush {n : Int} {v : Int32} (hd : decode cc pc = .ok (.sipush n, 3)) (hv : (Int16.ofInt n).toInt32 = v) (kk : CW l w own cc nL R n0 n1 Qf Ex cs sl (pc + 3) lv (.int v :: st) es) : CW l w own cc nL R n0 n1 Qf Ex cs sl pc lv st es := by
  intro p e s m args below meth c H locs ls hF hE hS h01 h1s hP hSS hL
  exact lv_sipush hF.1 hF.2.1 hd hv (kk p e s m args below meth c H locs ls hF hE hS h01 h1s hP hSS hL)
theorem c_lconst {n : Fin 2} {v : Int64} (hd : decode cc pc = .ok (.lconst n, 1)) (hv : Int64.ofNat (n : Nat) = v) (kk : CW l w own cc nL R n0 n1 Qf Ex cs sl (pc + 1) lv (.long v :: st) es) : CW l w own cc nL R n0 n1 Qf Ex cs sl pc lv st es := by
  intro p e s m args below meth c H locs ls hF hE hS h01 h1s hP hSS hL
  exact lv_lconst hF.1 hF.2.1 hd hv (kk p e s m args below meth c H locs ls hF hE hS h01 h1s hP hSS hL)
theorem c_dup {a : Nat} (hd : decode cc pc = .ok (.dup, 1)) (kk : CW l w own cc nL R n0 n1 Qf Ex cs sl (pc + 1) lv (.ref a :: .ref a :: st) es) : CW l w own cc nL R n0 n1 Qf Ex cs sl pc lv (.ref a :: st) es := by
  intro p e s m args below meth c H locs ls hF hE hS h01 h1s hP hSS hL
  exact lv_dup hF.1 hF.2.1 hd rfl (kk p e s m args below meth c H locs ls hF hE hS h01 h1s hP hSS hL)
theorem c_goto {off : Int} {tgt : Nat} (hd : decode cc pc = .ok (.goto off, 3)) (ht : (pc : Int) + off = (tgt : Int)) (kk : CW l w own cc nL R n0 n1 Qf Ex cs sl tgt lv st es) : CW l w own cc nL R n0 n1 Qf Ex cs sl pc lv st es := by
  intro p e s m args below meth c H locs ls hF hE hS h01 h1s hP hSS hL
  exact lv_goto hF.1 hF.2.1 hd ht (kk p e s m args below meth c H locs ls hF hE hS h01 h1s hP hSS hL)
theorem c_geT {x y : Int32} {off : Int} {tgt : Nat} (hd : decode cc pc = .ok (.if_icmp .ge off, 3)) (ht : (pc : Int) + off = (tgt : Int)) (hx : y ≤ x) (kk : CW l w own cc nL R n0 n1 Qf Ex cs sl tgt lv st es) : CW l w own cc nL R n0 n1 Qf Ex cs sl pc lv (.int y :: .int x :: st) es := by
  intro p e s m args below meth c H locs ls hF hE hS h01 h1s hP hSS hL
  exact lv_icmp_ge hF.1 hF.2.1 hd ht (fun _ => kk p e s m args below meth c H locs ls hF hE hS h01 h1s hP hSS hL) (fun h => absurd hx h)
theorem c_geF {x y : Int32} {off : Int} {tgt : Nat} (hd : decode cc pc = .ok (.if_icmp .ge off, 3)) (ht : (pc : Int) + off = (tgt : Int)) (hx : ¬ y ≤ x) (kk : CW l w own cc nL R n0 n1 Qf Ex cs sl (pc + 3) lv st es) : CW l w own cc nL R n0 n1 Qf Ex cs sl pc lv (.int y :: .int x :: st) es := by
  intro p e s m args below meth c H locs ls hF hE hS h01 h1s hP hSS hL
  exact lv_icmp_ge hF.1 hF.2.1 hd ht (fun h => absurd h hx) (fun _ => kk p e s m args below meth c H locs ls hF hE hS h01 h1s hP hSS hL)
theorem c_istore {k : Fin 4} {i : Nat} {x : Int32} {lv' : List (Nat × Value)} (hd : decode cc pc = .ok (.istore_n k, 1)) (hi : (k : Nat) = i) (hn : i < nL) (hl : (i, Value.int x) :: lv.filter (fun q => !(q.1 == i) && !(q.1 + 1 == i && q.2.category == 2)) = lv') (kk : CW l w own cc nL R n0 n1 Qf Ex cs sl (pc + 1) lv' st es) : CW l w own cc nL R n0 n1 Qf Ex cs sl pc lv (.int x :: st) es := by
  intro p e s m args below meth c H locs ls hF hE hS h01 h1s hP hSS hL
  exact lv_istore_n hF.1 hF.2.1 hd hi hL hn hl (fun ls' h => kk p e s m args below meth c H locs ls' hF hE hS h01 h1s hP hSS h)
theorem c_astore {k : Fin 4} {i : Nat} {x : Nat} {lv' : List (Nat × Value)} (hd : decode cc pc = .ok (.astore_n k, 1)) (hi : (k : Nat) = i) (hn : i < nL) (hl : (i, Value.ref x) :: lv.filter (fun q => !(q.1 == i) && !(q.1 + 1 == i && q.2.category == 2)) = lv') (kk : CW l w own cc nL R n0 n1 Qf Ex cs sl (pc + 1) lv' st es) : CW l w own cc nL R n0 n1 Qf Ex cs sl pc lv (.ref x :: st) es := by
  intro p e s m args below meth c H locs ls hF hE hS h01 h1s hP hSS hL
  exact lv_astore_n hF.1 hF.2.1 hd hi hL hn hl (fun ls' h => kk p e s m args below meth c H locs ls' hF hE hS h01 h1s hP hSS h)
theorem c_iinc {i : Nat} {n : Int} {x v : Int32} {lv' : List (Nat × Value)} (k : Nat) (hd : decode cc pc = .ok (.iinc i n, 3)) (hk : lv[k]? = some (i, .int x)) (hv : x + Int32.ofInt n = v) (hn : i < nL) (hl : (i, Value.int v) :: lv.filter (fun q => !(q.1 == i) && !(q.1 + 1 == i && q.2.category == 2)) = lv') (kk : CW l w own cc nL R n0 n1 Qf Ex cs sl (pc + 3) lv' st es) : CW l w own cc nL R n0 n1 Qf Ex cs sl pc lv st es := by
  intro p e s m args below meth c H locs ls hF hE hS h01 h1s hP hSS hL
  exact lv_iinc hF.1 hF.2.1 hd hL hk hv hn hl (fun ls' h => kk p e s m args below meth c H locs ls' hF hE hS h01 h1s hP hSS h)
theorem c_obj {i a : Nat} (hlk : Cond.methodLink own i objectInit ∈ TBL) (hin : Cond.instanceMethod objectInit ∈ TBL) (hco : Cond.code objectInit ⟨#[0xb1]⟩ 1 none ∈ TBL) (hfr : 1 ≤ R.frames) (hlo : 12 ≤ R.locals) (hd : decode cc pc = .ok (.invokespecial i, 3)) (kk : CW l w own cc nL R n0 n1 Qf Ex cs sl (pc + 3) lv [] es) : CW l w own cc nL R n0 n1 Qf Ex cs sl pc lv [.ref a] es := by
  intro p e s m args below meth c H locs ls hF hE hS h01 h1s hP hSS hL
  exact W.objInit hF.1 hF.2.1 hF.2.2.2.1 (hF.2.2.2.2 _ hlk) (hF.2.2.2.2 _ hin) (hF.2.2.2.2 _ hco) rfl (by rw [hF.2.2.1]; exact hL.1) rfl hd hfr hlo (kk p e s m args below meth c H locs ls hF hE hS h01 h1s hP hSS hL)
theorem c_newa {at' : ArrayType} {cs' sl' : Nat} (t : Nat) {n : Int32} {N k : Nat} {a0 : vp_A} (ht : (tys w)[t]? = some (w.2.2 t, newarray.typeOf at')) (harr : Cond.arrayClass (newarray.typeOf at') ∈ TBL) (ha : ∀ cA : ClassId, vp_cell cA a0 = arrV cA N (fun _ => defaultValue (newarray.typeOf at'))) (hn : ¬ n < 0) (hN : n.toNatClampNeg = N) (hby : N * componentBytes (newarray.typeOf at') ≤ 536870912)
    (hc : cs + 1 = cs') (hc2 : cs' ≤ R.cells) (hs : sl + N = sl') (hs2 : sl' ≤ R.slots) (hk : es.length = k) (hd : decode cc pc = .ok (.newarray at', 2)) (kk : CW l w own cc nL R n0 n1 Qf Ex cs' sl' (pc + 2) lv (.ref (n1 + k) :: st) (es ++ [.inl (w.2.2 t, a0)])) : CW l w own cc nL R n0 n1 Qf Ex cs sl pc lv (.int n :: st) es := by
  intro p e s m args below meth c H locs ls hF hE hS h01 h1s hP hSS hL
  subst hc; subst hs; subst hk
  refine va_newaK hF.1 hF.2.1 (hF.2.2.2.2 _ harr) rfl hd rfl hn hN hby hc2 hs2 hP.1 fun H' cA e1 z1 o1 hAr hNm => ?_
  have hcA : cA = w.2.2 t := by
    have h := (hS.1.2.1.2 t _ ht).2
    have h2 : s.vm.findClass ("[" ++ (newarray.typeOf at').toString) = some (w.2.2 t) := by cases at' <;> exact h
    exact Option.some.inj (hNm.symm.trans h2)
  subst hcA
  have o2 : ∀ q, q < H.size → H'[q]? = H[q]? := fun q hq => o1 q (by rw [← hP.1]; exact hq)
  have z2 : H'.size = H.size + 1 := by rw [z1, hP.1]
  refine kk p e s m args below meth c H' locs ls hF hE hS h01 h1s (hP.push z2 o2 ?_) (vaS_grow hSS (by omega) o2) hL
  show H'[n1 + es.length]? = some (vp_cell _ _)
  rw [ha]
  exact e1
theorem c_new {i ci N k cs' sl' : Nat} {C : String} {T : u_T} {fs : List Value} (ty : Nat → FieldType) (hc0 : CL[ci]? = some (C, T, N)) (hty : ∀ k, k < N → parseFieldDescriptor (T k).2.2.1 = some (ty k)) (hlk : Cond.classLink own i C ∈ TBL) (hins : Cond.instantiable C N ∈ TBL) (hini : Cond.initialized C ∈ TBL) (hfs : ∀ j, j < N → defaultValue (ty j) = vp_V fs j)
    (hc : cs + 1 = cs') (hc2 : cs' ≤ R.cells) (hs : sl + N = sl') (hs2 : sl' ≤ R.slots) (hk : es.length = k) (hd : decode cc pc = .ok (.new i, 3)) (kk : CW l w own cc nL R n0 n1 Qf Ex cs' sl' (pc + 3) lv (.ref (n1 + k) :: st) (es ++ [.inr (ci, fs)])) : CW l w own cc nL R n0 n1 Qf Ex cs sl pc lv st es := by
  intro p e s m args below meth c H locs ls hF hE hS h01 h1s hP hSS hL
  subst hc; subst hs; subst hk
  have hKn := hS.1.2.1.1 ci _ hc0
  refine W.newcK hF.1 hF.2.1 hF.2.2.2.1 (hF.2.2.2.2 _ hlk) (hF.2.2.2.2 _ hins) (hF.2.2.2.2 _ hini) rfl hd hc2 hs2 hKn.2.1 hP.1 fun H1 kC hkC e1 z1 o1 => ?_
  have o2 : ∀ q, q < H.size → H1[q]? = H[q]? := fun q hq => o1 q (by rw [← hP.1]; exact hq)
  have z2 : H1.size = H.size + 1 := by rw [z1, hP.1]
  exact kk p e s m args below meth c H1 locs ls hF hE hS h01 h1s (hP.push z2 o2 ⟨_, hc0, (u_born ty hF.2.2.2.2 (CLok hc0).1 hKn hkC e1 hty).to hfs⟩) (vaS_grow hSS (by omega) o2) hL
theorem c_put {i ci N k : Nat} {C : String} {T : u_T} {fs fs' : List Value} {Tl : List va_E} {ty : FieldType} {v : Value} (hc0 : CL[ci]? = some (C, T, N)) (hlk : Cond.fieldLink own i C (T k).2.1 (T k).2.2.1 ∈ TBL) (hkN : k < N) (hC : (T k).1 = C ∧ C = own) (hd0 : parseFieldDescriptor (T k).2.2.1 = some ty) (hn : narrow ty v = v) (hfit : fits ty v = true) (hk9 : k < fs.length) (hs : fs.set k v = fs') (hnm : ∀ s args meth, Ex s args meth → meth.name = "<init>")
    (hd : decode cc pc = .ok (.putfield i, 3)) (kk : CW l w own cc nL R n0 n1 Qf Ex cs sl (pc + 3) lv st (.inr (ci, fs') :: Tl)) : CW l w own cc nL R n0 n1 Qf Ex cs sl pc lv (v :: .ref n1 :: st) (.inr (ci, fs) :: Tl) := by
  intro p e s m args below meth c H locs ls hF hE hS h01 h1s hP hSS hL
  subst hs
  obtain ⟨hin, ty0, hty, hnm2⟩ := CLok hc0
  have hts := hF.2.2.2.2
  have hK := hS.1.2.1
  have hap := va_apart (own := own) hts hin ty0 hty hnm2 hK hc0
  obtain ⟨r, h1, cell, q1, q2, q3, q4⟩ := hP.2 0 _ rfl
  have hr : r = (C, T, N) := Option.some.inj (h1.symm.trans hc0)
  subst hr
  obtain ⟨hSl, hfc, kC, hkC, hkind⟩ := hK.1 ci _ hc0
  obtain ⟨cf, kf, fi, f, hi, hsl⟩ := hSl k hkN
  have hlay := hts _ (hin _ (u_in_lay hkN))
  have hsame : s.fieldFound? C (T k).2.1 (T k).2.2.1 = some (cf, kf, fi, f) := by rw [hC.1] at hi; exact hi
  have hst := (u_facts hfc hkC (u_lays hts hin hkN) hi).1
  have fin : ∀ (H' : Heap), H'[n1]? = some (cell.setSlot f.slot v) → H'.size = H.size → (∀ q, q ≠ n1 → H'[q]? = H[q]?) → W p l e R s m args below meth c H' (locs ++ [⟨n1, f.slot⟩]) cs sl (Qf below args s) (F0 m (pc + 3) ls st) := fun H' e1 e2 e3 => by
    rw [hsl] at e1 ⊢
    refine kk p e s m args below meth c H' _ ls hF hE hS h01 h1s ⟨by rw [e2]; exact hP.1, fun j e9 hj => ?_⟩ (hSS.put e2 e3 (Nat.le_refl n1)) hL
    cases j with
    | zero =>
      cases hj
      exact ⟨_, hc0, t_OB.to (V := updV (vp_V fs) k v) ⟨_, e1, q2, q3, t_set q4 hap hkN v⟩ (fun j _ => vp_updV_set hk9 v j)⟩
    | succ j => exact (hP.2 (j + 1) e9 hj).kept (e3 _ (by show n1 + (j + 1) ≠ n1; omega))
  unfold u_lay at hlay
  by_cases hfin : (T k).2.2.2 = true
  · rw [if_pos hfin] at hlay
    have hcf : m.cls = cf := by
      obtain ⟨_, _, c', _, _, _, -, -, hf', -, -, -, hown2, -⟩ := Cond.laysFinal_spec hlay
      have e1 : c' = cf := by have := hi.symm.trans hf'; simp at this; exact this.1.symm
      rw [hC.1, hC.2] at hown2
      rw [← e1]; exact Option.some.inj (hF.2.2.2.1.symm.trans hown2)
    have h6 := u_fits hfc hkC hkind (Or.inr hlay) hi hd0 hn hfit
    exact W.putFinK hF.1 hF.2.1 hF.2.2.2.1 (hts _ hlk) hsame hst hcf (hnm _ _ _ hE) (by rw [q2]; exact h6) q1 q3 (by rw [hsl]; exact k2_hasslot (q4 k hkN)) rfl rfl hd fin
  · rw [if_neg hfin] at hlay
    have h6 := u_store hfc hkC hkind hlay hi hd0 hn hfit
    exact W.putK hF.1 hF.2.1 (f := f) ⟨hF.2.2.2.1, hts _ hlk, ⟨_, _, _, hsame⟩, hst⟩ (by rw [q2]; exact h6) q1 q3 (by rw [hsl]; exact k2_hasslot (q4 k hkN)) rfl rfl hd fin
theorem c_get {i ci N k : Nat} {C : String} {T : u_T} {fs : List Value} {Tl : List va_E} {v : Value} (hc0 : CL[ci]? = some (C, T, N)) (hlk : Cond.fieldLink own i C (T k).2.1 (T k).2.2.1 ∈ TBL) (hkN : k < N) (hC : (T k).1 = C) (hv : fs[k]? = some v)
    (hd : decode cc pc = .ok (.getfield i, 3)) (kk : CW l w own cc nL R n0 n1 Qf Ex cs sl (pc + 3) lv (v :: st) (.inr (ci, fs) :: Tl)) : CW l w own cc nL R n0 n1 Qf Ex cs sl pc lv (.ref n1 :: st) (.inr (ci, fs) :: Tl) := by
  intro p e s m args below meth c H locs ls hF hE hS h01 h1s hP hSS hL
  have hP1 : va_P w.2.1 CL [(n1, .inr (ci, fs))] H := fun k9 q hq => by
    have h0 : k9 < 1 := (List.getElem?_eq_some_iff.mp hq).1
    rw [show k9 = 0 by omega] at hq
    cases hq
    exact hP.2 0 _ rfl
  exact va_get hF.1 hF.2.1 hF.2.2.2.2 (CLok hc0).1 hF.2.2.2.1 hS.1.2.1 hP1 0 rfl hc0 k hkN (hF.2.2.2.2 _ hlk) (fun x q => by rw [hC] at q; exact q) hv hd (kk p e s m args below meth c H locs ls hF hE hS h01 h1s hP hSS hL)
theorem c_anew {i cs' sl' k N : Nat} {n : Int32} (hlk : Cond.classLink own i "CandleEnds$Script" ∈ TBL) (hn : ¬ n < 0) (hN : n.toNatClampNeg = N) (hby : N * 4 ≤ 536870912)
    (hc : cs + 1 = cs') (hc2 : cs' ≤ R.cells) (hs : sl + N = sl') (hs2 : sl' ≤ R.slots) (hk : es.length = k) (hd : decode cc pc = .ok (.anewarray i, 3)) (kk : CW l w own cc nL R n0 n1 Qf Ex cs' sl' (pc + 3) lv (.ref (n1 + k) :: st) (es ++ [.inl (w.2.2 4, N, .inr (.inr (.inr (.inr (fun _ => none)))))])) : CW l w own cc nL R n0 n1 Qf Ex cs sl pc lv (.int n :: st) es := by
  intro p e s m args below meth c H locs ls hF hE hS h01 h1s hP hSS hL
  subst hc; subst hs; subst hk; subst hN
  refine W.anew hF.1 hF.2.1 hF.2.2.2.1 (hF.2.2.2.2 _ hlk) (va_AO.use hS.2.1) rfl hd rfl hn hby hc2 hs2 fun cA kA comp f1 f2 f3 f4 => ?_
  obtain ⟨kA2, comp2, g1, g2, g3, g4⟩ := (hS.1.2.1.2 4 _ rfl).2
  have hcA : cA = w.2.2 4 := Option.some.inj (f1.symm.trans g4)
  subst hcA
  generalize hH1 : H.push ({ cls := w.2.2 4, slots := Array.replicate n.toNatClampNeg .null, vm := .none } : Cell) = H1
  have z1 : H1.size = H.size + 1 := by rw [← hH1, Array.size_push]
  have e1 : H1[H.size]? = some (arrV (w.2.2 4) n.toNatClampNeg (fun _ => .null)) := by rw [← hH1, Array.getElem?_push_size, ← arrV_new]
  have o1 : ∀ q : Nat, q < H.size → H1[q]? = H[q]? := fun q hq => by rw [← hH1, Array.getElem?_push, if_neg (Nat.ne_of_lt hq)]
  rw [hP.1] at e1
  have := kk p e s m args below meth c H1 locs ls hF hE hS h01 h1s (hP.push z1 o1 (by show H1[n1 + es.length]? = some (vp_cell _ _); rw [e1, vp_cell_q]; rfl)) (vaS_grow hSS (by omega) o1) hL
  rw [hP.1]
  exact this
theorem c_alen {t j N : Nat} {v : Int32} {x : vp_A} {ty : FieldType} (hj : es[j]? = some (.inl (w.2.2 t, x))) (ht : (tys w)[t]? = some (w.2.2 t, ty)) (hv : Int32.ofNat x.1 = v) (hd : decode cc pc = .ok (.arraylength, 1)) (kk : CW l w own cc nL R n0 n1 Qf Ex cs sl (pc + 1) lv (.int v :: st) es) : CW l w own cc nL R n0 n1 Qf Ex cs sl pc lv (.ref (n1 + j) :: st) es := by
  intro p e s m args below meth c H locs ls hF hE hS h01 h1s hP hSS hL
  have hP1 : va_P w.2.1 CL [(n1 + j, .inl (w.2.2 t, x))] H := fun k9 q hq => by
    have h0 : k9 < 1 := (List.getElem?_eq_some_iff.mp hq).1
    rw [show k9 = 0 by omega] at hq
    cases hq
    exact hP.2 j _ hj
  exact va_alen hF.1 hF.2.1 hS.1.2.1 hP1 0 t rfl ht hv hd (kk p e s m args below meth c H locs ls hF hE hS h01 h1s hP hSS hL)
theorem c_aast {j q N ci : Nat} {i : Int32} {es' : List va_E} {f f' : Nat → Option Nat} {vs : List Value} {T : u_T} (hj : es[j]? = some (.inl (w.2.2 4, N, .inr (.inr (.inr (.inr f)))))) (hq : es[q]? = some (.inr (ci, vs))) (hc0 : CL[ci]? = some ("CandleEnds$Script", T, 7)) (hin : vp_in i N) (hf : va_up f i.toNatClampNeg (some (n1 + q)) = f') (hes : es.set j (.inl (w.2.2 4, N, .inr (.inr (.inr (.inr f'))))) = es')
    (hd : decode cc pc = .ok (.aastore, 1)) (kk : CW l w own cc nL R n0 n1 Qf Ex cs sl (pc + 1) lv st es') : CW l w own cc nL R n0 n1 Qf Ex cs sl pc lv (.ref (n1 + q) :: .int i :: .ref (n1 + j) :: st) es := by
  intro p e s m args below meth c H locs ls hF hE hS h01 h1s hP hSS hL
  subst hes; subst hf
  have hlt : i.toNatClampNeg < N := Nat.not_le.mp fun q => hin (Or.inr q)
  have h0 : ¬ i < 0 := fun q => hin (Or.inl q)
  obtain ⟨r', hr', cellV, g1, g2, g3, -⟩ := hP.2 q _ hq
  have hK := hS.1.2.1
  have hcls := (hK.1 ci _ hc0).2
  obtain ⟨kA, comp, k1, k2, k3, -⟩ := (hK.2 4 _ rfl).2
  have hcomp : comp = w.2.1.1 ci := Option.some.inj (k3.symm.trans hcls.1)
  subst hcomp
  obtain ⟨kC, hkC, -⟩ := hcls.2
  have hcell : H[n1 + j]? = some (vp_cell (w.2.2 4) (N, .inr (.inr (.inr (.inr f))))) := hP.2 j _ hj
  refine W.aast hF.1 hF.2.1 hcell (fun q h => by cases h) (fun h => by cases h) k1 k2 rfl hkC ⟨h0, by show _ < (arrV _ _ _).slots.size; rw [arrV_size]; exact hlt⟩ g1 (fun q h => by rw [g3] at h; cases h) (by rw [g2]; exact hkC) (by rw [g2]; exact va_assign hcls) rfl rfl hd fun H1 e1 z1 oq => ?_
  have hjl : j < es.length := (List.getElem?_eq_some_iff.mp hj).1
  refine kk p e s m args below meth c H1 _ ls hF hE hS h01 h1s ⟨by rw [z1, List.length_set]; exact hP.1, fun j9 e9 h9 => ?_⟩ (hSS.put z1 oq (Nat.le_add_right _ _)) hL
  rw [List.getElem?_set] at h9
  by_cases hjj : j = j9
  · subst hjj
    rw [if_pos rfl, if_pos hjl] at h9
    cases h9
    show H1[n1 + j]? = some (vp_cell _ _)
    rw [e1]
    rw [vp_cell_q, vp_cell_q, arrV_store]
    congr 2
    funext q
    by_cases hq : q = i.toNatClampNeg
    · subst hq
      simp [updV, va_up, va_rf]
    · simp [updV, va_up, hq]
  · rw [if_neg hjj] at h9
    exact (hP.2 j9 e9 h9).kept (oq _ (by show n1 + j9 ≠ n1 + j; omega))
theorem CW.cv {es' : List va_E} (h : es = es') (kk : CW l w own cc nL R n0 n1 Qf Ex cs sl pc lv st es') : CW l w own cc nL R n0 n1 Qf Ex cs sl pc lv st es := by subst h; exact kk
end MAKE
def MCq (w : Wd) (n1 : Nat) (es : List va_E) : Array Value → State → Outcome → State → Prop := fun _ st o t => o = .returned none ∧ CP w n1 es t.heap ∧ va_F (GE n1) st t
/-- A CONSTRUCTOR'S CONTRACT: called on the cell n1 it makes of the cells es from n1 on the cells es' -/
def MC (l : Launch) (w : Wd) (y : MethodName) (bytes : ByteArray) (maxL : Nat) (rm : Room) (n0 n1 : Nat) (as : List Value) (es es' : List va_E) : Prop :=
  Met l y (.code y bytes maxL none :: TBL) rm (va_Pc (.ref n1 :: as) (fun U => KS w n0 U U.heap ∧ n0 ≤ n1 ∧ CP w n1 es U.heap)) (MCq w n1 es') rm.cells rm.slots (GE n1)
abbrev XI : State → Array Value → Method → Prop := fun _ _ meth => meth.sig.returnType = none ∧ meth.locks = false ∧ meth.name = "<init>"
theorem aoA_moved {u U : State} (hvm : u.vm.Alike U.vm) (h : (Cond.arrayOver (.array .int)).before #[] u = true) : (Cond.arrayOver (.array .int)).before #[] U = true := by
  obtain ⟨comp, c, k, h1, h2, h3, h4, h5⟩ := arrayOverA_spec h
  obtain ⟨k', hk', he⟩ := hvm.2.2 _ _ h3
  have hi : (U.vm.classes.findIdx? fun (x : Class) => match x.kind with | .array component _ => component == comp | _ => false) = some c := by
    rw [hvm.findIdx?_eq _ (fun _ => rfl)]
    exact h2
  have hkind : k'.kind = .array comp (.array .int) := by rw [he]; exact h4
  have f1 : U.vm.findClass (FieldType.array .int).toString = some comp := by rw [hvm.findClass]; exact h1
  have f2 : U.vm.findClass ("[" ++ (FieldType.array .int).toString) = some c := by rw [hvm.findClass]; exact h5
  unfold Cond.before Cond.holds
  simp only [Cond.value]
  rw [f1, Option.bind_some]
  refine (congrArg (fun o : Option Nat => (o.bind (fun c => (U.vm.classes[c]?).map fun (k : Class) => match k.kind with | .array _ ty => decide (ty = FieldType.array .int) && decide (U.vm.findClass ("[" ++ (FieldType.array .int).toString) = some c) | _ => false) == some true)) hi).trans ?_
  simp [hk', hkind, f2]
theorem KS.same {w : Wd} {n0 : Nat} {s U : State} {H : Heap} (hv : U.vm = s.vm) (h : KS w n0 s H) : KS w n0 U H := ⟨h.1.same hv, va_AO.moved (by rw [hv]; exact Vm.Alike.refl _) h.2.1, aoA_moved (by rw [hv]; exact Vm.Alike.refl _) h.2.2⟩
theorem MC.of {l : Launch} {w : Wd} {y : MethodName} {bytes : ByteArray} {maxL : Nat} {rm : Room} {n0 n1 : Nat} {as : List Value} {es es' : List va_E} {own : String} (lv : List (Nat × Value))
    (hy : plainName y.cls = true ∧ y.cls = own ∧ y.name = "<init>") (hlv : lv_args 0 (.ref n1 :: as) = lv) (hl : (lg_sl (.ref n1 :: as)).length ≤ maxL)
    (h : CW l w own bytes maxL rm n0 n1 (fun below args s => MQ below (MCq w n1 es') args s rm.cells rm.slots (GE n1)) XI 0 0 0 lv [] es) : MC l w y bytes maxL rm n0 n1 as es es' := by
  obtain ⟨hy, rfl, hy2⟩ := hy
  subst hlv
  refine Met.ofW (cc := bytes) (maxL := maxL) (ret := none) hy rfl ?_
  intro p e s m args below meth c s₁ B hml hv
  obtain ⟨rfl, hS, h01, hP⟩ := hv
  have hts := atoms_spec (ws := .code y bytes maxL none :: TBL) B.pre
  have hown : s.vm.findClass y.cls = some m.cls := findClass_of_methodNamed B.named
  have hin : meth.name = "<init>" := (name_of_methodNamed B.named B.method).1.trans hy2
  have hlv := lv_entry (.ref n1 :: as) (n := maxL) hl
  rw [lg_entry_eq]
  exact h p e s m _ below meth c s.heap [] _ ⟨B.exec, B.bytes, hml, hown, fun x hx => hts x (List.mem_cons_of_mem _ hx)⟩ ⟨B.returns, B.notSynchronized, hin⟩ hS h01 (by rw [hP.1]; omega) hP va_S.rf hlv
section MAKE2
variable {l : Launch} {w : Wd} {own : String} {cc : ByteArray} {nL : Nat} {R : Room} {n0 n1 : Nat} {Qf : List Frame → Array Value → State → State → Prop} {Ex : State → Array Value → Method → Prop} {cs sl pc : Nat} {lv : List (Nat × Value)} {st : List Value} {es : List va_E}
theorem c_ret {es' : List va_E} {mc ms : Nat} (hc : cs = mc) (hs : sl = ms) (he : es = es') (hd : decode cc pc = .ok (.return_, 1)) : CW l w own cc nL R n0 n1 (fun below args s => MQ below (MCq w n1 es') args s mc ms (GE n1)) XI cs sl pc lv [] es := by
  intro p e s m args below meth c H locs ls hF hE hS h01 h1s hP hSS hL
  subst hc; subst hs; subst he
  exact W.vret hF.1 hF.2.1 hE.1 (fun t ht _ => ⟨rfl, by rw [ht]; exact hP, hSS.F ht⟩) hSS.2.2 hd hE.2.1
theorem KS.at {s U : State} {H : Heap} {locs : List Loc} (hS : KS w n0 s s.heap) (h01 : n0 ≤ n1) (hSS : va_S (GE n1) s.heap H locs) (hU : U.heap = H) (hW : s.WarmedH U.vm) : KS w n0 U U.heap := by
  rw [hU]
  refine ⟨(hS.1.heap (fun a h1 h2 => hSS.2.1 a h1 (fun h => h2 (Nat.le_trans h01 h)))).warm hW, va_AO.moved hW.alike hS.2.1, ?_⟩
  exact aoA_moved hW.alike hS.2.2
theorem c_init {y : MethodName} {bytes : ByteArray} {maxL n i k cs' sl' : Nat} {rm : Room} {as st0 : List Value} {pre es0 es1 : List va_E}
    (hM : MC l w y bytes maxL rm n0 (n1 + k) as es0 es1) (hY : CY y bytes maxL none n) (hin : Cond.instanceMethod y ∈ TBL) (hy1 : y.name = "<init>") (hlk : Cond.methodLink own i y ∈ TBL ∨ Cond.methodLinkNest own i y "CandleEnds" ∈ NW) (hn : as.length = n) (hs0 : st0 = as.reverse ++ .ref (n1 + k) :: st) (hk : pre.length = k) (hR : rm.frames + 1 ≤ R.frames ∧ 8 + (maxL + 11) + rm.locals ≤ R.locals)
    (hc : cs + rm.cells = cs') (hc2 : cs' ≤ R.cells) (hs : sl + rm.slots = sl') (hs2 : sl' ≤ R.slots) (hwt : (st.map fun v => v.category).sum ≤ 8) (hd : decode cc pc = .ok (.invokespecial i, 3)) (he : es = pre ++ es0)
    (kk : CW l w own cc nL R n0 n1 Qf Ex cs' sl' (pc + 3) lv st (pre ++ es1)) : CW l w own cc nL R n0 n1 Qf Ex cs sl pc lv st0 es := by
  intro p e s m args below meth c H locs ls hF hE hS h01 h1s hP hSS hL
  subst hc; subst hs; subst hs0; subst he; subst hk
  have hts := hF.2.2.2.2
  have hP0 : CP w (n1 + pre.length) es0 H := ⟨by rw [hP.1, List.length_append]; omega, fun j e9 hj => by
    have := hP.2 (pre.length + j) e9 (by rw [List.getElem?_append_right (by omega)]; rw [show pre.length + j - pre.length = j by omega]; exact hj)
    rw [← Nat.add_assoc] at this
    exact this⟩
  have hpre : PreS s H (va_Pc (.ref (n1 + pre.length) :: as) (fun U => KS w n0 U U.heap ∧ n0 ≤ n1 + pre.length ∧ CP w (n1 + pre.length) es0 U.heap)) (.ref (n1 + pre.length) :: as) := ⟨fun a U g mk q => ⟨q.1, KS.same (s := U) (U := U.calling g mk a) rfl q.2.1, q.2.2.1, q.2.2.2⟩, fun U hU hW => ⟨rfl, hS.at h01 hSS hU hW, Nat.le_trans h01 (Nat.le_add_right _ _), by rw [hU]; exact hP0⟩⟩
  have hrun : va_Run p l e R s m args below meth c H locs cs sl rm.cells rm.slots (F0 m pc ls (as.reverse ++ .ref (n1 + pre.length) :: st)) st (MCq w (n1 + pre.length) es1 (Value.ref (n1 + pre.length) :: as).toArray) (GE (n1 + pre.length)) := by
    rcases hlk with hlk | hlk
    · exact va_runI (cells := cs) (slots := sl) (H := H) (As := as) (b := n1 + pre.length) (rest := st) (g := F0 m pc ls (as.reverse ++ .ref (n1 + pre.length) :: st)) (p := p) (e := e) (below := below) (meth := meth) (locs := locs) (R := R) ⟨hF.1, hF.2.1, hF.2.2.1, hF.2.2.2.1, hts⟩ hM ⟨callB_of n hts (TBL_goodIn hY.1) rfl rfl rfl (hts _ hY.2.1) (hts _ hlk) hY.2.2 hR, hy1, hts _ hin⟩ hpre rfl hn hL.1 rfl (by show 2 * 0 + _ ≤ 8; omega) hd ⟨hc2, hs2⟩
    · exact va_runIN (cells := cs) (slots := sl) (H := H) (As := as) (b := n1 + pre.length) (rest := st) (g := F0 m pc ls (as.reverse ++ .ref (n1 + pre.length) :: st)) (p := p) (e := e) (below := below) (meth := meth) (locs := locs) (R := R) ⟨hF.1, hF.2.1, hF.2.2.1, hF.2.2.2.1, hts⟩ hM ⟨va_cnB n hts (TBL_goodIn hY.1) rfl rfl rfl (hS.1.2.2.1 _ hlk) (hts _ hY.2.1) hY.2.2 hR, hy1, hts _ hin⟩ hpre rfl hn hL.1 rfl (by show 2 * 0 + _ ≤ 8; omega) hd ⟨hc2, hs2⟩
  intro T hT X
  obtain ⟨v, st₀, t, T', Ls, h0, X', hLl, e1, e2, ⟨hv, hP', hz, hk'⟩, stp⟩ := hrun T hT X
  cases hv
  rw [h0] at hz hk'
  have hS1 : va_S (GE n1) s.heap T'.heap (locs ++ Ls) := ⟨Nat.le_trans hSS.1 (by rw [e1]; exact hz), fun q h1 h2 => by rw [e1, hk' q (Nat.lt_of_lt_of_le h1 hSS.1) (fun z => h2 (Nat.le_trans (Nat.le_add_right _ _) z))]; exact hSS.2.1 q h1 h2, fun q hq => by
      rcases List.mem_append.mp hq with h | h
      · exact hSS.2.2 q h
      · exact Nat.le_trans (Nat.le_add_right _ _) (hLl q h)⟩
  have hP1 : CP w n1 (pre ++ es1) T'.heap := ⟨by rw [e1, hP'.1, List.length_append]; omega, fun j e9 hj => by
    by_cases hl : j < pre.length
    · rw [List.getElem?_append_left hl] at hj
      refine (hP.2 j e9 (by rw [List.getElem?_append_left hl]; exact hj)).kept ?_
      rw [e1]
      refine hk' _ ?_ (fun z => ?_)
      · rw [hP.1, List.length_append]; show n1 + j < _; omega
      · have z : n1 + pre.length ≤ n1 + j := z
        omega
    · rw [List.getElem?_append_right (by omega)] at hj
      have := hP'.2 _ e9 hj
      rw [show n1 + pre.length + (j - pre.length) = n1 + j by omega] at this
      rw [e1]
      exact this⟩
  obtain ⟨t2, a1, b1⟩ := kk p e s m args below meth c T'.heap (locs ++ Ls) ls hF hE hS h01 h1s hP1 hS1 hL T' rfl X'
  exact ⟨t2, stp t2 a1, b1⟩
end MAKE2
