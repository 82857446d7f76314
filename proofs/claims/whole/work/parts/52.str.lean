/-! STRINGS: the eighteen constants, number strB + k; their bytes, number strB + 18 + k -/
section STR
variable {l : Launch} {w : Wd} {own : String} {cc : ByteArray} {nL : Nat} {R : Room} {cs sl : Nat} {A : State → Nat → Prop} {Qf : List Frame → Array Value → State → State → Prop} {Ex : State → Array Value → Method → Prop} {pc : Nat} {L : List (Option MV)} {st : List MV} {M : Mem}
theorem i32_b (y : Int32) : Int32.ofInt y.toInt = y := Int32.ofInt_toInt y
theorem e_strV {k i : Nat} (hk : k < 18) (hlk : Cond.fieldLink own i "java/lang/String" "value" "[B" ∈ TBL) (hd : decode cc pc = .ok (.getfield i, 3))
    (kk : WW l w own cc nL R cs sl A Qf Ex (pc + 3) L (vR (strB + 18 + k) :: st) M) : WW l w own cc nL R cs sl A Qf Ex pc L (vR (strB + k) :: st) M := by
  intro p e s m args below meth c H locs ls hF hE hS hA hP hSS hM hL hst
  refine vk_getf hF.1 hF.2.1 (hS.2.2.2.2.1.1 k hk).2.2.1 hSS hF.2.2.2.1 (hF.2.2.2.2 _ hlk) (fun x h => h) hd ?_
  exact kk p e s m args below meth c H locs ls hF hE hS hA hP hSS hM hL (List.forall_mem_cons.mpr ⟨trivial, fun v hv => hst v (List.mem_cons_of_mem _ hv)⟩)
theorem e_strC {k i : Nat} (hk : k < 18) (hlk : Cond.fieldLink own i "java/lang/String" "coder" "B" ∈ TBL) (hd : decode cc pc = .ok (.getfield i, 3))
    (kk : WW l w own cc nL R cs sl A Qf Ex (pc + 3) L (vI 0 :: st) M) : WW l w own cc nL R cs sl A Qf Ex pc L (vR (strB + k) :: st) M := by
  intro p e s m args below meth c H locs ls hF hE hS hA hP hSS hM hL hst
  refine vk_getf hF.1 hF.2.1 (hS.2.2.2.2.1.1 k hk).2.1 hSS hF.2.2.2.1 (hF.2.2.2.2 _ hlk) (fun x h => h) hd ?_
  exact kk p e s m args below meth c H locs ls hF hE hS hA hP hSS hM hL (List.forall_mem_cons.mpr ⟨⟨by decide, by decide⟩, fun v hv => hst v (List.mem_cons_of_mem _ hv)⟩)
theorem strLen_i : ∀ k, k < 18 → Int32.ofNat (strLen.getD k 0) = Int32.ofInt (strLen.getD k 0 : Nat) := by decide
theorem strLen_b : ∀ k, k < 18 → strLen.getD k 0 ≤ 7 := by decide
theorem e_strN {k : Nat} (hk : k < 18) (hd : decode cc pc = .ok (.arraylength, 1))
    (kk : WW l w own cc nL R cs sl A Qf Ex (pc + 1) L (vI (strLen.getD k 0 : Nat) :: st) M) : WW l w own cc nL R cs sl A Qf Ex pc L (vR (strB + 18 + k) :: st) M := by
  intro p e s m args below meth c H locs ls hF hE hS hA hP hSS hM hL hst
  have hb := strLen_b k hk
  refine va_tlen hF.1 hF.2.1 (hS.2.2.2.2.1.1 k hk).2.2.2 hSS (strLen_i k hk) hd ?_
  exact kk p e s m args below meth c H locs ls hF hE hS hA hP hSS hM hL (List.forall_mem_cons.mpr ⟨⟨by omega, by omega⟩, fun v hv => hst v (List.mem_cons_of_mem _ hv)⟩)
theorem strByt_b : ∀ k, k < 18 → ∀ i, i < 7 → 0 ≤ ((strByt.getD k []).getD i 0).toInt ∧ ((strByt.getD k []).getD i 0).toInt ≤ 127 := by decide
theorem e_strB {k : Nat} (hk : k < 18) {i : Int} (hi : 0 ≤ i ∧ i < (strLen.getD k 0 : Nat)) (hd : decode cc pc = .ok (.baload, 1))
    (kk : WW l w own cc nL R cs sl A Qf Ex (pc + 1) L (vI ((strByt.getD k []).getD i.toNat 0).toInt :: st) M) : WW l w own cc nL R cs sl A Qf Ex pc L (vI i :: vR (strB + 18 + k) :: st) M := by
  intro p e s m args below meth c H locs ls hF hE hS hA hP hSS hM hL hst
  have hb := strLen_b k hk
  have hy := strByt_b k hk i.toNat (by omega)
  have hir : inR (vI i) := hst _ List.mem_cons_self
  refine va_tb hF.1 hF.2.1 (hS.2.2.2.2.1.1 k hk).2.2.2 hSS (i32_nn hi.1 hi.2 hir) (v := tv w (vI ((strByt.getD k []).getD i.toNat 0).toInt)) ?_ hd ?_
  · rw [i32_cl hi.1 hir]
    show Value.int _ = Value.int (Int32.ofInt _)
    rw [i32_b]
  · exact kk p e s m args below meth c H locs ls hF hE hS hA hP hSS hM hL (List.forall_mem_cons.mpr ⟨⟨by omega, by omega⟩, fun v hv => hst v (List.mem_cons_of_mem _ (List.mem_cons_of_mem _ hv))⟩)
theorem e_compact {i : Nat} (hlk : Cond.fieldLink own i "java/lang/String" "COMPACT_STRINGS" "Z" ∈ TBL) (hd : decode cc pc = .ok (.getstatic i, 3))
    (kk : WW l w own cc nL R cs sl A Qf Ex (pc + 3) L (vI 1 :: st) M) : WW l w own cc nL R cs sl A Qf Ex pc L st M := by
  intro p e s m args below meth c H locs ls hF hE hS hA hP hSS hM hL hst
  refine va_gets hF.1 hF.2.1 hS.2.2.2.2.2.1 hSS hF.2.2.2.1 (hF.2.2.2.2 _ hlk) (fun x h => h) hd ?_
  exact kk p e s m args below meth c H locs ls hF hE hS hA hP hSS hM hL (List.forall_mem_cons.mpr ⟨⟨by decide, by decide⟩, hst⟩)
theorem e_siobe {i : Nat} (hlk : Cond.fieldLink own i "jdk/internal/util/Preconditions" "SIOOBE_FORMATTER" "Ljava/util/function/BiFunction;" ∈ TBL) (hd : decode cc pc = .ok (.getstatic i, 3))
    (kk : WW l w own cc nL R cs sl A Qf Ex (pc + 3) L ((.inr (.inr (siov w)) : MV) :: st) M) : WW l w own cc nL R cs sl A Qf Ex pc L st M := by
  intro p e s m args below meth c H locs ls hF hE hS hA hP hSS hM hL hst
  refine va_gets hF.1 hF.2.1 hS.2.2.2.2.2.2 hSS hF.2.2.2.1 (hF.2.2.2.2 _ hlk) (fun x h => h) hd ?_
  exact kk p e s m args below meth c H locs ls hF hE hS hA hP hSS hM hL (List.forall_mem_cons.mpr ⟨trivial, hst⟩)
/-- a call on a String -/
theorem e_callVS {y : MethodName} {bytes : ByteArray} {maxL n i d k0 : Nat} {ret : Option FieldType} {as : List MV} {Q : Option MV → Mem → Prop} {st0 : List MV} (hk0 : k0 < 18) (hcl : y.cls = "java/lang/String")
    (hM : MT l w y bytes maxL ret d (vR (strB + k0) :: as) M Q) (hY : CY y bytes maxL ret n) (hV : CV y) (hlk : Cond.methodLink own i y ∈ TBL) (hn : as.length = n) (hs0 : st0 = as.reverse ++ vR (strB + k0) :: st) (hR : ROk R cs sl d maxL) (hwt : wt st ≤ 8) (hd : decode cc pc = .ok (.invokevirtual i, 3))
    (k : ∀ r M', Q r M' → WW l w own cc nL R cs sl A Qf Ex (pc + 3) L (r.toList ++ st) M') : WW l w own cc nL R cs sl A Qf Ex pc L st0 M := by
  intro p e s m args below meth c H locs ls hF hE hS hA hP hSS hMM hL hst
  subst hs0
  have has : ∀ v ∈ vR (strB + k0) :: as, inR v := fun v hv => hst v (by
    rcases List.mem_cons.mp hv with h | h
    · rw [h]; exact List.mem_append_right _ List.mem_cons_self
    · exact List.mem_append_left _ (List.mem_reverse.mpr h))
  have hcls : ∃ cellB : Cell, H[w.1 (strB + k0)]? = some cellB ∧ cellB.vm.isStatics = false ∧ s.vm.findClass y.cls = some cellB.cls := by
    rw [hcl]
    exact vk_recv (adK := fun k => w.1 (strB + k)) (i := k0) hS.2.2.2.2.1 hk0 hSS
  have hrun := va_runV (cells := cs) (slots := sl) (As := as.map (tv w)) (b := w.1 (strB + k0)) (rest := st.map (tv w)) (g := F0 m pc ls ((as.reverse ++ vR (strB + k0) :: st).map (tv w))) (p := p) (e := e) (below := below) (meth := meth) (locs := locs) ⟨hF.1, hF.2.1, hF.2.2.1, hF.2.2.2.1, hF.2.2.2.2⟩ (hM has) ⟨callB9 (cs := cs) (sl := sl) hF.2.2.2.2 hY hlk hR, hF.2.2.2.2 _ hV.1, hF.2.2.2.2 _ hV.2⟩ ⟨MTpre.blind, hcls, callPre hS hA hSS hP hMM⟩ rfl (by rw [List.length_map]; exact hn) hL.1 (by simp [tv]) (by rw [wt_ok]; show 2 * 0 + wt st ≤ 8; omega) hd hR.2
  refine afterCall hrun hA hSS (fun r M' H1 locs1 hQ hin hP' hM' hS1 => ?_)
  exact k r M' hQ p e s m args below meth c H1 locs1 ls hF hE hS hA hP' hS1 hM' hL (fun v hv => by
    rcases List.mem_append.mp hv with h | h
    · exact hin v (Option.mem_toList.mp h)
    · exact hst v (List.mem_append_right _ (List.mem_cons_of_mem _ h)))
end STR
