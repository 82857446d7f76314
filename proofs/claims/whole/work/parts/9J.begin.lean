/-! THE LAW'S START: what the tables and the premises give, the two constructors, the loop -/
theorem inst_ok {ci : Nat} {C : String} {T : u_T} {N : Nat} (h : CL[ci]? = some (C, T, N)) : Cond.instantiable C N ∈ TBL := by
  have hlt : ci < 10 := (List.getElem?_eq_some_iff.mp h).1
  rcases (show ci = 0 ∨ ci = 1 ∨ ci = 2 ∨ ci = 3 ∨ ci = 4 ∨ ci = 5 ∨ ci = 6 ∨ ci = 7 ∨ ci = 8 ∨ ci = 9 by omega) with rfl | rfl | rfl | rfl | rfl | rfl | rfl | rfl | rfl | rfl
  · cases h; exact ni_X0
  · cases h; exact ni_X1
  · cases h; exact ni_X2
  · cases h; exact ni_X3
  · cases h; exact ni_X4
  · cases h; exact ni_X5
  · cases h; exact ni_X6
  · cases h; exact ni_X7
  · cases h; exact ni_X8
  · cases h; exact ni_X9
theorem begin_D {s : State} {args : Array Value} (hT : ∀ x ∈ TBL, x.before args s = true) : ∃ D : va_G, ∀ (c : Nat) (q : vw_C), CL[c]? = some q → u_Kn s q.1 q.2.1 q.2.2 (D.1 c) (D.2 c) := by
  have hD : ∀ ci : Nat, ∃ q : ClassId × (Nat → Nat), ∀ r : vw_C, CL[ci]? = some r → u_Kn s r.1 r.2.1 r.2.2 q.1 q.2 := by
    intro ci
    cases h : CL[ci]? with
    | none => exact ⟨(0, fun _ => 0), fun r hr => by cases hr⟩
    | some r0 =>
      obtain ⟨C, T, N⟩ := r0
      obtain ⟨cC, iS, hk⟩ := u_known (ws := TBL) (s := s) (args := args) (C := C) (T := T) (N := N) (n := N) hT (CLok h).1 (hT _ (inst_ok h))
      exact ⟨(cC, iS), fun r hr => by cases hr; exact hk⟩
  obtain ⟨F, hF⟩ := Classical.axiomOfChoice hD
  exact ⟨(fun c => (F c).1, fun c => (F c).2), hF⟩
theorem begin_A {s : State} {args : Array Value} (hT : ∀ x ∈ TBL, x.before args s = true) (h4 : (Cond.arrayOver (.object "CandleEnds$Script")).before args s = true) (h5 : (Cond.arrayOver (.array .int)).before args s = true) : ∃ cA : Nat → ClassId, ∀ (k : Nat) (q : ClassId × FieldType), ([(cA 0, .int), (cA 1, .byte), (cA 2, .boolean), (cA 3, .long), (cA 4, .object "CandleEnds$Script"), (cA 5, .array .int)] : List (ClassId × FieldType))[k]? = some q → ArrOfT s q.1 q.2 ∧ va_RA s q.1 q.2 := by
  obtain ⟨c0, k0, m0, f0, g0, e0⟩ := Cond.arrayClass_spec (hT _ aI)
  obtain ⟨c1, k1, m1, f1, g1, e1⟩ := Cond.arrayClass_spec (hT _ aB)
  obtain ⟨c2, k2, m2, f2, g2, e2⟩ := Cond.arrayClass_spec (hT _ aZ)
  obtain ⟨c3, k3, m3, f3, g3, e3⟩ := Cond.arrayClass_spec (hT _ aJ)
  obtain ⟨m4, c4, k4, a4, b4, g4, e4, f4⟩ := Cond.arrayOver_spec h4
  obtain ⟨m5, c5, k5, a5, b5, g5, e5, f5⟩ := arrayOverA_spec h5
  refine ⟨fun t => match t with | 0 => c0 | 1 => c1 | 2 => c2 | 3 => c3 | 4 => c4 | _ => c5, fun k q hq => ?_⟩
  have hk : k < 6 := (List.getElem?_eq_some_iff.mp hq).1
  rcases (show k = 0 ∨ k = 1 ∨ k = 2 ∨ k = 3 ∨ k = 4 ∨ k = 5 by omega) with rfl | rfl | rfl | rfl | rfl | rfl
  · cases hq; exact ⟨fun n z => ⟨fun k h => (by cases h), k0, g0, m0, e0⟩, f0⟩
  · cases hq; exact ⟨fun n z => ⟨fun k h => (by cases h), k1, g1, m1, e1⟩, f1⟩
  · cases hq; exact ⟨fun n z => ⟨fun k h => (by cases h), k2, g2, m2, e2⟩, f2⟩
  · cases hq; exact ⟨fun n z => ⟨fun k h => (by cases h), k3, g3, m3, e3⟩, f3⟩
  · cases hq; exact ⟨fun n z => ⟨fun k h => (by cases h), k4, g4, m4, e4⟩, k4, m4, g4, e4, a4, f4⟩
  · cases hq; exact ⟨fun n z => ⟨fun k h => (by cases h), k5, g5, m5, e5⟩, f5⟩
abbrev PRE : List Cond := flatC (Cond.and given_1 narrow_1)
abbrev tmS (i : Nat) : Term := .string "CandleEnds$Reader" (strIx.getD i 0)
theorem st_ex : ∀ i, i < 18 → Cond.exactly (tmS i) "java/lang/String" ∈ PRE := by decide +kernel
theorem st_co : ∀ i, i < 18 → Cond.eq (.field (tmS i) "java/lang/String" "coder" "B") (.int 0) ∈ PRE := by decide +kernel
theorem st_ar : ∀ i, i < 18 → Cond.arrayOf (.field (tmS i) "java/lang/String" "value" "[B") .byte ∈ PRE := by decide +kernel
theorem st_le : ∀ i, i < 18 → Cond.eq (.length (.field (tmS i) "java/lang/String" "value" "[B")) (.int (Int32.ofNat (strLen.getD i 0))) ∈ PRE := by decide +kernel
theorem st_el : ∀ i, i < 18 → ∀ j, j < strLen.getD i 0 → Cond.eq (.elem (.field (tmS i) "java/lang/String" "value" "[B") (.int (Int32.ofNat j))) (.int ((strByt.getD i []).getD j 0)) ∈ PRE := by decide +kernel
/-- the pairs of constants that the premises hold apart -/
def apP (c : Cond) : Option (Nat × Nat) := match c with
  | .not (.eq (.string o1 a) (.string o2 b)) => if o1 = "CandleEnds$Reader" ∧ o2 = "CandleEnds$Reader" then some (a, b) else none
  | _ => none
def apL : List (Nat × Nat) := [(104, 110), (104, 112), (110, 112), (104, 114), (110, 114), (112, 114), (104, 116), (110, 116), (112, 116), (114, 116), (104, 118), (110, 118), (112, 118), (114, 118), (116, 118), (104, 120), (110, 120), (112, 120), (114, 120), (116, 120), (118, 120), (104, 122), (110, 122), (112, 122), (114, 122), (116, 122), (118, 122), (120, 122), (104, 124), (110, 124), (112, 124), (114, 124), (116, 124), (118, 124), (120, 124), (122, 124), (104, 126), (110, 126), (112, 126), (114, 126), (116, 126), (118, 126), (120, 126), (122, 126), (124, 126), (104, 128), (110, 128), (112, 128), (114, 128), (116, 128), (118, 128), (120, 128), (122, 128), (124, 128), (126, 128), (104, 130), (110, 130), (112, 130), (114, 130), (116, 130), (118, 130), (120, 130), (122, 130), (124, 130), (126, 130), (128, 130), (104, 132), (110, 132), (112, 132), (114, 132), (116, 132), (118, 132), (120, 132), (122, 132), (124, 132), (126, 132), (128, 132), (130, 132), (104, 134), (110, 134), (112, 134), (114, 134), (116, 134), (118, 134), (120, 134), (122, 134), (124, 134), (126, 134), (128, 134), (130, 134), (132, 134), (104, 136), (110, 136), (112, 136), (114, 136), (116, 136), (118, 136), (120, 136), (122, 136), (124, 136), (126, 136), (128, 136), (130, 136), (132, 136), (134, 136), (104, 137), (110, 137), (112, 137), (114, 137), (116, 137), (118, 137), (120, 137), (122, 137), (124, 137), (126, 137), (128, 137), (130, 137), (132, 137), (134, 137), (136, 137), (104, 139), (110, 139), (112, 139), (114, 139), (116, 139), (118, 139), (120, 139), (122, 139), (124, 139), (126, 139), (128, 139), (130, 139), (132, 139), (134, 139), (136, 139), (137, 139), (104, 141), (110, 141), (112, 141), (114, 141), (116, 141), (118, 141), (120, 141), (122, 141), (124, 141), (126, 141), (128, 141), (130, 141), (132, 141), (134, 141), (136, 141), (137, 141), (139, 141)]
theorem apP_in {c : Cond} {a b : Nat} (h : apP c = some (a, b)) : c = Cond.not (Cond.eq (.string "CandleEnds$Reader" a) (.string "CandleEnds$Reader" b)) := by
  unfold apP at h
  split at h
  · split at h
    · rename_i h1
      cases h
      rw [h1.1, h1.2]
    · cases h
  · cases h
theorem apL_ok : PRE.filterMap apP = apL := by decide +kernel
theorem st_ap : ∀ i, i < 18 → ∀ j, j < 18 → i = j ∨ (strIx.getD i 0, strIx.getD j 0) ∈ apL ∨ (strIx.getD j 0, strIx.getD i 0) ∈ apL := by decide +kernel
theorem ap_in {a b : Nat} (h : (a, b) ∈ apL) : Cond.not (Cond.eq (.string "CandleEnds$Reader" a) (.string "CandleEnds$Reader" b)) ∈ PRE := by
  rw [← apL_ok] at h
  obtain ⟨c, hc, e⟩ := List.mem_filterMap.mp h
  rw [← apP_in e]
  exact hc
theorem st_ne (i : Nat) (hi : i < 18) (j : Nat) (hj : j < 18) : i = j ∨ Cond.not (Cond.eq (tmS i) (tmS j)) ∈ PRE ∨ Cond.not (Cond.eq (tmS j) (tmS i)) ∈ PRE := by
  rcases st_ap i hi j hj with h | h | h
  · exact Or.inl h
  · exact Or.inr (Or.inl (ap_in h))
  · exact Or.inr (Or.inr (ap_in h))
theorem st_rf : ∀ i, i < 18 → Cond.stringRef "CandleEnds$Reader" (strIx.getD i 0) (strTx.getD i "") ∈ tables_1_3 := by decide +kernel
theorem st_z1 : Cond.eq (.static "java/lang/String" "COMPACT_STRINGS" "Z") (.int 1) ∈ PRE := by decide +kernel
theorem st_z2 : Cond.isRef (.static "jdk/internal/util/Preconditions" "SIOOBE_FORMATTER" "Ljava/util/function/BiFunction;") ∈ PRE := by decide +kernel
theorem tb_in {x : Cond} (h : x ∈ TBL) : x ∈ lw_tbl := (List.mem_filter.mp h).1
theorem begin_KS {s : State} {b : Nat} (hts : ∀ x ∈ lw_tbl, x.before #[Value.ref b] s = true) (hgv : (Jvm.Cond.and given_1 narrow_1).before #[Value.ref b] s = true) : ∃ (sa : Nat → Nat) (D : va_G) (cA : Nat → ClassId), sa 167 = b ∧ KS (wd s.heap.size sa D cA) s.heap.size s s.heap := by
  have hT : ∀ x ∈ TBL, x.before #[Value.ref b] s = true := fun x hx => hts x (tb_in hx)
  have hs := flat_of_before _ hgv
  have h4 : (Cond.arrayOver (.object "CandleEnds$Script")).before #[Value.ref b] s = true := hts _ (tm1 (List.mem_of_getElem? (i := 144) rfl))
  have h5 : (Cond.arrayOver (.array .int)).before #[Value.ref b] s = true := hts _ (tm1 (List.mem_of_getElem? (i := 131) rfl))
  obtain ⟨D, hD⟩ := begin_D hT
  obtain ⟨cA, hA⟩ := begin_A hT h4 h5
  have hG : ∀ a : Nat, a < s.heap.size → ¬ GE s.heap.size a := fun a h z => absurd h (Nat.not_lt.mpr z)
  obtain ⟨adK, adV, hV, hE⟩ := vk_Sof (args := #[Value.ref b]) (s := s) (N := 18) (tm := tmS) (len := strLen) (byt := strByt) (A := GE s.heap.size) (by decide) (fun i hi => hs _ (st_ex i hi)) (fun i hi => hs _ (st_co i hi)) (fun i hi => hs _ (st_ar i hi)) (fun i hi => hs _ (st_le i hi)) (fun i hi j hj => hs _ (st_el i hi j hj))
    (fun i j hi hj hne => (st_ne i hi j hj).elim (fun h => absurd h hne) (fun h => h.elim (fun h => Or.inl (hs _ h)) (fun h => Or.inr (hs _ h)))) hG
  have hz1 : va_Z "java/lang/String" "COMPACT_STRINGS" "Z" (.int 1) (GE s.heap.size) s s.heap := va_Zof (hts _ (tm3 (List.mem_of_getElem? (i := 107) rfl))) (hts _ (tm1 (List.mem_of_getElem? (i := 12) rfl))) (va_eqi (hs _ st_z1)) hG
  have hz2 : va_Zq "jdk/internal/util/Preconditions" "SIOOBE_FORMATTER" "Ljava/util/function/BiFunction;" (GE s.heap.size) s s.heap := va_Zqof (hts _ (tm3 (List.mem_of_getElem? (i := 123) rfl))) (hts _ (tm1 (List.mem_of_getElem? (i := 14) rfl))) (hs _ st_z2) hG
  obtain ⟨t, z, hz3⟩ : ∃ t z : Nat, (z = 0 ∧ va_Z "jdk/internal/util/Preconditions" "SIOOBE_FORMATTER" "Ljava/util/function/BiFunction;" .null (GE s.heap.size) s s.heap) ∨ (z ≠ 0 ∧ va_Z "jdk/internal/util/Preconditions" "SIOOBE_FORMATTER" "Ljava/util/function/BiFunction;" (.ref t) (GE s.heap.size) s s.heap) := by
    rcases hz2 with h | ⟨t, h⟩
    · exact ⟨0, 0, Or.inl ⟨rfl, h⟩⟩
    · exact ⟨t, 1, Or.inr ⟨by decide, h⟩⟩
  obtain ⟨sa, a1, a2, a3, a4, a5⟩ : ∃ sa : Nat → Nat, sa 167 = b ∧ (∀ k, k < 18 → sa (168 + k) = adK k) ∧ (∀ k, k < 18 → sa (168 + 18 + k) = adV k) ∧ sa 204 = t ∧ sa 205 = z := by
    refine ⟨fun o => if o = 167 then b else if o < 186 then adK (o - 168) else if o < 204 then adV (o - 186) else if o = 204 then t else z, if_pos rfl, fun k hk => ?_, fun k hk => ?_, rfl, rfl⟩
    · show (if 168 + k = 167 then b else if 168 + k < 186 then adK (168 + k - 168) else if 168 + k < 204 then adV (168 + k - 186) else if 168 + k = 204 then t else z) = _
      rw [if_neg (by omega), if_pos (by omega), show 168 + k - 168 = k by omega]
    · show (if 168 + 18 + k = 167 then b else if 168 + 18 + k < 186 then adK (168 + 18 + k - 168) else if 168 + 18 + k < 204 then adV (168 + 18 + k - 186) else if 168 + 18 + k = 204 then t else z) = _
      rw [if_neg (by omega), if_neg (by omega), if_pos (by omega), show 168 + 18 + k - 186 = k by omega]
  have ea : ∀ o, 167 ≤ o → ad s.heap.size sa o = sa o := fun o h => if_neg (by omega)
  have eK : ∀ k, k < 18 → (wd s.heap.size sa D cA).1 (strB + k) = adK k := fun k hk => (ea (168 + k) (by omega)).trans (a2 k hk)
  have eV : ∀ k, k < 18 → (wd s.heap.size sa D cA).1 (strB + 18 + k) = adV k := fun k hk => (ea (168 + 18 + k) (by omega)).trans (a3 k hk)
  refine ⟨sa, D, cA, a1, ⟨wd_AdOk, ⟨hD, hA⟩, fun x hx => ?_, fun k hk => ?_, ⟨fun i hi => ?_, fun i j hi hj e => hV.2 i j hi hj ?_⟩, hz1, ?_⟩, va_AO.of h4, h5⟩
  · have h1 := hts x (List.mem_filter.mp hx).1
    have h2 : isNest x = true := (List.mem_filter.mp hx).2
    cases x <;> first | exact va_Nw.of rfl h1 | exact Bool.noConfusion h2
  · rw [eK k hk]
    exact vk_R.of (A := #[Value.ref b]) (hts _ (tm3 (st_rf k hk))) (hE k hk)
  · have := hV.1 i hi
    rw [← eK i hi, ← eV i hi] at this
    exact this
  · rw [← eK i hi, ← eK j hj]
    exact e
  · have e4 : (wd s.heap.size sa D cA).1 204 = t := (ea 204 (by omega)).trans a4
    have e5 : (wd s.heap.size sa D cA).1 205 = z := (ea 205 (by omega)).trans a5
    rcases hz3 with ⟨h0, h⟩ | ⟨h0, h⟩
    · have e : siov (wd s.heap.size sa D cA) = none := if_pos (e5.trans h0)
      rw [e]
      exact h
    · have e : siov (wd s.heap.size sa D cA) = some (strB + 36) := if_neg (fun q => h0 (e5.symm.trans q))
      rw [e]
      show va_Z _ _ _ (.ref ((wd s.heap.size sa D cA).1 204)) _ _ _
      rw [e4]
      exact h
abbrev XS (w : Wd) (b L : Nat) (xs : Nat → Int32) (n0 : Nat) : State → Array Value → Method → Prop := fun s args meth => XL w b L xs s args meth ∧ s.heap.size = n0
/-- behind the model's constructor -/
theorem l_15 {l : Launch} {w : Wd} {b L : Nat} {xs : Nat → Int32} {M : Mem} (hL3 : L ≤ 3072) (hR : REL M) : WL l w b L xs 15 [some (vR 167), some (vR 0), none, none] [vR 134] M := by
  refine e_astore2 dL_law_15 rfl ?_
  refine e_iconst (x := 0) dL_law_16 rfl ⟨by decide, by decide⟩ ?_
  refine e_istore3 dL_law_17 rfl ?_
  exact l_loop hL3 (L + 1) 0 M (by omega) (by omega) hR
theorem l_12 {l : Launch} {n0 : Nat} {sa : Nat → Nat} {D : va_G} {cA : Nat → ClassId} {b L : Nat} {xs : Nat → Int32} (hL3 : L ≤ 3072) : CW l (wd n0 sa D cA) RL cL_law 4 room_1 n0 n0 (fun below args s => lw_Z below args s) (XS (wd n0 sa D cA) b L xs n0) 135 6139 12 [(1, .ref (n0 + 0)), (0, .ref b)] [.ref (n0 + 134), .ref (n0 + 134)] (esX8 (wd n0 sa D cA) n0 ++ [zX9]) := by
  intro p e s m args below meth c H locs ls hF hE hS h01 h1s hP hSS hL
  have hts := hF.2.2.2.2
  have hlow : LOW (wd n0 sa D cA) n0 H := fun j e9 hj => hP.2 j e9 (by
    have hl : j < (esX8 (wd n0 sa D cA) n0).length := (List.getElem?_eq_some_iff.mp hj).1
    rw [List.getElem?_append_left hl]
    exact hj)
  have hP0 : CP (wd n0 sa D cA) (n0 + 134) [zX9] H := ⟨by rw [hP.1, List.length_append, esX8_len]; rfl, fun j e9 hj => by
    have hj0 : j < 1 := (List.getElem?_eq_some_iff.mp hj).1
    have := hP.2 (134 + j) e9 (by rw [List.getElem?_append_right (by rw [esX8_len]; omega), esX8_len, show 134 + j - 134 = j by omega]; exact hj)
    rw [← Nat.add_assoc] at this
    exact this⟩
  have hrun := va_runI (cells := 135) (slots := 6139) (H := H) (As := []) (b := n0 + 134) (rest := [.ref (n0 + 134)]) (g := F0 m 12 ls [.ref (n0 + 134), .ref (n0 + 134)]) (p := p) (e := e) (below := below) (meth := meth) (locs := locs) (R := room_1) (own := RL) (index := 12) (n := 0) (bytes := cX9_init) (maxL := 1) ⟨hF.1, hF.2.1, hF.2.2.1, hF.2.2.2.1, hts⟩ (mk_X9 (l := l) (n0 := n0) (sa := sa) (D := D) (cA := cA)) ⟨callB_of 0 hts (TBL_goodIn cy_X9_init.1) rfl rfl rfl (hts _ cy_X9_init.2.1) (hts _ (TBL_in (tm4 (List.mem_of_getElem? (i := 225) rfl)) rfl)) cy_X9_init.2.2 ⟨by decide, by decide⟩, rfl, hts _ in_X9_init⟩
    ⟨fun a U g mk q => ⟨q.1, KS.same (s := U) (U := U.calling g mk a) rfl q.2.1, q.2.2.1, q.2.2.2⟩, fun U hU hW => ⟨rfl, hS.at h01 hSS hU hW, by rw [hU]; exact hP0, by rw [hU]; exact hlow⟩⟩ rfl rfl hL.1 rfl (by show 2 * 0 + _ ≤ 8; simp [Value.category]) dL_law_12 ⟨by decide, by decide⟩
  intro T hT X
  obtain ⟨v, st₀, t, T', Ls, h0, X', hLl, e1, e2, ⟨⟨hv, M, hPw, hM, hR⟩, hz, hk'⟩, stp⟩ := hrun T hT X
  cases hv
  rw [h0] at hz hk'
  obtain ⟨hE1, hsz⟩ := hE
  have hS1 : va_S (AL s) s.heap T'.heap (locs ++ Ls) := ⟨Nat.le_trans hSS.1 (by rw [e1]; exact hz), fun q h1 h2 => by
      have hq0 : ¬ GE n0 q := fun z => h2 (by show s.heap.size ≤ q; rw [hsz]; exact z)
      rw [e1, hk' q (Nat.lt_of_lt_of_le h1 hSS.1) hq0]
      exact hSS.2.1 q h1 hq0, fun q hq => by
      show s.heap.size ≤ q.base
      rw [hsz]
      rcases List.mem_append.mp hq with h | h
      · exact hSS.2.2 q h
      · exact hLl q h⟩
  have hLK : LOK (wd n0 sa D cA) ls 4 [some (vR 167), some (vR 0), none, none] := by
    refine ⟨hL.1, hL.2.1, Nat.le_refl 4, fun i v hi => ?_⟩
    have hi4 : i < 4 := (List.getElem?_eq_some_iff.mp hi).1
    rcases (show i = 0 ∨ i = 1 ∨ i = 2 ∨ i = 3 by omega) with rfl | rfl | rfl | rfl
    · cases hi
      refine ⟨trivial, ?_⟩
      show ls[0]? = some (Slot.val (.ref ((wd n0 sa D cA).1 167)))
      rw [hE1.2.1]
      exact lv_at hL 1 rfl
    · cases hi
      exact ⟨trivial, lv_at hL 0 rfl⟩
    · cases hi
    · cases hi
  obtain ⟨t2, a1, b1⟩ := l_15 (w := wd n0 sa D cA) (l := l) (b := b) (xs := xs) hL3 hR p e s m args below meth c T'.heap (locs ++ Ls) ls hF hE1 (hS.1.narrow (fun q h => by have h : s.heap.size ≤ q := h; show n0 ≤ q; omega)) (fun a h => by show s.heap.size ≤ a; rw [hsz]; exact wd_ge h) (by rw [e1]; exact hPw) hS1 hM hLK (fun v hv => by rw [List.mem_singleton.mp hv]; exact trivial) T' rfl X'
  exact ⟨t2, stp t2 a1, b1⟩
theorem l_0 {l : Launch} {n0 : Nat} {sa : Nat → Nat} {D : va_G} {cA : Nat → ClassId} {b L : Nat} {xs : Nat → Int32} (hL3 : L ≤ 3072) : CW l (wd n0 sa D cA) RL cL_law 4 room_1 n0 n0 (fun below args s => lw_Z below args s) (XS (wd n0 sa D cA) b L xs n0) 0 0 0 [(0, .ref b)] [] [] := by
  refine c_new (ci := 8) (N := 10) (k := 0) (cs' := 1) (sl' := 10) (T := TX8) (C := RX8) (fs := [.null, .null, .null, .null, .null, .null, .null, .null, .null, .null]) tyX8 rfl tyX8_ok lc_L_7 ni_X8 cy_X8_init.2.1 hzX8 rfl (by decide) rfl (by decide) rfl dL_law_0 ?_
  refine CW.cv (es' := [] ++ [zX8]) rfl ?_
  refine c_dup dL_law_3 ?_
  refine c_init (k := 0) (rm := rmX8) (as := []) (st := [.ref (n0 + 0)]) (pre := []) (es0 := [zX8]) (es1 := esX8 (wd n0 sa D cA) (n0 + 0)) (cs' := 134) (sl' := 6090) (mk_X8 (by omega) (fun n _ => mk_X4)) cy_X8_init in_X8_init rfl ml_L_9 rfl rfl rfl ⟨by decide, by decide⟩ rfl (by decide) rfl (by decide) (by simp [Value.category]) dL_law_4 rfl ?_
  refine CW.cv (es' := esX8 (wd n0 sa D cA) n0) rfl ?_
  refine c_astore (lv' := [(1, .ref (n0 + 0)), (0, .ref b)]) dL_law_7 rfl (by decide) rfl ?_
  refine c_new (ci := 9) (N := 49) (k := 134) (cs' := 135) (sl' := 6139) (T := TX9) (C := RX9) (fs := [.null, .null, .null, .int 0, .int 0, .int 0, .null, .null, .null, .null, .null, .null, .null, .null, .int 0, .int 0, .int 0, .int 0, .int 0, .int 0, .int 0, .int 0, .int 0, .null, .int 0, .null, .null, .int 0, .int 0, .int 0, .null, .null, .null, .null, .null, .int 0, .null, .null, .null, .null, .null, .null, .null, .null, .null, .null, .null, .null, .null]) tyX9 rfl tyX9_ok lc_L_10 ni_X9 cy_X9_init.2.1 hzX9 rfl (by decide) rfl (by decide) rfl dL_law_8 ?_
  refine CW.cv (es' := esX8 (wd n0 sa D cA) n0 ++ [zX9]) rfl ?_
  refine c_dup dL_law_11 ?_
  exact l_12 hL3
theorem whole_start {p : Program} {e : Env} {s : State} {m : MethodId} {below : List Frame} {meth : Method} {c : Code} (l : Launch) {b L : Nat} {xs : Nat → Int32} (hL : L ≤ 3072) (C0 : lw_At p s m meth c b L xs) : W p l e room_1 s m #[Value.ref b] below meth c s.heap [] 0 0 (lw_Z below #[Value.ref b] s) (entryFrame m ([Value.ref b] : List Value).toArray 4) := by
  obtain ⟨hx, hb, hr, hml, hown, hts, hX, hbl, hlk, hgv⟩ := C0
  obtain ⟨sa, D, cA, hsb, hK⟩ := begin_KS hts hgv
  have hlv := lv_entry ([.ref b] : List Value) (n := 4) (Nat.le_of_ble_eq_true rfl)
  rw [lg_entry_eq]
  exact l_0 (n0 := s.heap.size) (sa := sa) (D := D) (cA := cA) (b := b) (xs := xs) hL p e s m #[Value.ref b] below meth c s.heap [] _ ⟨hx, hb, hml, hown, fun x hx => hts x (tb_in hx)⟩ ⟨⟨rfl, hsb, hX, hbl, hr, hlk⟩, rfl⟩ hK (Nat.le_refl _) (Nat.le_refl _) ⟨rfl, fun j e9 hj => by cases hj⟩ va_S.rf hlv
