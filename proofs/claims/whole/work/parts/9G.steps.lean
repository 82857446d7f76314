theorem vr_out (c : ClassId) (N h0 : Nat) : ∀ i : Nat, Jvm.Free.Multi.outerC c N h0 i = arrV c N (fun j => va_rf (if j < i then some (h0 + 1 + j) else none))
  | 0 => by
    show ({ cls := c, slots := Array.replicate N .null, vm := .none } : Cell) = _
    rw [arrV_new]
    refine congrArg (arrV c N) (funext fun j => ?_)
    simp [va_rf]
  | i + 1 => by
    show (Jvm.Free.Multi.outerC c N h0 i).setSlot i (.ref (h0 + 1 + i)) = _
    rw [vr_out c N h0 i, arrV_store]
    refine congrArg (arrV c N) (funext fun j => ?_)
    by_cases e : j = i
    · subst e
      simp [updV, va_rf]
    · by_cases h : j < i
      · simp [updV, e, h, Nat.lt_succ_of_lt h]
      · simp [updV, e, h, show ¬ j < i + 1 by omega]
theorem vr_in (c : ClassId) : Jvm.Free.Multi.innerC c 32 (defaultValue .int) = vp_cell c (32, .inl (fun _ => 0)) := by
  show ({ cls := c, slots := Array.replicate 32 (defaultValue .int), vm := .none } : Cell) = _
  rw [arrV_new]
  rfl
section MAKE3
variable {l : Launch} {w : Wd} {own : String} {cc : ByteArray} {nL : Nat} {R : Room} {n0 n1 : Nat} {Qf : List Frame → Array Value → State → State → Prop} {Ex : State → Array Value → Method → Prop} {cs sl pc : Nat} {lv : List (Nat × Value)} {st : List Value} {es : List va_E}
theorem c_mna {i k cs' sl' : Nat} (hlk : Cond.classLink own i ("[" ++ (FieldType.array .int).toString) ∈ TBL)
    (hc : cs + 1 + 30 = cs') (hc2 : cs' ≤ R.cells) (hs : sl + 30 + 30 * 32 = sl') (hs2 : sl' ≤ R.slots) (hk : es.length = k) (hd : decode cc pc = .ok (.multianewarray i 2, 4)) (kk : CW l w own cc nL R n0 n1 Qf Ex cs' sl' (pc + 4) lv (.ref (n1 + k) :: st) (es ++ (.inl (w.2.2 5, 30, .inr (.inr (.inr (.inr (fun i => if i < 30 then some (n1 + k + 1 + i) else none))))) :: List.replicate 30 (zI w 32)))) : CW l w own cc nL R n0 n1 Qf Ex cs sl pc lv (.int 32 :: .int 30 :: st) es := by
  intro p e s m args below meth c H locs ls hF hE hS h01 h1s hP hSS hL
  subst hc; subst hs; subst hk
  intro T hT Xs
  obtain ⟨vm₁, cA, comp, -, fA, fC, hO, -, X', step⟩ := Xs.multianewarray2F hF.1 (ty := .int) hF.2.2.2.1 (hF.2.2.2.2 _ hlk) hS.2.2 (hF.2.2.2.2 _ aI) (g := F0 m pc ls (.int 32 :: .int 30 :: st)) rfl (by rw [hF.2.1]; exact hd) rfl (by decide) (by decide) (by decide) (by decide) (by decide) rfl rfl (by show cs + (1 + 30) ≤ _; omega) (by show sl + (30 + 30 * 32) ≤ _; omega)
  have hA5 : cA = w.2.2 5 := Option.some.inj (fA.symm.trans (hS.1.2.1.2 5 _ rfl).2)
  have hA0 : comp = w.2.2 0 := Option.some.inj (fC.symm.trans (hS.1.2.1.2 0 _ rfl).2)
  subst hA5; subst hA0
  have hn : (30 : Int32).toNatClampNeg = 30 := by decide
  have hk : (32 : Int32).toNatClampNeg = 32 := by decide
  rw [hn, hk] at X' step
  generalize hF9 : Jvm.Free.Multi.fill (T.setVm vm₁) (w.2.2 5) (w.2.2 0) 30 32 (defaultValue .int) 30 = F at X' step
  have hTh : (T.setVm vm₁).heap = H := hT
  obtain ⟨f1, f2, -, -⟩ := Jvm.Free.Multi.fill_facts (T.setVm vm₁) (w.2.2 5) (w.2.2 0) 30 32 (defaultValue .int) 30
  rw [hF9, hTh] at f1 f2
  have hold : ∀ x : Nat, x < H.size → F.heap[x]? = H[x]? := fun x hx => by
    have := Jvm.Free.Multi.fill_old (T.setVm vm₁) (w.2.2 5) (w.2.2 0) 30 32 (defaultValue .int) (a := x) (by rw [hTh]; exact hx) 30
    rw [hF9, hTh] at this
    exact this
  have hrow : ∀ j : Nat, j < 30 → F.heap[H.size + 1 + j]? = some (vp_cell (w.2.2 0) (32, .inl (fun _ => 0))) := fun j hj => by
    have := Jvm.Free.Multi.fill_inner (T.setVm vm₁) (w.2.2 5) (w.2.2 0) 30 32 (defaultValue .int) 30 j hj
    rw [hF9, hTh, vr_in] at this
    exact this
  have hout : Jvm.Free.Multi.outerC (w.2.2 5) 30 H.size 30 = vp_cell (w.2.2 5) (30, .inr (.inr (.inr (.inr (fun i => if i < 30 then some (H.size + 1 + i) else none))))) := by
    rw [vp_cell_q]
    exact vr_out _ 30 H.size 30
  rw [hout] at f2
  have hsz : H.size = n1 + es.length := hP.1
  rw [hsz] at f1 f2 hrow
  have hP1 : CP w n1 (es ++ (.inl (w.2.2 5, 30, .inr (.inr (.inr (.inr (fun i => if i < 30 then some (n1 + es.length + 1 + i) else none))))) :: List.replicate 30 (zI w 32))) F.heap := by
    refine ⟨by rw [f1, List.length_append, List.length_cons, List.length_replicate]; omega, fun j e9 hj => ?_⟩
    by_cases hl : j < es.length
    · rw [List.getElem?_append_left hl] at hj
      exact (hP.2 j e9 hj).kept (hold _ (by rw [hsz]; show n1 + j < _; omega))
    · rw [List.getElem?_append_right (by omega)] at hj
      obtain ⟨q, rfl⟩ : ∃ q, j = es.length + q := ⟨j - es.length, by omega⟩
      rw [show es.length + q - es.length = q by omega] at hj
      cases q with
      | zero =>
        cases hj
        exact f2
      | succ q =>
        rw [List.getElem?_cons_succ] at hj
        have hq : q < 30 := by
          have := (List.getElem?_eq_some_iff.mp hj).1
          rw [List.length_replicate] at this
          exact this
        have he := List.eq_of_mem_replicate (List.mem_of_getElem? hj)
        subst he
        have := hrow q hq
        rw [show n1 + es.length + 1 + q = n1 + (es.length + (q + 1)) by omega] at this
        exact this
  have hTT : T.heap.size = n1 + es.length := by rw [hT]; exact hsz
  obtain ⟨t2, a1, b1⟩ := kk p e s m args below meth c F.heap locs ls hF hE hS h01 h1s hP1 (vaS_grow hSS (by rw [f1, hsz]; omega) hold) hL F rfl X'
  refine ⟨t2, step t2 ?_, b1⟩
  rw [hTT]
  exact a1
end MAKE3
theorem lc_X4_11 : Cond.classLink RX4 11 ("[" ++ (FieldType.array .int).toString) ∈ TBL := TBL_in (tm1 (List.mem_of_getElem? (i := 130) rfl)) rfl
theorem fk_X4_13 : Cond.fieldLink RX4 13 RX4 (TX4 0).2.1 (TX4 0).2.2.1 ∈ TBL := TBL_in (tm1 (List.mem_of_getElem? (i := 132) rfl)) rfl
theorem fk_X4_16 : Cond.fieldLink RX4 16 RX4 (TX4 1).2.1 (TX4 1).2.2.1 ∈ TBL := TBL_in (tm1 (List.mem_of_getElem? (i := 133) rfl)) rfl
theorem fk_X4_20 : Cond.fieldLink RX4 20 RX4 (TX4 2).2.1 (TX4 2).2.2.1 ∈ TBL := TBL_in (tm1 (List.mem_of_getElem? (i := 135) rfl)) rfl
theorem mk_X4 {l : Launch} {w : Wd} {n0 n1 : Nat} : MC l w yX4_init cX4_init 1 rmX4 n0 n1 [] [zX4] (esX4 w n1) := by
  refine MC.of (own := RX4) [(0, .ref n1)] ⟨by decide, rfl, rfl⟩ rfl (Nat.le_of_ble_eq_true rfl) ?_
  refine CW.cv (es' := [.inr (4, [.null, .int 0, .int 0])]) rfl ?_
  refine c_aload 0 dX4_init_0 rfl rfl ?_
  refine c_obj oi_X4_5 oi_in oi_co (by decide) (by decide) dX4_init_1 ?_
  refine c_aload 0 dX4_init_4 rfl rfl ?_
  refine c_bipush (v := 30) dX4_init_5 (by decide) ?_
  refine c_bipush (v := 32) dX4_init_7 (by decide) ?_
  refine c_mna (k := 1) (cs' := 31) (sl' := 990) lc_X4_11 rfl (by decide) rfl (by decide) rfl dX4_init_9 ?_
  refine CW.cv (es' := .inr (4, [.null, .int 0, .int 0]) :: .inl (w.2.2 5, 30, .inr (.inr (.inr (.inr (fun i => if i < 30 then some (n1 + 1 + 1 + i) else none))))) :: List.replicate 30 (zI w 32)) rfl ?_
  refine c_put (ci := 4) (k := 0) (T := TX4) (C := RX4) (N := 3) (fs' := [.ref (n1 + 1), .int 0, .int 0]) (Tl := .inl (w.2.2 5, 30, .inr (.inr (.inr (.inr (fun i => if i < 30 then some (n1 + 1 + 1 + i) else none))))) :: List.replicate 30 (zI w 32)) rfl fk_X4_13 (by decide) ⟨rfl, rfl⟩ (tyX4_ok 0 (by decide)) rfl rfl (Nat.le_of_ble_eq_true rfl) rfl (fun _ _ _ h => h.2.2) dX4_init_13 ?_
  refine c_aload 0 dX4_init_16 rfl rfl ?_
  refine c_iconst (v := 0) dX4_init_17 (by decide) ?_
  refine c_put (ci := 4) (k := 1) (T := TX4) (C := RX4) (N := 3) (fs' := [.ref (n1 + 1), .int 0, .int 0]) (Tl := .inl (w.2.2 5, 30, .inr (.inr (.inr (.inr (fun i => if i < 30 then some (n1 + 1 + 1 + i) else none))))) :: List.replicate 30 (zI w 32)) rfl fk_X4_16 (by decide) ⟨rfl, rfl⟩ (tyX4_ok 1 (by decide)) rfl rfl (Nat.le_of_ble_eq_true rfl) rfl (fun _ _ _ h => h.2.2) dX4_init_18 ?_
  refine c_aload 0 dX4_init_21 rfl rfl ?_
  refine c_bipush (v := 29) dX4_init_22 (by decide) ?_
  refine c_put (ci := 4) (k := 2) (T := TX4) (C := RX4) (N := 3) (fs' := [.ref (n1 + 1), .int 0, .int 29]) (Tl := .inl (w.2.2 5, 30, .inr (.inr (.inr (.inr (fun i => if i < 30 then some (n1 + 1 + 1 + i) else none))))) :: List.replicate 30 (zI w 32)) rfl fk_X4_20 (by decide) ⟨rfl, rfl⟩ (tyX4_ok 2 (by decide)) rfl rfl (Nat.le_of_ble_eq_true rfl) rfl (fun _ _ _ h => h.2.2) dX4_init_24 ?_
  exact c_ret rfl rfl rfl dX4_init_27
