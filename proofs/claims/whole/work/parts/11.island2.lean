/-! ISLAND, what writes and what counts -/
def fill (M : Mem) (o a n : Nat) (v : Int) : Mem := fun o' k' => if o' = o ∧ a ≤ k' ∧ k' < a + n then v else M o' k'
theorem fill_0 (M : Mem) (o a : Nat) (v : Int) : fill M o a 0 v = M := by
  funext o' k'
  unfold fill
  rw [if_neg (by omega)]
theorem fill_s (M : Mem) (o a n : Nat) (v : Int) : up (fill M o a n v) o (a + n) v = fill M o a (n + 1) v := by
  funext o' k'
  simp only [fill, up]
  split <;> split <;> first | rfl | (exfalso; omega) | (split <;> first | rfl | (exfalso; omega))
theorem fill_o {M : Mem} {o a n o' k' : Nat} {v : Int} (h : o' ≠ o) : fill M o a n v o' k' = M o' k' := by unfold fill; rw [if_neg (fun q => h q.1)]
def cpy (M : Mem) (f t n : Nat) : Mem := fun o k => if o = t ∧ k < n then M f k else M o k
theorem cpy_0 (M : Mem) (f t : Nat) : cpy M f t 0 = M := by
  funext o k
  unfold cpy
  rw [if_neg (by omega)]
theorem cpy_s {M : Mem} {f t n : Nat} (h : f ≠ t) : up (cpy M f t n) t n (cpy M f t n f n) = cpy M f t (n + 1) := by
  funext o k
  simp only [cpy, up]
  rw [if_neg (show ¬ (f = t ∧ n < n) by omega)]
  split
  · rename_i h1
    rw [if_pos (by omega), h1.2]
  · split <;> split <;> first | rfl | (exfalso; omega)
def addH (M : Mem) (dr wx : Int) : Mem := up (up (up (up (up M 2 (M 1 0).toNat dr) 3 (M 1 0).toNat wx) 4 (M 1 0).toNat 0) 5 (M 1 0).toNat 0) 1 0 (M 1 0 + 1)
def addC0 (M : Mem) (th ln : Int) : Mem := up (up (up (up (up M 6 (M 1 5).toNat th) 7 (M 1 5).toNat ln) 8 (M 1 5).toNat 0) 9 (M 1 5).toNat (-1)) 10 (M 1 5).toNat 0
def addC (M : Mem) (th ln : Int) : Mem := up (fill (addC0 M th ln) 11 (12 * (M 1 5).toNat) 12 (-1)) 1 5 (M 1 5 + 1)
def addD (M : Mem) (c i h m t : Int) : Mem := up (up (up (up (up (up M 12 (M 1 13 * 5).toNat c) 12 (M 1 13 * 5 + 1).toNat i) 12 (M 1 13 * 5 + 2).toNat h) 12 (M 1 13 * 5 + 3).toNat m) 12 (M 1 13 * 5 + 4).toNat t) 1 13 (M 1 13 + 1)
abbrev ow (M : Mem) (s c i : Int) : Prop := ownr M c i ≠ -1 ∧ bAnd (bShr s (ownr M c i)) 1 = 1
def wrow (M : Mem) (s c : Int) : Nat → Int
  | 0 => 0
  | n + 1 => wrow M s c n + if 1 ≤ n ∧ ow M s c ((n : Int) - 1) ∧ ow M s c n then 1 else 0
def wall (M : Mem) (s : Int) : Nat → Int
  | 0 => 0
  | c + 1 => wall M s c + wrow M s c (M 7 c).toNat
def cntH (M : Mem) (p : Int) : Nat → Int
  | 0 => 0
  | n + 1 => cntH M p n + if p ≤ M 3 n then 1 else 0
def cntS (M : Mem) (s : Int) : Nat → Int
  | 0 => 0
  | n + 1 => cntS M s n + if M 8 n = s then 1 else 0
def cntF (M : Mem) (c : Int) : Nat → Int
  | 0 => 0
  | n + 1 => cntF M c n + if isIn M c n ∧ ownr M c n = -1 then 1 else 0
theorem cntH_b (M : Mem) (p : Int) : ∀ n : Nat, 0 ≤ cntH M p n ∧ cntH M p n ≤ n
  | 0 => ⟨Int.le_refl 0, Int.le_refl 0⟩
  | n + 1 => by have := cntH_b M p n; unfold cntH; split <;> omega
theorem cntS_b (M : Mem) (p : Int) : ∀ n : Nat, 0 ≤ cntS M p n ∧ cntS M p n ≤ n
  | 0 => ⟨Int.le_refl 0, Int.le_refl 0⟩
  | n + 1 => by have := cntS_b M p n; unfold cntS; split <;> omega
theorem cntF_b (M : Mem) (p : Int) : ∀ n : Nat, 0 ≤ cntF M p n ∧ cntF M p n ≤ n
  | 0 => ⟨Int.le_refl 0, Int.le_refl 0⟩
  | n + 1 => by have := cntF_b M p n; unfold cntF; split <;> omega
theorem wrow_b (M : Mem) (s c : Int) : ∀ n : Nat, 0 ≤ wrow M s c n ∧ wrow M s c n ≤ n
  | 0 => ⟨Int.le_refl 0, Int.le_refl 0⟩
  | n + 1 => by have := wrow_b M s c n; unfold wrow; split <;> omega
section ISL2
variable {l : Launch} {w : Wd} {d : Nat} {M : Mem} {Q : Option MV → Mem → Prop}
theorem ct_X0_setOwner (hd : 3 ≤ d) (hI : IB M) {c i h : Int} : PV l w yX0_setOwner cX0_setOwner 4 d [vR 1, vI c, vI i, vI h] M (if isIn M c i then up M 11 (c * 12 + i).toNat h else M) := by
  have hb := hI.2.1
  refine MT.of [some (vR 1), some (vI c), some (vI i), some (vI h)] ⟨by decide, rfl⟩ rfl (Nat.le_of_ble_eq_true rfl) (fun hA hM => ?_)
  refine e_aload0 dX0_setOwner_0 ?_
  refine e_iload1 dX0_setOwner_1 ?_
  refine e_iload2 dX0_setOwner_2 ?_
  refine e_cVZ (ct_X0_isInch (d := d - 1) (by omega) hI) cy_X0_isInch cv_X0_isInch ml_X0_68 la_1 rfl rfl rfl (rok (by omega) (by decide)) (Nat.le_of_ble_eq_true rfl) dX0_setOwner_3 (fun g3 => ?_) (fun g3 => ?_)
  · try have hlen := hI.len g3.1
    refine e_if_eq (tgt := 21) dX0_setOwner_6 (by decide) (fun h => absurd h (by decide)) (fun _ => ?_)
    refine e_aload0 dX0_setOwner_9 ?_
    refine e_getR fl_X0_46 la_1 rfl dX0_setOwner_10 ?_
    refine e_iload1 dX0_setOwner_13 ?_
    refine e_bipush dX0_setOwner_14 rfl kb_12 ?_
    refine e_imul dX0_setOwner_16 (⟨by omega, by omega⟩) ?_
    refine e_iload2 dX0_setOwner_17 ?_
    refine e_iadd dX0_setOwner_18 (⟨by omega, by omega⟩) ?_
    refine e_iload3 dX0_setOwner_19 ?_
    refine e_iast la_11 (⟨by omega, by omega⟩) dX0_setOwner_20 ?_
    refine e_vret dX0_setOwner_21 ?_
    exact ⟨by first | rw [if_pos g3] | rw [if_neg g3], rfl⟩
  · try have hlen := hI.len g3.1
    refine e_if_eq (tgt := 21) dX0_setOwner_6 (by decide) (fun _ => ?_) (fun h => absurd h (by decide))
    refine e_vret dX0_setOwner_21 ?_
    exact ⟨by first | rw [if_pos g3] | rw [if_neg g3], rfl⟩
theorem ct_X0_addHouse (hd : 1 ≤ d) (hI : IB M) {dr wx : Int} : PI l w yX0_addHouse cX0_addHouse 3 d [vR 1, vI dr, vI wx] M (if M 1 0 < 8 then M 1 0 else -1) (if M 1 0 < 8 then addH M dr wx else M) := by
  have hb := hI.1
  refine MT.of [some (vR 1), some (vI dr), some (vI wx)] ⟨by decide, rfl⟩ rfl (Nat.le_of_ble_eq_true rfl) (fun hA hM => ?_)
  refine e_aload0 dX0_addHouse_0 ?_
  refine e_getI fl_X0_9 la_1 rfl dX0_addHouse_1 ?_
  refine e_bipush dX0_addHouse_4 rfl kb_8 ?_
  refine e_icmp_lt (tgt := 11) dX0_addHouse_6 (by decide) (fun h6 => ?_) (fun h6 => ?_)
  · refine e_aload0 dX0_addHouse_11 ?_
    refine e_getR fl_X0_15 la_1 rfl dX0_addHouse_12 ?_
    refine e_aload0 dX0_addHouse_15 ?_
    refine e_getI fl_X0_9 la_1 rfl dX0_addHouse_16 ?_
    refine e_iload1 dX0_addHouse_19 ?_
    refine e_iast la_2 (⟨by omega, by omega⟩) dX0_addHouse_20 ?_
    refine e_aload0 dX0_addHouse_21 ?_
    refine e_getR fl_X0_19 la_1 rfl dX0_addHouse_22 ?_
    refine e_aload0 dX0_addHouse_25 ?_
    refine e_getI fl_X0_9 la_1 rfl dX0_addHouse_26 ?_
    refine WW.ec (y := M 1 0) (by simp [up]) ?_
    refine e_iload2 dX0_addHouse_29 ?_
    refine e_iast la_3 (⟨by omega, by omega⟩) dX0_addHouse_30 ?_
    refine e_aload0 dX0_addHouse_31 ?_
    refine e_getR fl_X0_22 la_1 rfl dX0_addHouse_32 ?_
    refine e_aload0 dX0_addHouse_35 ?_
    refine e_getI fl_X0_9 la_1 rfl dX0_addHouse_36 ?_
    refine WW.ec (y := M 1 0) (by simp [up]) ?_
    refine e_iconst dX0_addHouse_39 rfl kc_0 ?_
    refine e_iast la_4 (⟨by omega, by omega⟩) dX0_addHouse_40 ?_
    refine e_aload0 dX0_addHouse_41 ?_
    refine e_getR fl_X0_25 la_1 rfl dX0_addHouse_42 ?_
    refine e_aload0 dX0_addHouse_45 ?_
    refine e_getI fl_X0_9 la_1 rfl dX0_addHouse_46 ?_
    refine WW.ec (y := M 1 0) (by simp [up]) ?_
    refine e_iconst dX0_addHouse_49 rfl kc_0 ?_
    refine e_iast la_5 (⟨by omega, by omega⟩) dX0_addHouse_50 ?_
    refine e_aload0 dX0_addHouse_51 ?_
    refine e_dup dX0_addHouse_52 rfl ?_
    refine e_getI fl_X0_9 la_1 rfl dX0_addHouse_53 ?_
    refine WW.ec (y := M 1 0) (by simp [up]) ?_
    refine e_iconst dX0_addHouse_56 rfl kc_1 ?_
    refine e_iadd dX0_addHouse_57 (⟨by omega, by omega⟩) ?_
    refine e_putI fp_X0_9 la_1 rfl dX0_addHouse_58 ?_
    refine e_aload0 dX0_addHouse_61 ?_
    refine e_getI fl_X0_9 la_1 rfl dX0_addHouse_62 ?_
    refine WW.ec (y := M 1 0 + 1) (by simp [up]) ?_
    refine e_iconst dX0_addHouse_65 rfl kc_1 ?_
    refine e_isub dX0_addHouse_66 (⟨by omega, by omega⟩) ?_
    refine e_iret dX0_addHouse_67 ?_
    exact ⟨by rw [if_pos (by omega)]; rfl, by rw [if_pos (by omega)]; congr 2; omega⟩
  · refine e_iconst dX0_addHouse_9 rfl kc_m1 ?_
    refine e_iret dX0_addHouse_10 ?_
    exact ⟨by rw [if_neg (by omega)], by rw [if_neg (by omega)]⟩
theorem ct_X0_addDrip (hd : 1 ≤ d) {c i h m t : Int} (hb : 0 ≤ M 1 13 ∧ M 1 13 ≤ 72) : PV l w yX0_addDrip cX0_addDrip 7 d [vR 1, vI c, vI i, vI h, vI m, vI t] M (if M 1 13 < 72 then addD M c i h m t else M) := by
  refine MT.of [some (vR 1), some (vI c), some (vI i), some (vI h), some (vI m), some (vI t), none] ⟨by decide, rfl⟩ rfl (Nat.le_of_ble_eq_true rfl) (fun hA hM => ?_)
  refine e_aload0 dX0_addDrip_0 ?_
  refine e_getI fl_X0_52 la_1 rfl dX0_addDrip_1 ?_
  refine e_bipush dX0_addDrip_4 rfl kb_72 ?_
  refine e_icmp_lt (tgt := 10) dX0_addDrip_6 (by decide) (fun h6 => ?_) (fun h6 => ?_)
  · refine e_aload0 dX0_addDrip_10 ?_
    refine e_getI fl_X0_52 la_1 rfl dX0_addDrip_11 ?_
    refine e_iconst dX0_addDrip_14 rfl kc_5 ?_
    refine e_imul dX0_addDrip_15 (⟨by omega, by omega⟩) ?_
    refine e_istore6 dX0_addDrip_16 rfl ?_
    refine e_aload0 dX0_addDrip_18 ?_
    refine e_getR fl_X0_55 la_1 rfl dX0_addDrip_19 ?_
    refine e_iload6 dX0_addDrip_22 ?_
    refine e_iload1 dX0_addDrip_24 ?_
    refine e_iast la_12 (⟨by omega, by omega⟩) dX0_addDrip_25 ?_
    refine e_aload0 dX0_addDrip_26 ?_
    refine e_getR fl_X0_55 la_1 rfl dX0_addDrip_27 ?_
    refine e_iload6 dX0_addDrip_30 ?_
    refine e_iconst dX0_addDrip_32 rfl kc_1 ?_
    refine e_iadd dX0_addDrip_33 (⟨by omega, by omega⟩) ?_
    refine e_iload2 dX0_addDrip_34 ?_
    refine e_iast la_12 (⟨by omega, by omega⟩) dX0_addDrip_35 ?_
    refine e_aload0 dX0_addDrip_36 ?_
    refine e_getR fl_X0_55 la_1 rfl dX0_addDrip_37 ?_
    refine e_iload6 dX0_addDrip_40 ?_
    refine e_iconst dX0_addDrip_42 rfl kc_2 ?_
    refine e_iadd dX0_addDrip_43 (⟨by omega, by omega⟩) ?_
    refine e_iload3 dX0_addDrip_44 ?_
    refine e_iast la_12 (⟨by omega, by omega⟩) dX0_addDrip_45 ?_
    refine e_aload0 dX0_addDrip_46 ?_
    refine e_getR fl_X0_55 la_1 rfl dX0_addDrip_47 ?_
    refine e_iload6 dX0_addDrip_50 ?_
    refine e_iconst dX0_addDrip_52 rfl kc_3 ?_
    refine e_iadd dX0_addDrip_53 (⟨by omega, by omega⟩) ?_
    refine e_iload4 dX0_addDrip_54 ?_
    refine e_iast la_12 (⟨by omega, by omega⟩) dX0_addDrip_56 ?_
    refine e_aload0 dX0_addDrip_57 ?_
    refine e_getR fl_X0_55 la_1 rfl dX0_addDrip_58 ?_
    refine e_iload6 dX0_addDrip_61 ?_
    refine e_iconst dX0_addDrip_63 rfl kc_4 ?_
    refine e_iadd dX0_addDrip_64 (⟨by omega, by omega⟩) ?_
    refine e_iload5 dX0_addDrip_65 ?_
    refine e_iast la_12 (⟨by omega, by omega⟩) dX0_addDrip_67 ?_
    refine e_aload0 dX0_addDrip_68 ?_
    refine e_dup dX0_addDrip_69 rfl ?_
    refine e_getI fl_X0_52 la_1 rfl dX0_addDrip_70 ?_
    refine WW.ec (y := M 1 13) (by simp [up]) ?_
    refine e_iconst dX0_addDrip_73 rfl kc_1 ?_
    refine e_iadd dX0_addDrip_74 (⟨by omega, by omega⟩) ?_
    refine e_putI fp_X0_52 la_1 rfl dX0_addDrip_75 ?_
    refine e_vret dX0_addDrip_78 ?_
    exact ⟨by rw [if_pos (by omega)]; rfl, rfl⟩
  · refine e_vret dX0_addDrip_9 ?_
    exact ⟨by rw [if_neg (by omega)], rfl⟩
theorem ct_X0_dripPart (hd : 1 ≤ d) {i k : Int} (hi : 0 ≤ i ∧ i < 72) (hk : 0 ≤ k ∧ k < 5) : PI l w yX0_dripPart cX0_dripPart 4 d [vR 1, vI i, vI k] M (M 12 (i * 5 + k).toNat) M := by
  refine MT.of [some (vR 1), some (vI i), some (vI k), none] ⟨by decide, rfl⟩ rfl (Nat.le_of_ble_eq_true rfl) (fun hA hM => ?_)
  refine e_iload1 dX0_dripPart_0 ?_
  refine e_iconst dX0_dripPart_1 rfl kc_5 ?_
  refine e_imul dX0_dripPart_2 (⟨by omega, by omega⟩) ?_
  refine e_iload2 dX0_dripPart_3 ?_
  refine e_iadd dX0_dripPart_4 (⟨by omega, by omega⟩) ?_
  refine e_istore3 dX0_dripPart_5 rfl ?_
  refine e_iload3 dX0_dripPart_6 ?_
  refine e_if_lt (tgt := 28) dX0_dripPart_7 (by decide) (fun h => absurd h (by omega)) (fun h7 => ?_)
  refine e_iload3 dX0_dripPart_10 ?_
  refine e_aload0 dX0_dripPart_11 ?_
  refine e_getR fl_X0_55 la_1 rfl dX0_dripPart_12 ?_
  refine e_alen la_12 (by decide) (by decide) dX0_dripPart_15 ?_
  refine e_icmp_ge (tgt := 28) dX0_dripPart_16 (by decide) (fun h => absurd h (by omega)) (fun h16 => ?_)
  refine e_aload0 dX0_dripPart_19 ?_
  refine e_getR fl_X0_55 la_1 rfl dX0_dripPart_20 ?_
  refine e_iload3 dX0_dripPart_23 ?_
  refine e_iald la_12 (⟨by omega, by omega⟩) dX0_dripPart_24 ?_
  refine e_goto (tgt := 30) dX0_dripPart_25 (by decide) ?_
  refine e_iret dX0_dripPart_30 ?_
  exact ⟨rfl, rfl⟩
theorem ct_X0_draw (hd : 1 ≤ d) {m : Int} (hm : 1 ≤ m ∧ m ≤ 100) (hx : 0 ≤ M 1 12 ∧ M 1 12 ≤ 50000) : PI l w yX0_draw cX0_draw 3 d [vR 1, vI m] M (M 1 12 % m) (up M 1 12 ((M 1 12 * 179 + 83) % 30011)) := by
  refine MT.of [some (vR 1), some (vI m), none] ⟨by decide, rfl⟩ rfl (Nat.le_of_ble_eq_true rfl) (fun hA hM => ?_)
  refine e_iload1 dX0_draw_0 ?_
  refine e_if_le (tgt := 13) dX0_draw_1 (by decide) (fun h => absurd h (by omega)) (fun h1 => ?_)
  refine e_aload0 dX0_draw_4 ?_
  refine e_getI fl_X0_49 la_1 rfl dX0_draw_5 ?_
  refine e_iload1 dX0_draw_8 ?_
  refine e_irem dX0_draw_9 (by omega) (tmodR (by omega) (by omega) (by omega)) ?_
  refine WW.ec (y := M 1 12 % m) (Int.tmod_eq_emod_of_nonneg (by omega)) ?_
  refine e_goto (tgt := 14) dX0_draw_10 (by decide) ?_
  refine e_istore2 dX0_draw_14 rfl ?_
  refine e_aload0 dX0_draw_15 ?_
  refine e_aload0 dX0_draw_16 ?_
  refine e_getI fl_X0_49 la_1 rfl dX0_draw_17 ?_
  refine e_sipush dX0_draw_20 rfl ks_179 ?_
  refine e_imul dX0_draw_23 (⟨by omega, by omega⟩) ?_
  refine e_bipush dX0_draw_24 rfl kb_83 ?_
  refine e_iadd dX0_draw_26 (⟨by omega, by omega⟩) ?_
  refine e_sipush dX0_draw_27 rfl ks_30011 ?_
  refine e_irem dX0_draw_30 (by omega) (tmodR (by omega) (by omega) (by omega)) ?_
  refine WW.ec (y := (M 1 12 * 179 + 83) % 30011) (Int.tmod_eq_emod_of_nonneg (by omega)) ?_
  refine e_putI fp_X0_49 la_1 rfl dX0_draw_31 ?_
  refine e_iload2 dX0_draw_34 ?_
  refine e_iret dX0_draw_35 ?_
  exact ⟨rfl, rfl⟩
theorem ct_X0_isOwnedIn (hd : 4 ≤ d) (hI : IB M) {s c i : Int} : PZ l w yX0_isOwnedIn cX0_isOwnedIn 5 d [vR 1, vI s, vI c, vI i] M (ow M s c i) := by
  refine MT.of [some (vR 1), some (vI s), some (vI c), some (vI i), none] ⟨by decide, rfl⟩ rfl (Nat.le_of_ble_eq_true rfl) (fun hA hM => ?_)
  refine e_aload0 dX0_isOwnedIn_0 ?_
  refine e_iload2 dX0_isOwnedIn_1 ?_
  refine e_iload3 dX0_isOwnedIn_2 ?_
  refine e_cVI (ct_X0_ownerOf (d := d - 1) (by omega) hI) cy_X0_ownerOf cv_X0_ownerOf ml_X0_72 la_1 rfl rfl rfl (rok (by omega) (by decide)) (Nat.le_of_ble_eq_true rfl) dX0_isOwnedIn_3 ?_
  refine e_istore4 dX0_isOwnedIn_6 rfl ?_
  refine e_iload4 dX0_isOwnedIn_8 ?_
  refine e_iconst dX0_isOwnedIn_10 rfl kc_m1 ?_
  refine e_icmp_eq (tgt := 28) dX0_isOwnedIn_11 (by decide) (fun h11 => ?_) (fun h11 => ?_)
  · refine e_iconst dX0_isOwnedIn_28 rfl kc_0 ?_
    refine e_zret dX0_isOwnedIn_29 (by decide) ?_
    exact ⟨rfl, Or.inr ⟨rfl, by unfold ow; omega⟩⟩
  · refine e_iload1 dX0_isOwnedIn_14 ?_
    refine e_iload4 dX0_isOwnedIn_15 ?_
    refine e_ishr dX0_isOwnedIn_17 ?_
    refine e_iconst dX0_isOwnedIn_18 rfl kc_1 ?_
    refine e_iand dX0_isOwnedIn_19 ?_
    refine e_iconst dX0_isOwnedIn_20 rfl kc_1 ?_
    refine e_icmp_ne (tgt := 28) dX0_isOwnedIn_21 (by decide) (fun h21 => ?_) (fun h21 => ?_)
    · refine e_iconst dX0_isOwnedIn_28 rfl kc_0 ?_
      refine e_zret dX0_isOwnedIn_29 (by decide) ?_
      exact ⟨rfl, Or.inr ⟨rfl, by unfold ow; omega⟩⟩
    · refine e_iconst dX0_isOwnedIn_24 rfl kc_1 ?_
      refine e_goto (tgt := 29) dX0_isOwnedIn_25 (by decide) ?_
      refine e_zret dX0_isOwnedIn_29 (by decide) ?_
      exact ⟨rfl, Or.inl ⟨rfl, by unfold ow; omega⟩⟩
theorem lp_X0_housesWith (hd : 1 ≤ d) (hI : IB M) {p : Int} (k : WM l w RX0 cX0_housesWith 4 (some .int) d Q 31 [some (vR 1), some (vI p), some (vI (cntH M p (M 1 0).toNat)), some (vI (M 1 0))] [] M) :
    ∀ (n i : Nat), i + n = (M 1 0).toNat → WM l w RX0 cX0_housesWith 4 (some .int) d Q 4 [some (vR 1), some (vI p), some (vI (cntH M p i)), some (vI i)] [] M := by
  have hb := hI.1
  intro n
  induction n with
  | zero =>
    intro i hi
    have e : i = (M 1 0).toNat := by omega
    refine e_iload3 dX0_housesWith_4 ?_
    refine e_aload0 dX0_housesWith_5 ?_
    refine e_getI fl_X0_9 la_1 rfl dX0_housesWith_6 ?_
    refine e_icmp_ge (tgt := 31) dX0_housesWith_9 (by decide) (fun h9 => ?_) (fun h => absurd h (by omega))
    subst e
    rw [show (((M 1 0).toNat : Nat) : Int) = M 1 0 by omega]
    exact k
  | succ n ih =>
    intro i hi
    have hc := cntH_b M p i
    refine e_iload3 dX0_housesWith_4 ?_
    refine e_aload0 dX0_housesWith_5 ?_
    refine e_getI fl_X0_9 la_1 rfl dX0_housesWith_6 ?_
    refine e_icmp_ge (tgt := 31) dX0_housesWith_9 (by decide) (fun h => absurd h (by omega)) (fun h9 => ?_)
    refine e_aload0 dX0_housesWith_12 ?_
    refine e_getR fl_X0_19 la_1 rfl dX0_housesWith_13 ?_
    refine e_iload3 dX0_housesWith_16 ?_
    refine e_iald la_3 (⟨by omega, by omega⟩) dX0_housesWith_17 ?_
    refine e_iload1 dX0_housesWith_18 ?_
    refine e_icmp_lt (tgt := 25) dX0_housesWith_19 (by decide) (fun h19 => ?_) (fun h19 => ?_)
    · refine e_iinc3 dX0_housesWith_25 rfl (⟨by omega, by omega⟩) rfl ?_
      refine e_goto (tgt := 4) dX0_housesWith_28 (by decide) ?_
      refine WW.cv ?_ rfl rfl (ih (i + 1) (by omega))
      simp only [cntH, Int.toNat_natCast] at h19 ⊢
      first | rw [if_pos (by omega)] | (rw [if_neg (by omega)]; simp)
      try rfl
    · refine e_iinc2 dX0_housesWith_22 rfl (⟨by omega, by omega⟩) rfl ?_
      refine e_iinc3 dX0_housesWith_25 rfl (⟨by omega, by omega⟩) rfl ?_
      refine e_goto (tgt := 4) dX0_housesWith_28 (by decide) ?_
      refine WW.cv ?_ rfl rfl (ih (i + 1) (by omega))
      simp only [cntH, Int.toNat_natCast] at h19 ⊢
      first | rw [if_pos (by omega)] | (rw [if_neg (by omega)]; simp)
      try rfl
theorem ct_X0_housesWith (hd : 1 ≤ d) (hI : IB M) {p : Int} : PI l w yX0_housesWith cX0_housesWith 4 d [vR 1, vI p] M (cntH M p (M 1 0).toNat) M := by
  refine MT.of [some (vR 1), some (vI p), none, none] ⟨by decide, rfl⟩ rfl (Nat.le_of_ble_eq_true rfl) (fun hA hM => ?_)
  refine e_iconst dX0_housesWith_0 rfl kc_0 ?_
  refine e_istore2 dX0_housesWith_1 rfl ?_
  refine e_iconst dX0_housesWith_2 rfl kc_0 ?_
  refine e_istore3 dX0_housesWith_3 rfl ?_
  refine lp_X0_housesWith hd hI ?_ (M 1 0).toNat 0 (by omega)
  refine e_iload2 dX0_housesWith_31 ?_
  exact e_iret dX0_housesWith_32 ⟨rfl, rfl⟩
theorem lp_X0_candlesIn (hd : 1 ≤ d) (hI : IB M) {p : Int} (k : WM l w RX0 cX0_candlesIn 4 (some .int) d Q 31 [some (vR 1), some (vI p), some (vI (cntS M p (M 1 5).toNat)), some (vI (M 1 5))] [] M) :
    ∀ (n i : Nat), i + n = (M 1 5).toNat → WM l w RX0 cX0_candlesIn 4 (some .int) d Q 4 [some (vR 1), some (vI p), some (vI (cntS M p i)), some (vI i)] [] M := by
  have hb := hI.2.1
  intro n
  induction n with
  | zero =>
    intro i hi
    have e : i = (M 1 5).toNat := by omega
    refine e_iload3 dX0_candlesIn_4 ?_
    refine e_aload0 dX0_candlesIn_5 ?_
    refine e_getI fl_X0_28 la_1 rfl dX0_candlesIn_6 ?_
    refine e_icmp_ge (tgt := 31) dX0_candlesIn_9 (by decide) (fun h9 => ?_) (fun h => absurd h (by omega))
    subst e
    rw [show (((M 1 5).toNat : Nat) : Int) = M 1 5 by omega]
    exact k
  | succ n ih =>
    intro i hi
    have hc := cntS_b M p i
    refine e_iload3 dX0_candlesIn_4 ?_
    refine e_aload0 dX0_candlesIn_5 ?_
    refine e_getI fl_X0_28 la_1 rfl dX0_candlesIn_6 ?_
    refine e_icmp_ge (tgt := 31) dX0_candlesIn_9 (by decide) (fun h => absurd h (by omega)) (fun h9 => ?_)
    refine e_aload0 dX0_candlesIn_12 ?_
    refine e_getR fl_X0_37 la_1 rfl dX0_candlesIn_13 ?_
    refine e_iload3 dX0_candlesIn_16 ?_
    refine e_iald la_8 (⟨by omega, by omega⟩) dX0_candlesIn_17 ?_
    refine e_iload1 dX0_candlesIn_18 ?_
    refine e_icmp_ne (tgt := 25) dX0_candlesIn_19 (by decide) (fun h19 => ?_) (fun h19 => ?_)
    · refine e_iinc3 dX0_candlesIn_25 rfl (⟨by omega, by omega⟩) rfl ?_
      refine e_goto (tgt := 4) dX0_candlesIn_28 (by decide) ?_
      refine WW.cv ?_ rfl rfl (ih (i + 1) (by omega))
      simp only [cntS, Int.toNat_natCast] at h19 ⊢
      first | rw [if_pos (by omega)] | (rw [if_neg (by omega)]; simp)
      try rfl
    · refine e_iinc2 dX0_candlesIn_22 rfl (⟨by omega, by omega⟩) rfl ?_
      refine e_iinc3 dX0_candlesIn_25 rfl (⟨by omega, by omega⟩) rfl ?_
      refine e_goto (tgt := 4) dX0_candlesIn_28 (by decide) ?_
      refine WW.cv ?_ rfl rfl (ih (i + 1) (by omega))
      simp only [cntS, Int.toNat_natCast] at h19 ⊢
      first | rw [if_pos (by omega)] | (rw [if_neg (by omega)]; simp)
      try rfl
theorem ct_X0_candlesIn (hd : 1 ≤ d) (hI : IB M) {p : Int} : PI l w yX0_candlesIn cX0_candlesIn 4 d [vR 1, vI p] M (cntS M p (M 1 5).toNat) M := by
  refine MT.of [some (vR 1), some (vI p), none, none] ⟨by decide, rfl⟩ rfl (Nat.le_of_ble_eq_true rfl) (fun hA hM => ?_)
  refine e_iconst dX0_candlesIn_0 rfl kc_0 ?_
  refine e_istore2 dX0_candlesIn_1 rfl ?_
  refine e_iconst dX0_candlesIn_2 rfl kc_0 ?_
  refine e_istore3 dX0_candlesIn_3 rfl ?_
  refine lp_X0_candlesIn hd hI ?_ (M 1 5).toNat 0 (by omega)
  refine e_iload2 dX0_candlesIn_31 ?_
  exact e_iret dX0_candlesIn_32 ⟨rfl, rfl⟩
theorem lp_X0_freeInches (hd : 4 ≤ d) (hI : IB M) {p : Int} (k : WM l w RX0 cX0_freeInches 4 (some .int) d Q 38 [some (vR 1), some (vI p), some (vI (cntF M p 12)), some (vI 12)] [] M) :
    ∀ (n i : Nat), i + n = 12 → WM l w RX0 cX0_freeInches 4 (some .int) d Q 4 [some (vR 1), some (vI p), some (vI (cntF M p i)), some (vI i)] [] M := by
  intro n
  induction n with
  | zero =>
    intro i hi
    obtain rfl : i = 12 := by omega
    refine e_iload3 dX0_freeInches_4 ?_
    refine e_bipush dX0_freeInches_5 rfl kb_12 ?_
    refine e_icmp_ge (tgt := 38) dX0_freeInches_7 (by decide) (fun h7 => ?_) (fun h => absurd h (by omega))
    exact k
  | succ n ih =>
    intro i hi
    have hc := cntF_b M p i
    refine e_iload3 dX0_freeInches_4 ?_
    refine e_bipush dX0_freeInches_5 rfl kb_12 ?_
    refine e_icmp_ge (tgt := 38) dX0_freeInches_7 (by decide) (fun h => absurd h (by omega)) (fun h7 => ?_)
    refine e_aload0 dX0_freeInches_10 ?_
    refine e_iload1 dX0_freeInches_11 ?_
    refine e_iload3 dX0_freeInches_12 ?_
    refine e_cVZ (ct_X0_isInch (d := d - 1) (by omega) hI) cy_X0_isInch cv_X0_isInch ml_X0_68 la_1 rfl rfl rfl (rok (by omega) (by decide)) (Nat.le_of_ble_eq_true rfl) dX0_freeInches_13 (fun g13 => ?_) (fun g13 => ?_)
    · refine e_if_eq (tgt := 32) dX0_freeInches_16 (by decide) (fun h => absurd h (by decide)) (fun _ => ?_)
      refine e_aload0 dX0_freeInches_19 ?_
      refine e_iload1 dX0_freeInches_20 ?_
      refine e_iload3 dX0_freeInches_21 ?_
      refine e_cVI (ct_X0_ownerOf (d := d - 1) (by omega) hI) cy_X0_ownerOf cv_X0_ownerOf ml_X0_72 la_1 rfl rfl rfl (rok (by omega) (by decide)) (Nat.le_of_ble_eq_true rfl) dX0_freeInches_22 ?_
      refine e_iconst dX0_freeInches_25 rfl kc_m1 ?_
      refine e_icmp_ne (tgt := 32) dX0_freeInches_26 (by decide) (fun h26 => ?_) (fun h26 => ?_)
      · refine e_iinc3 dX0_freeInches_32 rfl (⟨by omega, by omega⟩) rfl ?_
        refine e_goto (tgt := 4) dX0_freeInches_35 (by decide) ?_
        refine WW.cv ?_ rfl rfl (ih (i + 1) (by omega))
        simp only [cntF]
        by_cases hq : isIn M p i ∧ ownr M p i = -1
        · rw [if_pos hq]; first | rfl | (exfalso; exact g13 hq.1) | (exfalso; exact h26 hq.2)
        · rw [if_neg hq]; first | (simp; done) | (exfalso; exact hq (And.intro g13 (by omega)))
      · refine e_iinc2 dX0_freeInches_29 rfl (⟨by omega, by omega⟩) rfl ?_
        refine e_iinc3 dX0_freeInches_32 rfl (⟨by omega, by omega⟩) rfl ?_
        refine e_goto (tgt := 4) dX0_freeInches_35 (by decide) ?_
        refine WW.cv ?_ rfl rfl (ih (i + 1) (by omega))
        simp only [cntF]
        by_cases hq : isIn M p i ∧ ownr M p i = -1
        · rw [if_pos hq]; first | rfl | (exfalso; exact g13 hq.1) | (exfalso; exact h26 hq.2)
        · rw [if_neg hq]; first | (simp; done) | (exfalso; exact hq (And.intro g13 (by omega)))
    · refine e_if_eq (tgt := 32) dX0_freeInches_16 (by decide) (fun _ => ?_) (fun h => absurd h (by decide))
      refine e_iinc3 dX0_freeInches_32 rfl (⟨by omega, by omega⟩) rfl ?_
      refine e_goto (tgt := 4) dX0_freeInches_35 (by decide) ?_
      refine WW.cv ?_ rfl rfl (ih (i + 1) (by omega))
      simp only [cntF]
      by_cases hq : isIn M p i ∧ ownr M p i = -1
      · rw [if_pos hq]; first | rfl | (exfalso; exact g13 hq.1) | (exfalso; exact h26 hq.2)
      · rw [if_neg hq]; first | (simp; done) | (exfalso; exact hq (And.intro g13 (by omega)))
theorem ct_X0_freeInches (hd : 4 ≤ d) (hI : IB M) {p : Int} : PI l w yX0_freeInches cX0_freeInches 4 d [vR 1, vI p] M (cntF M p 12) M := by
  refine MT.of [some (vR 1), some (vI p), none, none] ⟨by decide, rfl⟩ rfl (Nat.le_of_ble_eq_true rfl) (fun hA hM => ?_)
  refine e_iconst dX0_freeInches_0 rfl kc_0 ?_
  refine e_istore2 dX0_freeInches_1 rfl ?_
  refine e_iconst dX0_freeInches_2 rfl kc_0 ?_
  refine e_istore3 dX0_freeInches_3 rfl ?_
  refine lp_X0_freeInches hd hI ?_ 12 0 (by omega)
  refine e_iload2 dX0_freeInches_38 ?_
  exact e_iret dX0_freeInches_39 ⟨rfl, rfl⟩
theorem lp_X0_addCandle (hd : 1 ≤ d) {M0 : Mem} {c : Nat} (hc : c < 6) (h5 : M0 1 5 = c) {a b : Int} (k : WM l w RX0 cX0_addCandle 4 (some .int) d Q 90 [some (vR 1), some (vI a), some (vI b), some (vI 12)] [] (fill M0 11 (12 * c) 12 (-1))) :
    ∀ (n i : Nat), i + n = 12 → WM l w RX0 cX0_addCandle 4 (some .int) d Q 63 [some (vR 1), some (vI a), some (vI b), some (vI i)] [] (fill M0 11 (12 * c) i (-1)) := by
  intro n
  induction n with
  | zero =>
    intro i hi
    obtain rfl : i = 12 := by omega
    refine e_iload3 dX0_addCandle_63 ?_
    refine e_bipush dX0_addCandle_64 rfl kb_12 ?_
    refine e_icmp_ge (tgt := 90) dX0_addCandle_66 (by decide) (fun h66 => ?_) (fun h => absurd h (by omega))
    exact k
  | succ n ih =>
    intro i hi
    refine e_iload3 dX0_addCandle_63 ?_
    refine e_bipush dX0_addCandle_64 rfl kb_12 ?_
    refine e_icmp_ge (tgt := 90) dX0_addCandle_66 (by decide) (fun h => absurd h (by omega)) (fun h66 => ?_)
    refine e_aload0 dX0_addCandle_69 ?_
    refine e_getR fl_X0_46 la_1 rfl dX0_addCandle_70 ?_
    refine e_aload0 dX0_addCandle_73 ?_
    refine e_getI fl_X0_28 la_1 rfl dX0_addCandle_74 ?_
    refine WW.ec (y := (c : Int)) (by rw [fill_o (by decide), h5]) ?_
    refine e_bipush dX0_addCandle_77 rfl kb_12 ?_
    refine e_imul dX0_addCandle_79 (⟨by omega, by omega⟩) ?_
    refine e_iload3 dX0_addCandle_80 ?_
    refine e_iadd dX0_addCandle_81 (⟨by omega, by omega⟩) ?_
    refine e_iconst dX0_addCandle_82 rfl kc_m1 ?_
    refine e_iast la_11 (⟨by omega, by omega⟩) dX0_addCandle_83 ?_
    refine e_iinc3 dX0_addCandle_84 rfl (⟨by omega, by omega⟩) rfl ?_
    refine e_goto (tgt := 63) dX0_addCandle_87 (by decide) ?_
    refine WW.cv rfl rfl ?_ (ih (i + 1) (by omega))
    rw [← fill_s, show ((c : Int) * 12 + (i : Int)).toNat = 12 * c + i by omega]
theorem ct_X0_addCandle (hd : 1 ≤ d) (hI : IB M) {th ln : Int} : PI l w yX0_addCandle cX0_addCandle 4 d [vR 1, vI th, vI ln] M (if M 1 5 < 6 then M 1 5 else -1) (if M 1 5 < 6 then addC M th ln else M) := by
  have hb := hI.2.1
  refine MT.of [some (vR 1), some (vI th), some (vI ln), none] ⟨by decide, rfl⟩ rfl (Nat.le_of_ble_eq_true rfl) (fun hA hM => ?_)
  refine e_aload0 dX0_addCandle_0 ?_
  refine e_getI fl_X0_28 la_1 rfl dX0_addCandle_1 ?_
  refine e_bipush dX0_addCandle_4 rfl kb_6 ?_
  refine e_icmp_lt (tgt := 11) dX0_addCandle_6 (by decide) (fun h6 => ?_) (fun h6 => ?_)
  · refine e_aload0 dX0_addCandle_11 ?_
    refine e_getR fl_X0_31 la_1 rfl dX0_addCandle_12 ?_
    refine e_aload0 dX0_addCandle_15 ?_
    refine e_getI fl_X0_28 la_1 rfl dX0_addCandle_16 ?_
    refine e_iload1 dX0_addCandle_19 ?_
    refine e_iast la_6 (⟨by omega, by omega⟩) dX0_addCandle_20 ?_
    refine e_aload0 dX0_addCandle_21 ?_
    refine e_getR fl_X0_34 la_1 rfl dX0_addCandle_22 ?_
    refine e_aload0 dX0_addCandle_25 ?_
    refine e_getI fl_X0_28 la_1 rfl dX0_addCandle_26 ?_
    refine WW.ec (y := M 1 5) (by simp [up]) ?_
    refine e_iload2 dX0_addCandle_29 ?_
    refine e_iast la_7 (⟨by omega, by omega⟩) dX0_addCandle_30 ?_
    refine e_aload0 dX0_addCandle_31 ?_
    refine e_getR fl_X0_37 la_1 rfl dX0_addCandle_32 ?_
    refine e_aload0 dX0_addCandle_35 ?_
    refine e_getI fl_X0_28 la_1 rfl dX0_addCandle_36 ?_
    refine WW.ec (y := M 1 5) (by simp [up]) ?_
    refine e_iconst dX0_addCandle_39 rfl kc_0 ?_
    refine e_iast la_8 (⟨by omega, by omega⟩) dX0_addCandle_40 ?_
    refine e_aload0 dX0_addCandle_41 ?_
    refine e_getR fl_X0_40 la_1 rfl dX0_addCandle_42 ?_
    refine e_aload0 dX0_addCandle_45 ?_
    refine e_getI fl_X0_28 la_1 rfl dX0_addCandle_46 ?_
    refine WW.ec (y := M 1 5) (by simp [up]) ?_
    refine e_iconst dX0_addCandle_49 rfl kc_m1 ?_
    refine e_iast la_9 (⟨by omega, by omega⟩) dX0_addCandle_50 ?_
    refine e_aload0 dX0_addCandle_51 ?_
    refine e_getR fl_X0_43 la_1 rfl dX0_addCandle_52 ?_
    refine e_aload0 dX0_addCandle_55 ?_
    refine e_getI fl_X0_28 la_1 rfl dX0_addCandle_56 ?_
    refine WW.ec (y := M 1 5) (by simp [up]) ?_
    refine e_iconst dX0_addCandle_59 rfl kc_0 ?_
    refine e_iast la_10 (⟨by omega, by omega⟩) dX0_addCandle_60 ?_
    refine e_iconst dX0_addCandle_61 rfl kc_0 ?_
    refine e_istore3 dX0_addCandle_62 rfl ?_
    have e0 : fill (addC0 M th ln) 11 (12 * (M 1 5).toNat) 0 (-1) = addC0 M th ln := fill_0 _ _ _ _
    refine WW.cv rfl rfl e0.symm (lp_X0_addCandle hd (c := (M 1 5).toNat) (by omega) (by simp [addC0, up]; omega) ?_ 12 0 (by omega))
    refine e_aload0 dX0_addCandle_90 ?_
    refine e_dup dX0_addCandle_91 rfl ?_
    refine e_getI fl_X0_28 la_1 rfl dX0_addCandle_92 ?_
    refine WW.ec (y := M 1 5) (by rw [fill_o (by decide)]; simp [addC0, up]) ?_
    refine e_iconst dX0_addCandle_95 rfl kc_1 ?_
    refine e_iadd dX0_addCandle_96 (⟨by omega, by omega⟩) ?_
    refine e_putI fp_X0_28 la_1 rfl dX0_addCandle_97 ?_
    refine e_aload0 dX0_addCandle_100 ?_
    refine e_getI fl_X0_28 la_1 rfl dX0_addCandle_101 ?_
    refine WW.ec (y := M 1 5 + 1) (by simp [up]) ?_
    refine e_iconst dX0_addCandle_104 rfl kc_1 ?_
    refine e_isub dX0_addCandle_105 (⟨by omega, by omega⟩) ?_
    refine e_iret dX0_addCandle_106 ?_
    exact ⟨by rw [if_pos (by omega)]; rfl, by rw [if_pos (by omega)]; congr 2; omega⟩
  · refine e_iconst dX0_addCandle_9 rfl kc_m1 ?_
    refine e_iret dX0_addCandle_10 ?_
    exact ⟨by rw [if_neg (by omega)], by rw [if_neg (by omega)]⟩
theorem ct_X0_copyRow (hd : 1 ≤ d) {f t n b1 s1 b2 s2 : Nat} (hf : lay[f]? = some (.inr (0, n, b1, s1))) (ht : lay[t]? = some (.inr (0, n, b2, s2))) (hn : n < 2147483648) (hft : f ≠ t) : PV l w yX0_copyRow cX0_copyRow 3 d [vR f, vR t] M (cpy M f t n) := by
  have loop : ∀ (q i : Nat), i + q = n → WM l w RX0 cX0_copyRow 3 none d (fun r M' => M' = cpy M f t n ∧ r = none) 2 [some (vR f), some (vR t), some (vI i)] [] (cpy M f t i) := by
    intro q
    induction q with
    | zero =>
      intro i hi
      obtain rfl : i = n := by omega
      refine e_iload2 dX0_copyRow_2 ?_
      refine e_aload0 dX0_copyRow_3 ?_
      refine e_alen hf (by decide) (hn) dX0_copyRow_4 ?_
      refine e_icmp_ge (tgt := 26) dX0_copyRow_5 (by decide) (fun h5 => ?_) (fun h => absurd h (by omega))
      refine e_vret dX0_copyRow_26 ?_
      exact ⟨rfl, rfl⟩
    | succ q ih =>
      intro i hi
      refine e_iload2 dX0_copyRow_2 ?_
      refine e_aload0 dX0_copyRow_3 ?_
      refine e_alen hf (by decide) (hn) dX0_copyRow_4 ?_
      refine e_icmp_ge (tgt := 26) dX0_copyRow_5 (by decide) (fun h => absurd h (by omega)) (fun h5 => ?_)
      refine e_iload2 dX0_copyRow_8 ?_
      refine e_aload1 dX0_copyRow_9 ?_
      refine e_alen ht (by decide) (hn) dX0_copyRow_10 ?_
      refine e_icmp_ge (tgt := 26) dX0_copyRow_11 (by decide) (fun h => absurd h (by omega)) (fun h11 => ?_)
      refine e_aload1 dX0_copyRow_14 ?_
      refine e_iload2 dX0_copyRow_15 ?_
      refine e_aload0 dX0_copyRow_16 ?_
      refine e_iload2 dX0_copyRow_17 ?_
      refine e_iald hf (⟨by omega, by omega⟩) dX0_copyRow_18 ?_
      refine e_iast ht (⟨by omega, by omega⟩) dX0_copyRow_19 ?_
      refine e_iinc2 dX0_copyRow_20 rfl (⟨by omega, by omega⟩) rfl ?_
      refine e_goto (tgt := 2) dX0_copyRow_23 (by decide) ?_
      refine WW.cv rfl rfl ?_ (ih (i + 1) (by omega))
      rw [← cpy_s hft, Int.toNat_natCast]
  refine MT.of [some (vR f), some (vR t), none] ⟨by decide, rfl⟩ rfl (Nat.le_of_ble_eq_true rfl) (fun hA hM => ?_)
  refine e_iconst dX0_copyRow_0 rfl kc_0 ?_
  refine e_istore2 dX0_copyRow_1 rfl ?_
  refine WW.cv rfl rfl (cpy_0 M f t).symm (loop n 0 (by omega))
def cpI (M : Mem) (t f : Nat) : Mem :=
  cpy (cpy (cpy (cpy (cpy (cpy (cpy (cpy (cpy (cpy (cpy (up (up (up (up (up (up M t 0 (M f 0)) t 5 (M f 5)) t 12 (M f 12)) t 13 (M f 13)) t 15 (M f 15)) t 16 (M f 16))
    (f + 1) (t + 1) 8) (f + 2) (t + 2) 8) (f + 3) (t + 3) 8) (f + 4) (t + 4) 8) (f + 5) (t + 5) 6) (f + 6) (t + 6) 6) (f + 7) (t + 7) 6) (f + 8) (t + 8) 6) (f + 9) (t + 9) 6) (f + 10) (t + 10) 72) (f + 11) (t + 11) 360
theorem ct_X0_image (hd : 2 ≤ d) : PV l w yX0_copyFrom cX0_copyFrom 2 d [vR 13, vR 1] M (cpI M 13 1) := by
  refine MT.of [some (vR 13), some (vR 1)] ⟨by decide, rfl⟩ rfl (Nat.le_of_ble_eq_true rfl) (fun hA hM => ?_)
  refine e_aload1 dX0_copyFrom_0 ?_
  refine e_ifnonnull (tgt := 5) dX0_copyFrom_1 (by decide) ?_
  refine e_aload0 dX0_copyFrom_5 ?_
  refine e_aload1 dX0_copyFrom_6 ?_
  refine e_getI fl_X0_9 la_1 rfl dX0_copyFrom_7 ?_
  refine e_putI fp_X0_9 la_13 rfl dX0_copyFrom_10 ?_
  refine e_aload0 dX0_copyFrom_13 ?_
  refine e_aload1 dX0_copyFrom_14 ?_
  refine e_getI fl_X0_28 la_1 rfl dX0_copyFrom_15 ?_
  refine WW.ec (y := M 1 5) (by simp [up]) ?_
  refine e_putI fp_X0_28 la_13 rfl dX0_copyFrom_18 ?_
  refine e_aload0 dX0_copyFrom_21 ?_
  refine e_aload1 dX0_copyFrom_22 ?_
  refine e_getI fl_X0_49 la_1 rfl dX0_copyFrom_23 ?_
  refine WW.ec (y := M 1 12) (by simp [up]) ?_
  refine e_putI fp_X0_49 la_13 rfl dX0_copyFrom_26 ?_
  refine e_aload0 dX0_copyFrom_29 ?_
  refine e_aload1 dX0_copyFrom_30 ?_
  refine e_getI fl_X0_52 la_1 rfl dX0_copyFrom_31 ?_
  refine WW.ec (y := M 1 13) (by simp [up]) ?_
  refine e_putI fp_X0_52 la_13 rfl dX0_copyFrom_34 ?_
  refine e_aload0 dX0_copyFrom_37 ?_
  refine e_aload1 dX0_copyFrom_38 ?_
  refine e_getI fl_X0_58 la_1 rfl dX0_copyFrom_39 ?_
  refine WW.ec (y := M 1 15) (by simp [up]) ?_
  refine e_putI fp_X0_58 la_13 rfl dX0_copyFrom_42 ?_
  refine e_aload0 dX0_copyFrom_45 ?_
  refine e_aload1 dX0_copyFrom_46 ?_
  refine e_getI fl_X0_61 la_1 rfl dX0_copyFrom_47 ?_
  refine WW.ec (y := M 1 16) (by simp [up]) ?_
  refine e_putI fp_X0_61 la_13 rfl dX0_copyFrom_50 ?_
  refine e_aload1 dX0_copyFrom_53 ?_
  refine e_getR fl_X0_15 la_1 rfl dX0_copyFrom_54 ?_
  refine e_aload0 dX0_copyFrom_57 ?_
  refine e_getR fl_X0_15 la_13 rfl dX0_copyFrom_58 ?_
  refine e_cSV (ct_X0_copyRow (d := d - 1) (by omega) la_2 la_14 (by decide) (by decide)) cy_X0_copyRow cs_X0_copyRow ml_X0_80 rfl rfl (rok (by omega) (by decide)) (Nat.le_of_ble_eq_true rfl) dX0_copyFrom_61 ?_
  refine e_aload1 dX0_copyFrom_64 ?_
  refine e_getR fl_X0_19 la_1 rfl dX0_copyFrom_65 ?_
  refine e_aload0 dX0_copyFrom_68 ?_
  refine e_getR fl_X0_19 la_13 rfl dX0_copyFrom_69 ?_
  refine e_cSV (ct_X0_copyRow (d := d - 1) (by omega) la_3 la_15 (by decide) (by decide)) cy_X0_copyRow cs_X0_copyRow ml_X0_80 rfl rfl (rok (by omega) (by decide)) (Nat.le_of_ble_eq_true rfl) dX0_copyFrom_72 ?_
  refine e_aload1 dX0_copyFrom_75 ?_
  refine e_getR fl_X0_22 la_1 rfl dX0_copyFrom_76 ?_
  refine e_aload0 dX0_copyFrom_79 ?_
  refine e_getR fl_X0_22 la_13 rfl dX0_copyFrom_80 ?_
  refine e_cSV (ct_X0_copyRow (d := d - 1) (by omega) la_4 la_16 (by decide) (by decide)) cy_X0_copyRow cs_X0_copyRow ml_X0_80 rfl rfl (rok (by omega) (by decide)) (Nat.le_of_ble_eq_true rfl) dX0_copyFrom_83 ?_
  refine e_aload1 dX0_copyFrom_86 ?_
  refine e_getR fl_X0_25 la_1 rfl dX0_copyFrom_87 ?_
  refine e_aload0 dX0_copyFrom_90 ?_
  refine e_getR fl_X0_25 la_13 rfl dX0_copyFrom_91 ?_
  refine e_cSV (ct_X0_copyRow (d := d - 1) (by omega) la_5 la_17 (by decide) (by decide)) cy_X0_copyRow cs_X0_copyRow ml_X0_80 rfl rfl (rok (by omega) (by decide)) (Nat.le_of_ble_eq_true rfl) dX0_copyFrom_94 ?_
  refine e_aload1 dX0_copyFrom_97 ?_
  refine e_getR fl_X0_31 la_1 rfl dX0_copyFrom_98 ?_
  refine e_aload0 dX0_copyFrom_101 ?_
  refine e_getR fl_X0_31 la_13 rfl dX0_copyFrom_102 ?_
  refine e_cSV (ct_X0_copyRow (d := d - 1) (by omega) la_6 la_18 (by decide) (by decide)) cy_X0_copyRow cs_X0_copyRow ml_X0_80 rfl rfl (rok (by omega) (by decide)) (Nat.le_of_ble_eq_true rfl) dX0_copyFrom_105 ?_
  refine e_aload1 dX0_copyFrom_108 ?_
  refine e_getR fl_X0_34 la_1 rfl dX0_copyFrom_109 ?_
  refine e_aload0 dX0_copyFrom_112 ?_
  refine e_getR fl_X0_34 la_13 rfl dX0_copyFrom_113 ?_
  refine e_cSV (ct_X0_copyRow (d := d - 1) (by omega) la_7 la_19 (by decide) (by decide)) cy_X0_copyRow cs_X0_copyRow ml_X0_80 rfl rfl (rok (by omega) (by decide)) (Nat.le_of_ble_eq_true rfl) dX0_copyFrom_116 ?_
  refine e_aload1 dX0_copyFrom_119 ?_
  refine e_getR fl_X0_37 la_1 rfl dX0_copyFrom_120 ?_
  refine e_aload0 dX0_copyFrom_123 ?_
  refine e_getR fl_X0_37 la_13 rfl dX0_copyFrom_124 ?_
  refine e_cSV (ct_X0_copyRow (d := d - 1) (by omega) la_8 la_20 (by decide) (by decide)) cy_X0_copyRow cs_X0_copyRow ml_X0_80 rfl rfl (rok (by omega) (by decide)) (Nat.le_of_ble_eq_true rfl) dX0_copyFrom_127 ?_
  refine e_aload1 dX0_copyFrom_130 ?_
  refine e_getR fl_X0_40 la_1 rfl dX0_copyFrom_131 ?_
  refine e_aload0 dX0_copyFrom_134 ?_
  refine e_getR fl_X0_40 la_13 rfl dX0_copyFrom_135 ?_
  refine e_cSV (ct_X0_copyRow (d := d - 1) (by omega) la_9 la_21 (by decide) (by decide)) cy_X0_copyRow cs_X0_copyRow ml_X0_80 rfl rfl (rok (by omega) (by decide)) (Nat.le_of_ble_eq_true rfl) dX0_copyFrom_138 ?_
  refine e_aload1 dX0_copyFrom_141 ?_
  refine e_getR fl_X0_43 la_1 rfl dX0_copyFrom_142 ?_
  refine e_aload0 dX0_copyFrom_145 ?_
  refine e_getR fl_X0_43 la_13 rfl dX0_copyFrom_146 ?_
  refine e_cSV (ct_X0_copyRow (d := d - 1) (by omega) la_10 la_22 (by decide) (by decide)) cy_X0_copyRow cs_X0_copyRow ml_X0_80 rfl rfl (rok (by omega) (by decide)) (Nat.le_of_ble_eq_true rfl) dX0_copyFrom_149 ?_
  refine e_aload1 dX0_copyFrom_152 ?_
  refine e_getR fl_X0_46 la_1 rfl dX0_copyFrom_153 ?_
  refine e_aload0 dX0_copyFrom_156 ?_
  refine e_getR fl_X0_46 la_13 rfl dX0_copyFrom_157 ?_
  refine e_cSV (ct_X0_copyRow (d := d - 1) (by omega) la_11 la_23 (by decide) (by decide)) cy_X0_copyRow cs_X0_copyRow ml_X0_80 rfl rfl (rok (by omega) (by decide)) (Nat.le_of_ble_eq_true rfl) dX0_copyFrom_160 ?_
  refine e_aload1 dX0_copyFrom_163 ?_
  refine e_getR fl_X0_55 la_1 rfl dX0_copyFrom_164 ?_
  refine e_aload0 dX0_copyFrom_167 ?_
  refine e_getR fl_X0_55 la_13 rfl dX0_copyFrom_168 ?_
  refine e_cSV (ct_X0_copyRow (d := d - 1) (by omega) la_12 la_24 (by decide) (by decide)) cy_X0_copyRow cs_X0_copyRow ml_X0_80 rfl rfl (rok (by omega) (by decide)) (Nat.le_of_ble_eq_true rfl) dX0_copyFrom_171 ?_
  refine e_vret dX0_copyFrom_174 ?_
  exact ⟨rfl, rfl⟩
theorem ct_X0_back (hd : 2 ≤ d) : PV l w yX0_copyFrom cX0_copyFrom 2 d [vR 1, vR 13] M (cpI M 1 13) := by
  refine MT.of [some (vR 1), some (vR 13)] ⟨by decide, rfl⟩ rfl (Nat.le_of_ble_eq_true rfl) (fun hA hM => ?_)
  refine e_aload1 dX0_copyFrom_0 ?_
  refine e_ifnonnull (tgt := 5) dX0_copyFrom_1 (by decide) ?_
  refine e_aload0 dX0_copyFrom_5 ?_
  refine e_aload1 dX0_copyFrom_6 ?_
  refine e_getI fl_X0_9 la_13 rfl dX0_copyFrom_7 ?_
  refine e_putI fp_X0_9 la_1 rfl dX0_copyFrom_10 ?_
  refine e_aload0 dX0_copyFrom_13 ?_
  refine e_aload1 dX0_copyFrom_14 ?_
  refine e_getI fl_X0_28 la_13 rfl dX0_copyFrom_15 ?_
  refine WW.ec (y := M 13 5) (by simp [up]) ?_
  refine e_putI fp_X0_28 la_1 rfl dX0_copyFrom_18 ?_
  refine e_aload0 dX0_copyFrom_21 ?_
  refine e_aload1 dX0_copyFrom_22 ?_
  refine e_getI fl_X0_49 la_13 rfl dX0_copyFrom_23 ?_
  refine WW.ec (y := M 13 12) (by simp [up]) ?_
  refine e_putI fp_X0_49 la_1 rfl dX0_copyFrom_26 ?_
  refine e_aload0 dX0_copyFrom_29 ?_
  refine e_aload1 dX0_copyFrom_30 ?_
  refine e_getI fl_X0_52 la_13 rfl dX0_copyFrom_31 ?_
  refine WW.ec (y := M 13 13) (by simp [up]) ?_
  refine e_putI fp_X0_52 la_1 rfl dX0_copyFrom_34 ?_
  refine e_aload0 dX0_copyFrom_37 ?_
  refine e_aload1 dX0_copyFrom_38 ?_
  refine e_getI fl_X0_58 la_13 rfl dX0_copyFrom_39 ?_
  refine WW.ec (y := M 13 15) (by simp [up]) ?_
  refine e_putI fp_X0_58 la_1 rfl dX0_copyFrom_42 ?_
  refine e_aload0 dX0_copyFrom_45 ?_
  refine e_aload1 dX0_copyFrom_46 ?_
  refine e_getI fl_X0_61 la_13 rfl dX0_copyFrom_47 ?_
  refine WW.ec (y := M 13 16) (by simp [up]) ?_
  refine e_putI fp_X0_61 la_1 rfl dX0_copyFrom_50 ?_
  refine e_aload1 dX0_copyFrom_53 ?_
  refine e_getR fl_X0_15 la_13 rfl dX0_copyFrom_54 ?_
  refine e_aload0 dX0_copyFrom_57 ?_
  refine e_getR fl_X0_15 la_1 rfl dX0_copyFrom_58 ?_
  refine e_cSV (ct_X0_copyRow (d := d - 1) (by omega) la_14 la_2 (by decide) (by decide)) cy_X0_copyRow cs_X0_copyRow ml_X0_80 rfl rfl (rok (by omega) (by decide)) (Nat.le_of_ble_eq_true rfl) dX0_copyFrom_61 ?_
  refine e_aload1 dX0_copyFrom_64 ?_
  refine e_getR fl_X0_19 la_13 rfl dX0_copyFrom_65 ?_
  refine e_aload0 dX0_copyFrom_68 ?_
  refine e_getR fl_X0_19 la_1 rfl dX0_copyFrom_69 ?_
  refine e_cSV (ct_X0_copyRow (d := d - 1) (by omega) la_15 la_3 (by decide) (by decide)) cy_X0_copyRow cs_X0_copyRow ml_X0_80 rfl rfl (rok (by omega) (by decide)) (Nat.le_of_ble_eq_true rfl) dX0_copyFrom_72 ?_
  refine e_aload1 dX0_copyFrom_75 ?_
  refine e_getR fl_X0_22 la_13 rfl dX0_copyFrom_76 ?_
  refine e_aload0 dX0_copyFrom_79 ?_
  refine e_getR fl_X0_22 la_1 rfl dX0_copyFrom_80 ?_
  refine e_cSV (ct_X0_copyRow (d := d - 1) (by omega) la_16 la_4 (by decide) (by decide)) cy_X0_copyRow cs_X0_copyRow ml_X0_80 rfl rfl (rok (by omega) (by decide)) (Nat.le_of_ble_eq_true rfl) dX0_copyFrom_83 ?_
  refine e_aload1 dX0_copyFrom_86 ?_
  refine e_getR fl_X0_25 la_13 rfl dX0_copyFrom_87 ?_
  refine e_aload0 dX0_copyFrom_90 ?_
  refine e_getR fl_X0_25 la_1 rfl dX0_copyFrom_91 ?_
  refine e_cSV (ct_X0_copyRow (d := d - 1) (by omega) la_17 la_5 (by decide) (by decide)) cy_X0_copyRow cs_X0_copyRow ml_X0_80 rfl rfl (rok (by omega) (by decide)) (Nat.le_of_ble_eq_true rfl) dX0_copyFrom_94 ?_
  refine e_aload1 dX0_copyFrom_97 ?_
  refine e_getR fl_X0_31 la_13 rfl dX0_copyFrom_98 ?_
  refine e_aload0 dX0_copyFrom_101 ?_
  refine e_getR fl_X0_31 la_1 rfl dX0_copyFrom_102 ?_
  refine e_cSV (ct_X0_copyRow (d := d - 1) (by omega) la_18 la_6 (by decide) (by decide)) cy_X0_copyRow cs_X0_copyRow ml_X0_80 rfl rfl (rok (by omega) (by decide)) (Nat.le_of_ble_eq_true rfl) dX0_copyFrom_105 ?_
  refine e_aload1 dX0_copyFrom_108 ?_
  refine e_getR fl_X0_34 la_13 rfl dX0_copyFrom_109 ?_
  refine e_aload0 dX0_copyFrom_112 ?_
  refine e_getR fl_X0_34 la_1 rfl dX0_copyFrom_113 ?_
  refine e_cSV (ct_X0_copyRow (d := d - 1) (by omega) la_19 la_7 (by decide) (by decide)) cy_X0_copyRow cs_X0_copyRow ml_X0_80 rfl rfl (rok (by omega) (by decide)) (Nat.le_of_ble_eq_true rfl) dX0_copyFrom_116 ?_
  refine e_aload1 dX0_copyFrom_119 ?_
  refine e_getR fl_X0_37 la_13 rfl dX0_copyFrom_120 ?_
  refine e_aload0 dX0_copyFrom_123 ?_
  refine e_getR fl_X0_37 la_1 rfl dX0_copyFrom_124 ?_
  refine e_cSV (ct_X0_copyRow (d := d - 1) (by omega) la_20 la_8 (by decide) (by decide)) cy_X0_copyRow cs_X0_copyRow ml_X0_80 rfl rfl (rok (by omega) (by decide)) (Nat.le_of_ble_eq_true rfl) dX0_copyFrom_127 ?_
  refine e_aload1 dX0_copyFrom_130 ?_
  refine e_getR fl_X0_40 la_13 rfl dX0_copyFrom_131 ?_
  refine e_aload0 dX0_copyFrom_134 ?_
  refine e_getR fl_X0_40 la_1 rfl dX0_copyFrom_135 ?_
  refine e_cSV (ct_X0_copyRow (d := d - 1) (by omega) la_21 la_9 (by decide) (by decide)) cy_X0_copyRow cs_X0_copyRow ml_X0_80 rfl rfl (rok (by omega) (by decide)) (Nat.le_of_ble_eq_true rfl) dX0_copyFrom_138 ?_
  refine e_aload1 dX0_copyFrom_141 ?_
  refine e_getR fl_X0_43 la_13 rfl dX0_copyFrom_142 ?_
  refine e_aload0 dX0_copyFrom_145 ?_
  refine e_getR fl_X0_43 la_1 rfl dX0_copyFrom_146 ?_
  refine e_cSV (ct_X0_copyRow (d := d - 1) (by omega) la_22 la_10 (by decide) (by decide)) cy_X0_copyRow cs_X0_copyRow ml_X0_80 rfl rfl (rok (by omega) (by decide)) (Nat.le_of_ble_eq_true rfl) dX0_copyFrom_149 ?_
  refine e_aload1 dX0_copyFrom_152 ?_
  refine e_getR fl_X0_46 la_13 rfl dX0_copyFrom_153 ?_
  refine e_aload0 dX0_copyFrom_156 ?_
  refine e_getR fl_X0_46 la_1 rfl dX0_copyFrom_157 ?_
  refine e_cSV (ct_X0_copyRow (d := d - 1) (by omega) la_23 la_11 (by decide) (by decide)) cy_X0_copyRow cs_X0_copyRow ml_X0_80 rfl rfl (rok (by omega) (by decide)) (Nat.le_of_ble_eq_true rfl) dX0_copyFrom_160 ?_
  refine e_aload1 dX0_copyFrom_163 ?_
  refine e_getR fl_X0_55 la_13 rfl dX0_copyFrom_164 ?_
  refine e_aload0 dX0_copyFrom_167 ?_
  refine e_getR fl_X0_55 la_1 rfl dX0_copyFrom_168 ?_
  refine e_cSV (ct_X0_copyRow (d := d - 1) (by omega) la_24 la_12 (by decide) (by decide)) cy_X0_copyRow cs_X0_copyRow ml_X0_80 rfl rfl (rok (by omega) (by decide)) (Nat.le_of_ble_eq_true rfl) dX0_copyFrom_171 ?_
  refine e_vret dX0_copyFrom_174 ?_
  exact ⟨rfl, rfl⟩
theorem lp_X0_worthRow (hd : 5 ≤ d) (hI : IB M) {s acc : Int} {c : Nat} (hc : isC M c) (ha : 0 ≤ acc ∧ acc ≤ 100) (k : WM l w RX0 cX0_worthOf 5 (some .int) d Q 59 [some (vR 1), some (vI s), some (vI (acc + wrow M s c (M 7 c).toNat)), some (vI c), some (vI (max 1 (M 7 c)))] [] M) :
    ∀ (n i : Nat), 1 ≤ i → i + n = (max 1 (M 7 c)).toNat → WM l w RX0 cX0_worthOf 5 (some .int) d Q 15 [some (vR 1), some (vI s), some (vI (acc + wrow M s c i)), some (vI c), some (vI i)] [] M := by
  have hb := hI.2.1
  have hl := hI.2.2 c (by have := hc.2; omega)
  intro n
  induction n with
  | zero =>
    intro i h1 hi
    have e : (i : Int) = max 1 (M 7 c) := by omega
    have hw : wrow M s c i = wrow M s c (M 7 c).toNat := by
      by_cases h0 : 1 ≤ M 7 c
      · rw [show i = (M 7 c).toNat by omega]
      · rw [show i = 1 by omega, show (M 7 c).toNat = 0 by omega]; simp [wrow]
    refine e_iload4 dX0_worthOf_15 ?_
    refine e_aload0 dX0_worthOf_17 ?_
    refine e_getR fl_X0_34 la_1 rfl dX0_worthOf_18 ?_
    refine e_iload3 dX0_worthOf_21 ?_
    refine e_iald la_7 (⟨by omega, by omega⟩) dX0_worthOf_22 ?_
    refine e_icmp_ge (tgt := 59) dX0_worthOf_23 (by decide) (fun h23 => ?_) (fun h => absurd h (by simp only [Int.toNat_natCast]; omega))
    rw [hw, e]
    exact k
  | succ n ih =>
    intro i h1 hi
    have hw := wrow_b M s c i
    refine e_iload4 dX0_worthOf_15 ?_
    refine e_aload0 dX0_worthOf_17 ?_
    refine e_getR fl_X0_34 la_1 rfl dX0_worthOf_18 ?_
    refine e_iload3 dX0_worthOf_21 ?_
    refine e_iald la_7 (⟨by omega, by omega⟩) dX0_worthOf_22 ?_
    refine e_icmp_ge (tgt := 59) dX0_worthOf_23 (by decide) (fun h => absurd h (by simp only [Int.toNat_natCast]; omega)) (fun h23 => ?_)
    refine e_aload0 dX0_worthOf_26 ?_
    refine e_iload1 dX0_worthOf_27 ?_
    refine e_iload3 dX0_worthOf_28 ?_
    refine e_iload4 dX0_worthOf_29 ?_
    refine e_iconst dX0_worthOf_31 rfl kc_1 ?_
    refine e_isub dX0_worthOf_32 (⟨by omega, by omega⟩) ?_
    refine e_cVZ (ct_X0_isOwnedIn (d := d - 1) (by omega) hI) cy_X0_isOwnedIn cv_X0_isOwnedIn ml_X0_76 la_1 rfl rfl rfl (rok (by omega) (by decide)) (Nat.le_of_ble_eq_true rfl) dX0_worthOf_33 (fun g33 => ?_) (fun g33 => ?_)
    · refine e_if_eq (tgt := 53) dX0_worthOf_36 (by decide) (fun h => absurd h (by decide)) (fun _ => ?_)
      refine e_aload0 dX0_worthOf_39 ?_
      refine e_iload1 dX0_worthOf_40 ?_
      refine e_iload3 dX0_worthOf_41 ?_
      refine e_iload4 dX0_worthOf_42 ?_
      refine e_cVZ (ct_X0_isOwnedIn (d := d - 1) (by omega) hI) cy_X0_isOwnedIn cv_X0_isOwnedIn ml_X0_76 la_1 rfl rfl rfl (rok (by omega) (by decide)) (Nat.le_of_ble_eq_true rfl) dX0_worthOf_44 (fun g44 => ?_) (fun g44 => ?_)
      · refine e_if_eq (tgt := 53) dX0_worthOf_47 (by decide) (fun h => absurd h (by decide)) (fun _ => ?_)
        refine e_iinc2 dX0_worthOf_50 rfl (⟨by omega, by omega⟩) rfl ?_
        refine e_iinc4 dX0_worthOf_53 rfl (⟨by omega, by omega⟩) rfl ?_
        refine e_goto (tgt := 15) dX0_worthOf_56 (by decide) ?_
        refine WW.cv ?_ rfl rfl (ih (i + 1) (by omega) (by omega))
        simp only [wrow]
        by_cases hq : 1 ≤ i ∧ ow M s c ((i : Int) - 1) ∧ ow M s c i
        · rw [if_pos hq]; first | (rw [← Int.add_assoc]; rfl) | (exfalso; exact g33 hq.2.1) | (exfalso; exact g44 hq.2.2)
        · rw [if_neg hq]; first | (exfalso; exact hq (And.intro h1 (And.intro g33 g44))) | (simp; done)
      · refine e_if_eq (tgt := 53) dX0_worthOf_47 (by decide) (fun _ => ?_) (fun h => absurd h (by decide))
        refine e_iinc4 dX0_worthOf_53 rfl (⟨by omega, by omega⟩) rfl ?_
        refine e_goto (tgt := 15) dX0_worthOf_56 (by decide) ?_
        refine WW.cv ?_ rfl rfl (ih (i + 1) (by omega) (by omega))
        simp only [wrow]
        by_cases hq : 1 ≤ i ∧ ow M s c ((i : Int) - 1) ∧ ow M s c i
        · rw [if_pos hq]; first | (rw [← Int.add_assoc]; rfl) | (exfalso; exact g33 hq.2.1) | (exfalso; exact g44 hq.2.2)
        · rw [if_neg hq]; first | (exfalso; exact hq (And.intro h1 (And.intro g33 g44))) | (simp; done)
    · refine e_if_eq (tgt := 53) dX0_worthOf_36 (by decide) (fun _ => ?_) (fun h => absurd h (by decide))
      refine e_iinc4 dX0_worthOf_53 rfl (⟨by omega, by omega⟩) rfl ?_
      refine e_goto (tgt := 15) dX0_worthOf_56 (by decide) ?_
      refine WW.cv ?_ rfl rfl (ih (i + 1) (by omega) (by omega))
      simp only [wrow]
      by_cases hq : 1 ≤ i ∧ ow M s c ((i : Int) - 1) ∧ ow M s c i
      · rw [if_pos hq]; first | (rw [← Int.add_assoc]; rfl) | (exfalso; exact g33 hq.2.1) | (exfalso; exact g44 hq.2.2)
      · rw [if_neg hq]; first | (exfalso; exact hq (And.intro h1 (And.intro g33 g44))) | (simp; done)
theorem wall_b {M : Mem} (hI : IB M) (s : Int) : ∀ c : Nat, c ≤ 6 → 0 ≤ wall M s c ∧ wall M s c ≤ 12 * c
  | 0, _ => ⟨Int.le_refl 0, Int.le_refl 0⟩
  | c + 1, h => by
    have h1 := wall_b hI s c (by omega)
    have h2 := wrow_b M s c (M 7 c).toNat
    have h3 := hI.2.2 c (by omega)
    unfold wall
    omega
theorem lp_X0_worthOf (hd : 5 ≤ d) (hI : IB M) {s : Int} {x4 : Option MV} (k : ∀ x4 : Option MV, WM l w RX0 cX0_worthOf 5 (some .int) d Q 65 [some (vR 1), some (vI s), some (vI (wall M s (M 1 5).toNat)), some (vI (M 1 5)), x4] [] M) :
    ∀ (n c : Nat) (x4 : Option MV), c + n = (M 1 5).toNat → WM l w RX0 cX0_worthOf 5 (some .int) d Q 4 [some (vR 1), some (vI s), some (vI (wall M s c)), some (vI c), x4] [] M := by
  have hb := hI.2.1
  intro n
  induction n with
  | zero =>
    intro c x4 hi
    have e : c = (M 1 5).toNat := by omega
    refine e_iload3 dX0_worthOf_4 ?_
    refine e_aload0 dX0_worthOf_5 ?_
    refine e_getI fl_X0_28 la_1 rfl dX0_worthOf_6 ?_
    refine e_icmp_ge (tgt := 65) dX0_worthOf_9 (by decide) (fun h9 => ?_) (fun h => absurd h (by omega))
    subst e
    rw [show (((M 1 5).toNat : Nat) : Int) = M 1 5 by omega]
    exact k _
  | succ n ih =>
    intro c x4 hi
    have hl := hI.2.2 c (by omega)
    have hw := wall_b hI s c (by omega)
    have hw2 := wall_b hI s (c + 1) (by omega)
    refine e_iload3 dX0_worthOf_4 ?_
    refine e_aload0 dX0_worthOf_5 ?_
    refine e_getI fl_X0_28 la_1 rfl dX0_worthOf_6 ?_
    refine e_icmp_ge (tgt := 65) dX0_worthOf_9 (by decide) (fun h => absurd h (by omega)) (fun h9 => ?_)
    refine e_iconst dX0_worthOf_12 rfl kc_1 ?_
    refine e_istore4 dX0_worthOf_13 rfl ?_
    refine WW.cv (L' := [some (vR 1), some (vI s), some (vI (wall M s c + wrow M s c 1)), some (vI c), some (vI ((1 : Nat) : Int))]) (by simp [wrow]) rfl rfl (lp_X0_worthRow hd hI ⟨by omega, by omega⟩ ⟨by omega, by omega⟩ ?_ ((max 1 (M 7 c)).toNat - 1) 1 (by omega) (by omega))
    refine e_iinc3 dX0_worthOf_59 rfl (⟨by omega, by omega⟩) rfl ?_
    refine e_goto (tgt := 4) dX0_worthOf_62 (by decide) ?_
    exact ih (c + 1) _ (by omega)
theorem ct_X0_worthOf (hd : 5 ≤ d) (hI : IB M) {s : Int} : PI l w yX0_worthOf cX0_worthOf 5 d [vR 1, vI s] M (wall M s (M 1 5).toNat) M := by
  refine MT.of [some (vR 1), some (vI s), none, none, none] ⟨by decide, rfl⟩ rfl (Nat.le_of_ble_eq_true rfl) (fun hA hM => ?_)
  refine e_iconst dX0_worthOf_0 rfl kc_0 ?_
  refine e_istore2 dX0_worthOf_1 rfl ?_
  refine e_iconst dX0_worthOf_2 rfl kc_0 ?_
  refine e_istore3 dX0_worthOf_3 rfl ?_
  refine lp_X0_worthOf hd hI (x4 := none) (fun x4 => ?_) (M 1 5).toNat 0 none (by omega)
  refine e_iload2 dX0_worthOf_65 ?_
  exact e_iret dX0_worthOf_66 ⟨rfl, rfl⟩
end ISL2
