/-! BURN -/
theorem tellV_sm {M M1 : Mem} (h1 : M1 1 15 = M 1 15) (h2 : M1 1 16 = M 1 16) (h : ∀ o, (o = 2 ∨ o = 3 ∨ o = 4 ∨ o = 6 ∨ o = 7) ∨ (90 ≤ o ∧ o ≤ 113) → M1 o = M o) (ht : M 1 15 ≤ 4) (k a c i : Int) : tellV M1 k a c i = tellV M k a c i := by
  unfold tellV nmOf
  rw [lawC_st h1 h2 (fun o a b => h o (Or.inr ⟨a, b⟩)) ht, h 2 (by omega), h 3 (by omega), h 4 (by omega), h 6 (by omega), h 7 (by omega)]
theorem LW.sm {M M1 : Mem} (h0 : M1 1 0 = M 1 0) (h5 : M1 1 5 = M 1 5) (h1 : M1 1 15 = M 1 15) (h2 : M1 1 16 = M 1 16) (h : ∀ o, (o = 2 ∨ o = 3 ∨ o = 4 ∨ o = 6 ∨ o = 7) ∨ (90 ≤ o ∧ o ≤ 113) → M1 o = M o) (hl : LW M) : LW M1 := by
  unfold LW IB isT TxOk at hl ⊢
  rw [h0, h5, h1, h2, h 2 (by omega), h 3 (by omega), h 4 (by omega), h 6 (by omega), h 7 (by omega)]
  refine ⟨hl.1, hl.2.1, hl.2.2.1, hl.2.2.2.1, fun ht => ?_⟩
  have h4 : (M 1 16).toNat < 4 := by have := hl.2.2.2.1; omega
  rw [h (93 + 6 * (M 1 16).toNat) (by omega), h (92 + 6 * (M 1 16).toNat) (by omega), h (91 + 6 * (M 1 16).toNat) (by omega)]
  exact hl.2.2.2.2 ht
def adD (M : Mem) (c i h m t : Int) : Mem := if M 1 13 < 72 then addD M c i h m t else M
theorem adD_fr {A B : Mem} (hf : Fr2 A B) (c i h m t : Int) : Fr2 (adD A c i h m t) (adD B c i h m t) := by
  unfold adD addD
  rw [hf 1 (by decide) (by decide)]
  split
  · exact fr2u (fr2u (fr2u (fr2u (fr2u (fr2u hf rfl) rfl) rfl) rfl) rfl) rfl
  · exact hf
def bI1 (M : Mem) (c i h : Int) : Mem := up (up M 5 h.toNat (M 5 h.toNat + tellV M 1 h c i)) 3 h.toNat (min 999 (M 3 h.toNat + tellV M 2 h c i))
def bI2 (M : Mem) (c i h : Int) : Mem := if ownr M c i = -1 then up (bI1 M c i h) 4 h.toNat (min 999 (M 4 h.toNat + tellV M 0 h c i)) else bI1 M c i h
def burnI (M : Mem) (c i h : Int) : Mem := adD (bI2 M c i h) c i h (tellV M 1 h c i) (tellV M 2 h c i)
def putM (M : Mem) (c o : Int) : Mem := up (up M 9 c.toNat o) 1 12 ((M 1 12 * 179 + 83) % 30011)
def passM (M : Mem) (c n h : Int) : Mem :=
  if M 7 c.toNat ≤ n then up M 8 c.toNat 3
  else if ownr M c n = -1 ∨ ownr M c n = h then M
  else if M 1 12 % 10 < tellV M 3 (ownr M c n) c n then up (putM M c (ownr M c n)) 8 c.toNat 2 else putM M c (ownr M c n)
theorem passM_fr {A B : Mem} (hf : Fr2 A B) (ht : A 1 15 ≤ 4) (c n h : Int) : Fr2 (passM A c n h) (passM B c n h) := by
  unfold passM putM
  rw [ownr_frs hf.frs, tellV_fr hf ht, hf 1 (by decide) (by decide), hf 7 (by decide) (by decide)]
  split
  · exact fr2u hf rfl
  split
  · exact hf
  split
  · exact fr2u (fr2u (fr2u hf rfl) rfl) rfl
  · exact fr2u (fr2u hf rfl) rfl
section BURN
variable {l : Launch} {w : Wd} {d : Nat} {M : Mem} {Q : Option MV → Mem → Prop}
theorem ct_X8_burnInch (hd : 5 ≤ d) (hL : LW M) {h c i : Int} (hh : isH M h) (hi : isIn M c i) (hx : 0 ≤ M 1 13 ∧ M 1 13 ≤ 72) (hm : 0 ≤ M 5 h.toNat ∧ M 5 h.toNat ≤ 1000000000) : GV l w yX8_burnInch cX8_burnInch 7 d [vR 0, vI c, vI i, vI h] M (fun M1 => Fr2 (burnI M c i h) M1) := by
  have hI := hL.1
  have hb := hI.1
  have ht := hL.2.2.2.1
  have hw := hL.2.1 h.toNat (by omega)
  have hw3 := hw.2.1
  have hw4 := hw.2.2
  have t0 := (tellV_b M 0 h c i).1
  have t1 := (tellV_b M 1 h c i).1
  have t2 := (tellV_b M 2 h c i).1
  have hB : ∀ M3, Fr2 M M3 → WM l w RX8 cX8_burnInch 7 none d (fun r M' => r = none ∧ Fr2 (burnI M c i h) M') 39 [some (vR 0), some (vI c), some (vI i), some (vI h), some (vI (tellV M 0 h c i)), some (vI (tellV M 1 h c i)), some (vI (tellV M 2 h c i))] [] M3 := by
    intro M3 f
    have e5 : M3 5 = M 5 := f 5 (by decide) (by decide)
    have e3 : M3 3 = M 3 := f 3 (by decide) (by decide)
    have e4 : M3 4 = M 4 := f 4 (by decide) (by decide)
    have e1 : M3 1 = M 1 := f 1 (by decide) (by decide)
    have eo : ∀ x y : Int, ownr (up (up M3 5 h.toNat x) 3 h.toNat y) c i = ownr M c i := by
      intro x y
      unfold ownr isIn isC
      rw [up_row (by decide), up_row (by decide), up_row (by decide), up_row (by decide), up_row (by decide), up_row (by decide), e1, f 7 (by decide) (by decide), f 11 (by decide) (by decide)]
    have fa : Fr2 (bI1 M c i h) (up (up M3 5 h.toNat (M 5 h.toNat + tellV M 1 h c i)) 3 h.toNat (min 999 (M 3 h.toNat + tellV M 2 h c i))) := fr2u (fr2u f rfl) rfl
    refine e_aload0 dX8_burnInch_39 ?_
    refine e_getR fl_X8_12 la_0 rfl dX8_burnInch_40 ?_
    refine e_getR fl_X8_138 la_1 rfl dX8_burnInch_43 ?_
    refine e_iload3 dX8_burnInch_46 ?_
    refine e_dup2 dX8_burnInch_47 rfl rfl ?_
    refine e_iald la_5 (⟨by omega, by omega⟩) dX8_burnInch_48 ?_
    refine WW.ec (y := M 5 h.toNat) (by rw [e5]) ?_
    refine e_iload5 dX8_burnInch_49 ?_
    refine e_iadd dX8_burnInch_51 (⟨by omega, by omega⟩) ?_
    refine e_iast la_5 (⟨by omega, by omega⟩) dX8_burnInch_52 ?_
    refine e_aload0 dX8_burnInch_53 ?_
    refine e_getR fl_X8_12 la_0 rfl dX8_burnInch_54 ?_
    refine e_getR fl_X8_105 la_1 rfl dX8_burnInch_57 ?_
    refine e_iload3 dX8_burnInch_60 ?_
    refine e_sipush dX8_burnInch_61 rfl ks_999 ?_
    refine e_aload0 dX8_burnInch_64 ?_
    refine e_getR fl_X8_12 la_0 rfl dX8_burnInch_65 ?_
    refine e_getR fl_X8_105 la_1 rfl dX8_burnInch_68 ?_
    refine e_iload3 dX8_burnInch_71 ?_
    refine e_iald la_3 (⟨by omega, by omega⟩) dX8_burnInch_72 ?_
    refine WW.ec (y := M 3 h.toNat) (by rw [up_row (by decide), e3]) ?_
    refine e_iload6 dX8_burnInch_73 ?_
    refine e_iadd dX8_burnInch_75 (⟨by omega, by omega⟩) ?_
    refine e_mmin ml9_X8_141 (rok1 (by omega)) rfl dX8_burnInch_76 ?_
    refine e_iast la_3 (⟨by omega, by omega⟩) dX8_burnInch_79 ?_
    refine e_aload0 dX8_burnInch_80 ?_
    refine e_getR fl_X8_12 la_0 rfl dX8_burnInch_81 ?_
    refine e_iload1 dX8_burnInch_84 ?_
    refine e_iload2 dX8_burnInch_85 ?_
    refine e_cVI (ct_X0_ownerOf (d := d - 1) (by omega) ((hI.frs f.frs).up (by decide) (by decide) |>.up (by decide) (by decide))) cy_X0_ownerOf cv_X0_ownerOf ml_X8_98 la_1 rfl rfl rfl (rok (by omega) (by decide)) (Nat.le_of_ble_eq_true rfl) dX8_burnInch_86 ?_
    refine WW.ec (y := ownr M c i) (by rw [eo]) ?_
    refine e_iconst dX8_burnInch_89 rfl kc_m1 ?_
    refine e_icmp_ne (tgt := 120) dX8_burnInch_90 (by decide) (fun h90 => ?_) (fun h90 => ?_)
    · refine e_aload0 dX8_burnInch_120 ?_
      refine e_getR fl_X8_12 la_0 rfl dX8_burnInch_121 ?_
      refine e_iload1 dX8_burnInch_124 ?_
      refine e_iload2 dX8_burnInch_125 ?_
      refine e_iload3 dX8_burnInch_126 ?_
      refine e_iload5 dX8_burnInch_127 ?_
      refine e_iload6 dX8_burnInch_129 ?_
      refine e_cVV (ct_X0_addDrip (d := d - 1) (by omega) (by first | (rw [up_row (by decide), up_row (by decide), up_row (by decide), e1]; exact hx) | (rw [up_row (by decide), up_row (by decide), e1]; exact hx))) cy_X0_addDrip cv_X0_addDrip ml_X8_149 la_1 rfl rfl rfl (rok (by omega) (by decide)) (Nat.le_of_ble_eq_true rfl) dX8_burnInch_131 ?_
      refine e_vret dX8_burnInch_134 ?_
      first | exact ⟨rfl, adD_fr (by unfold bI2; rw [if_neg h90]; exact fa) _ _ _ _ _⟩ | exact ⟨rfl, adD_fr (by unfold bI2; rw [if_pos (by omega)]; exact fr2u fa rfl) _ _ _ _ _⟩
    · refine e_aload0 dX8_burnInch_93 ?_
      refine e_getR fl_X8_12 la_0 rfl dX8_burnInch_94 ?_
      refine e_getR fl_X8_146 la_1 rfl dX8_burnInch_97 ?_
      refine e_iload3 dX8_burnInch_100 ?_
      refine e_sipush dX8_burnInch_101 rfl ks_999 ?_
      refine e_aload0 dX8_burnInch_104 ?_
      refine e_getR fl_X8_12 la_0 rfl dX8_burnInch_105 ?_
      refine e_getR fl_X8_146 la_1 rfl dX8_burnInch_108 ?_
      refine e_iload3 dX8_burnInch_111 ?_
      refine e_iald la_4 (⟨by omega, by omega⟩) dX8_burnInch_112 ?_
      refine WW.ec (y := M 4 h.toNat) (by rw [up_row (by decide), up_row (by decide), e4]) ?_
      refine e_iload4 dX8_burnInch_113 ?_
      refine e_iadd dX8_burnInch_115 (⟨by omega, by omega⟩) ?_
      refine e_mmin ml9_X8_141 (rok1 (by omega)) rfl dX8_burnInch_116 ?_
      refine e_iast la_4 (⟨by omega, by omega⟩) dX8_burnInch_119 ?_
      refine e_aload0 dX8_burnInch_120 ?_
      refine e_getR fl_X8_12 la_0 rfl dX8_burnInch_121 ?_
      refine e_iload1 dX8_burnInch_124 ?_
      refine e_iload2 dX8_burnInch_125 ?_
      refine e_iload3 dX8_burnInch_126 ?_
      refine e_iload5 dX8_burnInch_127 ?_
      refine e_iload6 dX8_burnInch_129 ?_
      refine e_cVV (ct_X0_addDrip (d := d - 1) (by omega) (by first | (rw [up_row (by decide), up_row (by decide), up_row (by decide), e1]; exact hx) | (rw [up_row (by decide), up_row (by decide), e1]; exact hx))) cy_X0_addDrip cv_X0_addDrip ml_X8_149 la_1 rfl rfl rfl (rok (by omega) (by decide)) (Nat.le_of_ble_eq_true rfl) dX8_burnInch_131 ?_
      refine e_vret dX8_burnInch_134 ?_
      first | exact ⟨rfl, adD_fr (by unfold bI2; rw [if_neg h90]; exact fa) _ _ _ _ _⟩ | exact ⟨rfl, adD_fr (by unfold bI2; rw [if_pos (by omega)]; exact fr2u fa rfl) _ _ _ _ _⟩
  refine MT.of [some (vR 0), some (vI c), some (vI i), some (vI h), none, none, none] ⟨by decide, rfl⟩ rfl (Nat.le_of_ble_eq_true rfl) (fun hA hM => ?_)
  refine e_aload0 dX8_burnInch_0 ?_
  refine e_getR fl_X8_47 la_0 rfl dX8_burnInch_1 ?_
  refine e_iconst dX8_burnInch_4 rfl kc_0 ?_
  refine e_iload3 dX8_burnInch_5 ?_
  refine e_iload1 dX8_burnInch_6 ?_
  refine e_iload2 dX8_burnInch_7 ?_
  refine e_cVGI (ct_X1_tell (d := d - 1) (by omega) hL (by omega) hh hi) cy_X1_tell cv_X1_tell ml_X8_101 la_119 rfl rfl rfl (rok (by omega) (by decide)) (Nat.le_of_ble_eq_true rfl) dX8_burnInch_8 (fun x M1 hx1 => ?_)
  obtain ⟨rfl, f1⟩ := hx1
  refine e_istore4 dX8_burnInch_11 rfl ?_
  refine e_aload0 dX8_burnInch_13 ?_
  refine e_getR fl_X8_47 la_0 rfl dX8_burnInch_14 ?_
  refine e_iconst dX8_burnInch_17 rfl kc_1 ?_
  refine e_iload3 dX8_burnInch_18 ?_
  refine e_iload1 dX8_burnInch_19 ?_
  refine e_iload2 dX8_burnInch_20 ?_
  refine e_cVGI (ct_X1_tell (d := d - 1) (by omega) (hL.fr f1) (by omega) (by rw [isH_frs f1.frs]; exact hh) (by rw [isIn_frs f1.frs]; exact hi)) cy_X1_tell cv_X1_tell ml_X8_101 la_119 rfl rfl rfl (rok (by omega) (by decide)) (Nat.le_of_ble_eq_true rfl) dX8_burnInch_21 (fun x2 M2 hx2 => ?_)
  obtain ⟨hx3, f2⟩ := hx2
  rw [tellV_fr f1 ht] at hx3
  subst hx3
  have f12 := f1.tr f2
  refine e_istore5 dX8_burnInch_24 rfl ?_
  refine e_aload0 dX8_burnInch_26 ?_
  refine e_getR fl_X8_47 la_0 rfl dX8_burnInch_27 ?_
  refine e_iconst dX8_burnInch_30 rfl kc_2 ?_
  refine e_iload3 dX8_burnInch_31 ?_
  refine e_iload1 dX8_burnInch_32 ?_
  refine e_iload2 dX8_burnInch_33 ?_
  refine e_cVGI (ct_X1_tell (d := d - 1) (by omega) (hL.fr f12) (by omega) (by rw [isH_frs f12.frs]; exact hh) (by rw [isIn_frs f12.frs]; exact hi)) cy_X1_tell cv_X1_tell ml_X8_101 la_119 rfl rfl rfl (rok (by omega) (by decide)) (Nat.le_of_ble_eq_true rfl) dX8_burnInch_34 (fun x4 M3 hx4 => ?_)
  refine e_istore6 dX8_burnInch_37 rfl ?_
  obtain ⟨hx5, f3⟩ := hx4
  rw [tellV_fr f12 ht] at hx5
  subst hx5
  exact hB M3 (f12.tr f3)
end BURN
