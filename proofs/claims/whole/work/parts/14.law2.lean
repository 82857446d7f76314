/-! LAW, what it tells -/
theorem lawC_some {M : Mem} {k : Nat} (h : isT M (M 1 16)) (h2 : 0 < M (93 + 6 * (M 1 16).toNat) k) : lawC M k = some (seg (M (91 + 6 * (M 1 16).toNat)) (M (92 + 6 * (M 1 16).toNat) k).toNat (M (93 + 6 * (M 1 16).toNat) k - M (92 + 6 * (M 1 16).toNat) k).toNat) := by
  unfold lawC
  rw [if_pos ⟨h, h2⟩]
theorem lawC_none {M : Mem} {k : Nat} (h : ¬ (isT M (M 1 16) ∧ 0 < M (93 + 6 * (M 1 16).toNat) k)) : lawC M k = none := by
  unfold lawC
  rw [if_neg h]
theorem lawV_b (o : Option (List Int)) (k : Int) (nm : Nat → Int) : (0 ≤ lawV o k nm ∧ lawV o k nm ≤ 99) ∧ (k = 1 → 1 ≤ lawV o k nm) ∧ (k = 3 → lawV o k nm ≤ 10) := by
  unfold lawV clampW
  generalize (match o with | some cs => (rpn nm cs []).headD 0 | none => untoldV k nm) = v
  by_cases h1 : k = 1
  · subst h1; simp; omega
  · by_cases h3 : k = 3
    · subst h3; simp; omega
    · simp [h1, h3]; omega
theorem lawV_congr {nm nm' : Nat → Int} (h : ∀ k, k < 8 → nm k = nm' k) (o : Option (List Int)) (k : Int) : lawV o k nm = lawV o k nm' := by
  unfold lawV untoldV
  cases o with
  | none => simp only [h 3 (by decide), h 1 (by decide)]
  | some cs => simp only [rpn_congr h]
def nmOf (M : Mem) (h c th ln i : Int) : Nat → Int := nameV h (M 2 h.toNat) c th ln i (M 3 h.toNat) (M 4 h.toNat)
/-- what the law says of a house and an inch of a candle -/
def tellV (M : Mem) (k h c i : Int) : Int := lawV (lawC M k.toNat) k (nmOf M h c (M 6 c.toNat) (M 7 c.toNat) i)
def tellN (M : Mem) (k h th ln i : Int) : Int := lawV (lawC M k.toNat) k (nmOf M h (M 1 5) th ln i)
theorem lawC_fr {M M1 : Mem} (h : Fr2 M M1) (ht : M 1 15 ≤ 4) (k : Nat) : lawC M1 k = lawC M k := by
  unfold lawC isT
  rw [h 1 (by decide) (by decide)]
  by_cases q : 0 ≤ M 1 16 ∧ M 1 16 < M 1 15
  · rw [h (93 + 6 * (M 1 16).toNat) (by omega) (by omega), h (92 + 6 * (M 1 16).toNat) (by omega) (by omega), h (91 + 6 * (M 1 16).toNat) (by omega) (by omega)]
  · rw [if_neg (fun z => q z.1), if_neg (fun z => q z.1)]
theorem tellV_fr {M M1 : Mem} (h : Fr2 M M1) (ht : M 1 15 ≤ 4) (k a c i : Int) : tellV M1 k a c i = tellV M k a c i := by
  unfold tellV nmOf
  rw [lawC_fr h ht, h 2 (by decide) (by decide), h 3 (by decide) (by decide), h 4 (by decide) (by decide), h 6 (by decide) (by decide), h 7 (by decide) (by decide)]
theorem tellN_fr {M M1 : Mem} (h : Fr2 M M1) (ht : M 1 15 ≤ 4) (k a th ln i : Int) : tellN M1 k a th ln i = tellN M k a th ln i := by
  unfold tellN nmOf
  rw [lawC_fr h ht, h 1 (by decide) (by decide), h 2 (by decide) (by decide), h 3 (by decide) (by decide), h 4 (by decide) (by decide)]
theorem tellV_b (M : Mem) (k h c i : Int) : (0 ≤ tellV M k h c i ∧ tellV M k h c i ≤ 99) ∧ (k = 1 → 1 ≤ tellV M k h c i) ∧ (k = 3 → tellV M k h c i ≤ 10) := lawV_b _ _ _
theorem tellN_b (M : Mem) (k h t n i : Int) : (0 ≤ tellN M k h t n i ∧ tellN M k h t n i ≤ 99) ∧ (k = 1 → 1 ≤ tellN M k h t n i) ∧ (k = 3 → tellN M k h t n i ≤ 10) := lawV_b _ _ _
section LAWS2
variable {l : Launch} {w : Wd} {d : Nat} {M : Mem} {Q : Option MV → Mem → Prop}
theorem tl_X1_answer {k v z : Int} {M1 : Mem} {x2 : Option MV} (hd : 1 ≤ d) (h : ∀ x, x = clampW k v → Q (some (vI x)) M1) : WM l w RX1 cX1_answer 7 (some .int) d Q 96 [some (vR 119), some (vI k), x2, some (vI z), none, none, none] [vI v] M1 := by
  refine e_istore4 dX1_answer_96 rfl ?_
  refine e_iload1 dX1_answer_98 ?_
  refine e_iconst dX1_answer_99 rfl kc_1 ?_
  refine e_icmp_ne (tgt := 107) dX1_answer_100 (by decide) (fun h100 => ?_) (fun h100 => ?_)
  · refine e_iconst dX1_answer_107 rfl kc_0 ?_
    refine e_istore5 dX1_answer_108 rfl ?_
    refine e_iload1 dX1_answer_110 ?_
    refine e_iconst dX1_answer_111 rfl kc_3 ?_
    refine e_icmp_ne (tgt := 120) dX1_answer_112 (by decide) (fun h112 => ?_) (fun h112 => ?_)
    · refine e_bipush dX1_answer_120 rfl kb_99 ?_
      refine e_istore6 dX1_answer_122 rfl ?_
      refine e_iload5 dX1_answer_124 ?_
      refine e_iload6 dX1_answer_126 ?_
      refine e_iload4 dX1_answer_128 ?_
      refine e_mmin ml9_X1_91 (rok1 (by omega)) rfl dX1_answer_130 ?_
      refine e_mmax ml9_X1_97 (rok1 (by omega)) rfl dX1_answer_133 ?_
      refine e_iret dX1_answer_136 ?_
      refine h _ ?_
      unfold clampW
      first | (simp [h100, h112]; done) | (exfalso; omega)
    · refine e_bipush dX1_answer_115 rfl kb_10 ?_
      refine e_goto (tgt := 122) dX1_answer_117 (by decide) ?_
      refine e_istore6 dX1_answer_122 rfl ?_
      refine e_iload5 dX1_answer_124 ?_
      refine e_iload6 dX1_answer_126 ?_
      refine e_iload4 dX1_answer_128 ?_
      refine e_mmin ml9_X1_91 (rok1 (by omega)) rfl dX1_answer_130 ?_
      refine e_mmax ml9_X1_97 (rok1 (by omega)) rfl dX1_answer_133 ?_
      refine e_iret dX1_answer_136 ?_
      refine h _ ?_
      unfold clampW
      first | (simp [h100, h112]; done) | (exfalso; omega)
  · refine e_iconst dX1_answer_103 rfl kc_1 ?_
    refine e_goto (tgt := 108) dX1_answer_104 (by decide) ?_
    refine e_istore5 dX1_answer_108 rfl ?_
    refine e_iload1 dX1_answer_110 ?_
    refine e_iconst dX1_answer_111 rfl kc_3 ?_
    refine e_icmp_ne (tgt := 120) dX1_answer_112 (by decide) (fun h112 => ?_) (fun h112 => ?_)
    · refine e_bipush dX1_answer_120 rfl kb_99 ?_
      refine e_istore6 dX1_answer_122 rfl ?_
      refine e_iload5 dX1_answer_124 ?_
      refine e_iload6 dX1_answer_126 ?_
      refine e_iload4 dX1_answer_128 ?_
      refine e_mmin ml9_X1_91 (rok1 (by omega)) rfl dX1_answer_130 ?_
      refine e_mmax ml9_X1_97 (rok1 (by omega)) rfl dX1_answer_133 ?_
      refine e_iret dX1_answer_136 ?_
      refine h _ ?_
      unfold clampW
      first | (simp [h100, h112]; done) | (exfalso; omega)
    · refine e_bipush dX1_answer_115 rfl kb_10 ?_
      refine e_goto (tgt := 122) dX1_answer_117 (by decide) ?_
      refine e_istore6 dX1_answer_122 rfl ?_
      refine e_iload5 dX1_answer_124 ?_
      refine e_iload6 dX1_answer_126 ?_
      refine e_iload4 dX1_answer_128 ?_
      refine e_mmin ml9_X1_91 (rok1 (by omega)) rfl dX1_answer_130 ?_
      refine e_mmax ml9_X1_97 (rok1 (by omega)) rfl dX1_answer_133 ?_
      refine e_iret dX1_answer_136 ?_
      refine h _ ?_
      unfold clampW
      first | (simp [h100, h112]; done) | (exfalso; omega)
theorem ct_X1_answer (hd : 3 ≤ d) (hL : LW M) {k : Int} (hk : 0 ≤ k ∧ k < 4) (hb : ∀ k, k < 8 → bnd (M 120 k)) :
    GI l w yX1_answer cX1_answer 7 .int d [vR 119, vI k] M (fun x M1 => x = lawV (lawC M k.toNat) k (M 120) ∧ Fr2 M M1) := by
  have ht := hL.2.2.2.1
  have hj1 : isT M (M 1 16) → (M 1 16).toNat < 4 := fun h => by omega
  refine MT.of [some (vR 119), some (vI k), none, none, none, none, none] ⟨by decide, rfl⟩ rfl (Nat.le_of_ble_eq_true rfl) (fun hA hM => ?_)
  refine e_aload0 dX1_answer_0 ?_
  refine e_getR fl_X1_18 la_119 rfl dX1_answer_1 ?_
  refine e_aload0 dX1_answer_4 ?_
  refine e_getR fl_X1_18 la_119 rfl dX1_answer_5 ?_
  refine e_getI fl_X1_67 la_1 rfl dX1_answer_8 ?_
  refine e_cVZ (ct_X0_isText (d := d - 1) (by omega)) cy_X0_isText cv_X0_isText ml_X1_70 la_1 rfl rfl rfl (rok (by omega) (by decide)) (Nat.le_of_ble_eq_true rfl) dX1_answer_11 (fun g11 => ?_) (fun g11 => ?_)
  · refine e_if_eq (tgt := 47) dX1_answer_14 (by decide) (fun h => absurd h (by decide)) (fun _ => ?_)
    refine e_aload0 dX1_answer_17 ?_
    refine e_getR fl_X1_18 la_119 rfl dX1_answer_18 ?_
    refine e_getI fl_X1_67 la_1 rfl dX1_answer_21 ?_
    refine e_aload0 dX1_answer_24 ?_
    refine e_getR fl_X1_22 la_119 rfl dX1_answer_25 ?_
    refine e_alen la_89 (by decide) (by decide) dX1_answer_28 ?_
    refine e_icmp_ge (tgt := 47) dX1_answer_29 (by decide) (fun h => absurd h (by omega)) (fun h29 => ?_)
    refine e_aload0 dX1_answer_32 ?_
    refine e_getR fl_X1_22 la_119 rfl dX1_answer_33 ?_
    refine e_aload0 dX1_answer_36 ?_
    refine e_getR fl_X1_18 la_119 rfl dX1_answer_37 ?_
    refine e_getI fl_X1_67 la_1 rfl dX1_answer_40 ?_
    refine e_aaldS la_89 (⟨by omega, by omega⟩) dX1_answer_43 ?_
    refine e_goto (tgt := 48) dX1_answer_44 (by decide) ?_
    refine e_astore2 dX1_answer_48 rfl ?_
    refine e_aload2 dX1_answer_49 ?_
    refine e_ifnull dX1_answer_50 ?_
    refine e_aload2 dX1_answer_53 ?_
    refine e_iload1 dX1_answer_54 ?_
    refine e_cVZ (ct_X3_has (d := d - 1) (by omega) (hj1 g11)) cy_X3_has cv_X3_has ml_X1_73 (la_S0 (hj1 g11)) rfl rfl rfl (rok (by omega) (by decide)) (Nat.le_of_ble_eq_true rfl) dX1_answer_55 (fun g55 => ?_) (fun g55 => ?_)
    · refine e_if_eq (tgt := 65) dX1_answer_58 (by decide) (fun h => absurd h (by decide)) (fun _ => ?_)
      refine e_iconst dX1_answer_61 rfl kc_1 ?_
      refine e_goto (tgt := 66) dX1_answer_62 (by decide) ?_
      refine e_istore3 dX1_answer_66 rfl ?_
      refine e_iload3 dX1_answer_67 ?_
      refine e_if_eq (tgt := 91) dX1_answer_68 (by decide) (fun h => absurd h (by decide)) (fun _ => ?_)
      have hx := hL.2.2.2.2 g11 k.toNat (by omega) g55.2.2
      refine e_aload0 dX1_answer_71 ?_
      refine e_aload2 dX1_answer_72 ?_
      refine e_aload2 dX1_answer_73 ?_
      refine e_getR fl_X1_78 (la_S0 (hj1 g11)) rfl dX1_answer_74 ?_
      refine e_iload1 dX1_answer_77 ?_
      refine e_iald (la_S2 (hj1 g11)) (⟨by omega, by omega⟩) dX1_answer_78 ?_
      refine e_aload2 dX1_answer_79 ?_
      refine e_getR fl_X1_81 (la_S0 (hj1 g11)) rfl dX1_answer_80 ?_
      refine e_iload1 dX1_answer_83 ?_
      refine e_iald (la_S3 (hj1 g11)) (⟨by omega, by omega⟩) dX1_answer_84 ?_
      refine e_cVGI (ct_X1_reckon (d := d - 1) (by omega) (hj1 g11) hx.1.1 hx.1.2.1 hx.1.2.2 hb hx.2) cy_X1_reckon cv_X1_reckon ml_X1_84 la_119 rfl rfl rfl (rok (by omega) (by decide)) (Nat.le_of_ble_eq_true rfl) dX1_answer_85 (fun x M1 hq => ?_)
      refine e_goto (tgt := 96) dX1_answer_88 (by decide) ?_
      refine tl_X1_answer (by omega) (fun z hz => ?_)
      subst hz
      first | exact ⟨_, rfl, by unfold lawV; rw [lawC_some g11 g55.2.2, hq.1], hq.2⟩ | exact ⟨_, rfl, by unfold lawV; rw [lawC_none (fun q => g55 ⟨hk.1, hk.2, q.2⟩)], Fr2.rf M⟩ | exact ⟨_, rfl, by unfold lawV; rw [lawC_none (fun q => g11 q.1)], Fr2.rf M⟩
    · refine e_if_eq (tgt := 65) dX1_answer_58 (by decide) (fun _ => ?_) (fun h => absurd h (by decide))
      refine e_iconst dX1_answer_65 rfl kc_0 ?_
      refine e_istore3 dX1_answer_66 rfl ?_
      refine e_iload3 dX1_answer_67 ?_
      refine e_if_eq (tgt := 91) dX1_answer_68 (by decide) (fun _ => ?_) (fun h => absurd h (by decide))
      refine e_aload0 dX1_answer_91 ?_
      refine e_iload1 dX1_answer_92 ?_
      refine e_cVI (ct_X1_untold (d := d - 1) (by omega) hb hk) cy_X1_untold cv_X1_untold ml_X1_88 la_119 rfl rfl rfl (rok (by omega) (by decide)) (Nat.le_of_ble_eq_true rfl) dX1_answer_93 ?_
      refine tl_X1_answer (by omega) (fun z hz => ?_)
      subst hz
      first | exact ⟨_, rfl, by unfold lawV; rw [lawC_some g11 g55.2.2, hq.1], hq.2⟩ | exact ⟨_, rfl, by unfold lawV; rw [lawC_none (fun q => g55 ⟨hk.1, hk.2, q.2⟩)], Fr2.rf M⟩ | exact ⟨_, rfl, by unfold lawV; rw [lawC_none (fun q => g11 q.1)], Fr2.rf M⟩
  · refine e_if_eq (tgt := 47) dX1_answer_14 (by decide) (fun _ => ?_) (fun h => absurd h (by decide))
    refine e_null dX1_answer_47 ?_
    refine e_astoreN2 dX1_answer_48 rfl ?_
    refine e_aloadN2 dX1_answer_49 ?_
    refine e_ifnullN (tgt := 65) dX1_answer_50 (by decide) ?_
    refine e_iconst dX1_answer_65 rfl kc_0 ?_
    refine e_istore3 dX1_answer_66 rfl ?_
    refine e_iload3 dX1_answer_67 ?_
    refine e_if_eq (tgt := 91) dX1_answer_68 (by decide) (fun _ => ?_) (fun h => absurd h (by decide))
    refine e_aload0 dX1_answer_91 ?_
    refine e_iload1 dX1_answer_92 ?_
    refine e_cVI (ct_X1_untold (d := d - 1) (by omega) hb hk) cy_X1_untold cv_X1_untold ml_X1_88 la_119 rfl rfl rfl (rok (by omega) (by decide)) (Nat.le_of_ble_eq_true rfl) dX1_answer_93 ?_
    refine tl_X1_answer (by omega) (fun z hz => ?_)
    subst hz
    first | exact ⟨_, rfl, by unfold lawV; rw [lawC_some g11 g55.2.2, hq.1], hq.2⟩ | exact ⟨_, rfl, by unfold lawV; rw [lawC_none (fun q => g55 ⟨hk.1, hk.2, q.2⟩)], Fr2.rf M⟩ | exact ⟨_, rfl, by unfold lawV; rw [lawC_none (fun q => g11 q.1)], Fr2.rf M⟩
theorem ct_X1_tell (hd : 4 ≤ d) (hL : LW M) {k h c i : Int} (hk : 0 ≤ k ∧ k < 4) (hh : isH M h) (hi : isIn M c i) :
    GI l w yX1_tell cX1_tell 5 .int d [vR 119, vI k, vI h, vI c, vI i] M (fun x M1 => x = tellV M k h c i ∧ Fr2 M M1) := by
  have hI := hL.1
  have hb := hI.2.1
  have hlen := hI.len hi.1
  have hb1 := hI.1
  have hv := hL.2.1 h.toNat (by omega)
  have hv2 := hL.2.2.1 c.toNat (by omega)
  have hf : Fr2 M (up (up (up (up M 120 2 c) 120 3 (M 6 c.toNat)) 120 4 (M 7 c.toNat)) 120 5 i) := (((Fr2.rf M).up (Or.inl rfl)).up (Or.inl rfl)).up (Or.inl rfl) |>.up (Or.inl rfl)
  refine MT.of [some (vR 119), some (vI k), some (vI h), some (vI c), some (vI i)] ⟨by decide, rfl⟩ rfl (Nat.le_of_ble_eq_true rfl) (fun hA hM => ?_)
  refine e_aload0 dX1_tell_0 ?_
  refine e_getR fl_X1_18 la_119 rfl dX1_tell_1 ?_
  refine e_iload2 dX1_tell_4 ?_
  refine e_cVZ (ct_X0_isHouse (d := d - 1) (by omega)) cy_X0_isHouse cv_X0_isHouse ml_X1_26 la_1 rfl rfl rfl (rok (by omega) (by decide)) (Nat.le_of_ble_eq_true rfl) dX1_tell_5 (fun g5 => ?_) (fun g5 => ?_)
  · refine e_if_eq (tgt := 24) dX1_tell_8 (by decide) (fun h => absurd h (by decide)) (fun _ => ?_)
    refine e_aload0 dX1_tell_11 ?_
    refine e_getR fl_X1_18 la_119 rfl dX1_tell_12 ?_
    refine e_iload3 dX1_tell_15 ?_
    refine e_iload4 dX1_tell_16 ?_
    refine e_cVZ (ct_X0_isInch (d := d - 1) (by omega) hI) cy_X0_isInch cv_X0_isInch ml_X1_32 la_1 rfl rfl rfl (rok (by omega) (by decide)) (Nat.le_of_ble_eq_true rfl) dX1_tell_18 (fun g18 => ?_) (fun g18 => ?_)
    · refine e_if_ne (tgt := 26) dX1_tell_21 (by decide) (fun _ => ?_) (fun h => absurd h (by decide))
      refine e_aload0 dX1_tell_26 ?_
      refine e_iload3 dX1_tell_27 ?_
      refine e_aload0 dX1_tell_28 ?_
      refine e_getR fl_X1_18 la_119 rfl dX1_tell_29 ?_
      refine e_getR fl_X1_36 la_1 rfl dX1_tell_32 ?_
      refine e_iload3 dX1_tell_35 ?_
      refine e_iald la_6 (⟨by omega, by omega⟩) dX1_tell_36 ?_
      refine e_aload0 dX1_tell_37 ?_
      refine e_getR fl_X1_18 la_119 rfl dX1_tell_38 ?_
      refine e_getR fl_X1_39 la_1 rfl dX1_tell_41 ?_
      refine e_iload3 dX1_tell_44 ?_
      refine e_iald la_7 (⟨by omega, by omega⟩) dX1_tell_45 ?_
      refine e_iload4 dX1_tell_46 ?_
      refine e_cVV (ct_X1_nameInch (d := d - 1) (by omega)) cy_X1_nameInch cv_X1_nameInch ml_X1_42 la_119 rfl rfl rfl (rok (by omega) (by decide)) (Nat.le_of_ble_eq_true rfl) dX1_tell_48 ?_
      generalize hM1 : up (up (up (up M 120 2 c) 120 3 (M 6 c.toNat)) 120 4 (M 7 c.toNat)) 120 5 i = M1 at hf ⊢
      have e2 : M1 2 = M 2 := hf 2 (by decide) (by decide)
      have e3 : M1 3 = M 3 := hf 3 (by decide) (by decide)
      have e4 : M1 4 = M 4 := hf 4 (by decide) (by decide)
      refine e_aload0 dX1_tell_51 ?_
      refine e_iload2 dX1_tell_52 ?_
      refine e_cVV (ct_X1_nameHouse (d := d - 1) (by omega) (hL.fr hf).1 (h := h) (by unfold isH; rw [hf 1 (by decide) (by decide)]; exact hh)) cy_X1_nameHouse cv_X1_nameHouse ml_X1_46 la_119 rfl rfl rfl (rok (by omega) (by decide)) (Nat.le_of_ble_eq_true rfl) dX1_tell_53 ?_
      have hf2 : Fr2 M (up (up (up (up M1 120 0 h) 120 1 (M1 2 h.toNat)) 120 6 (M1 3 h.toNat)) 120 7 (M1 4 h.toNat)) := ((((hf.up (Or.inl rfl)).up (Or.inl rfl)).up (Or.inl rfl)).up (Or.inl rfl))
      have hnm : ∀ q, q < 8 → (up (up (up (up M1 120 0 h) 120 1 (M1 2 h.toNat)) 120 6 (M1 3 h.toNat)) 120 7 (M1 4 h.toNat)) 120 q = nmOf M h c (M 6 c.toNat) (M 7 c.toNat) i q := by
        intro q hq
        rw [e2, e3, e4, ← hM1]
        rcases (show q = 0 ∨ q = 1 ∨ q = 2 ∨ q = 3 ∨ q = 4 ∨ q = 5 ∨ q = 6 ∨ q = 7 by omega) with rfl | rfl | rfl | rfl | rfl | rfl | rfl | rfl <;> simp [up, nmOf, nameV]
      have hbb : ∀ q, q < 8 → bnd ((up (up (up (up M1 120 0 h) 120 1 (M1 2 h.toNat)) 120 6 (M1 3 h.toNat)) 120 7 (M1 4 h.toNat)) 120 q) := by
        intro q hq
        rw [hnm q hq]
        rcases (show q = 0 ∨ q = 1 ∨ q = 2 ∨ q = 3 ∨ q = 4 ∨ q = 5 ∨ q = 6 ∨ q = 7 by omega) with rfl | rfl | rfl | rfl | rfl | rfl | rfl | rfl <;> simp only [nmOf, nameV] <;> exact ⟨by simp <;> omega, by simp <;> omega⟩
      generalize up (up (up (up M1 120 0 h) 120 1 (M1 2 h.toNat)) 120 6 (M1 3 h.toNat)) 120 7 (M1 4 h.toNat) = M2 at hf2 hnm hbb ⊢
      refine e_aload0 dX1_tell_56 ?_
      refine e_iload1 dX1_tell_57 ?_
      refine e_cVGI (ct_X1_answer (d := d - 1) (by omega) (hL.fr hf2) hk hbb) cy_X1_answer cv_X1_answer ml_X1_50 la_119 rfl rfl rfl (rok (by omega) (by decide)) (Nat.le_of_ble_eq_true rfl) dX1_tell_58 (fun x M3 hq => ?_)
      refine e_iret dX1_tell_61 ?_
      exact ⟨_, rfl, by rw [hq.1, lawC_fr hf2 hL.2.2.2.1]; exact lawV_congr hnm _ _, hf2.tr hq.2⟩
    · refine e_if_ne (tgt := 26) dX1_tell_21 (by decide) (fun h => absurd h (by decide)) (fun _ => ?_)
      refine e_iconst dX1_tell_24 rfl kc_0 ?_
      refine e_iret dX1_tell_25 ?_
      first | exact absurd hh g5 | exact absurd hi g18
  · refine e_if_eq (tgt := 24) dX1_tell_8 (by decide) (fun _ => ?_) (fun h => absurd h (by decide))
    refine e_iconst dX1_tell_24 rfl kc_0 ?_
    refine e_iret dX1_tell_25 ?_
    first | exact absurd hh g5 | exact absurd hi g18
theorem ct_X1_tellNew (hd : 4 ≤ d) (hL : LW M) {k h th ln i : Int} (hk : 0 ≤ k ∧ k < 4) (hh : isH M h) (hth : bnd th) (hln : bnd ln) (hi : bnd i) :
    GI l w yX1_tellNew cX1_tellNew 6 .int d [vR 119, vI k, vI h, vI th, vI ln, vI i] M (fun x M1 => x = tellN M k h th ln i ∧ Fr2 M M1) := by
  have hI := hL.1
  have hb := hI.2.1
  have hb1 := hI.1
  have hv := hL.2.1 h.toNat (by omega)
  have hf : Fr2 M (up (up (up (up M 120 2 (M 1 5)) 120 3 th) 120 4 ln) 120 5 i) := (((Fr2.rf M).up (Or.inl rfl)).up (Or.inl rfl)).up (Or.inl rfl) |>.up (Or.inl rfl)
  refine MT.of [some (vR 119), some (vI k), some (vI h), some (vI th), some (vI ln), some (vI i)] ⟨by decide, rfl⟩ rfl (Nat.le_of_ble_eq_true rfl) (fun hA hM => ?_)
  refine e_aload0 dX1_tellNew_0 ?_
  refine e_getR fl_X1_18 la_119 rfl dX1_tellNew_1 ?_
  refine e_iload2 dX1_tellNew_4 ?_
  refine e_cVZ (ct_X0_isHouse (d := d - 1) (by omega)) cy_X0_isHouse cv_X0_isHouse ml_X1_26 la_1 rfl rfl rfl (rok (by omega) (by decide)) (Nat.le_of_ble_eq_true rfl) dX1_tellNew_5 (fun g5 => ?_) (fun g5 => ?_)
  · refine e_if_ne (tgt := 13) dX1_tellNew_8 (by decide) (fun _ => ?_) (fun h => absurd h (by decide))
    refine e_aload0 dX1_tellNew_13 ?_
    refine e_aload0 dX1_tellNew_14 ?_
    refine e_getR fl_X1_18 la_119 rfl dX1_tellNew_15 ?_
    refine e_getI fl_X1_54 la_1 rfl dX1_tellNew_18 ?_
    refine e_iload3 dX1_tellNew_21 ?_
    refine e_iload4 dX1_tellNew_22 ?_
    refine e_iload5 dX1_tellNew_24 ?_
    refine e_cVV (ct_X1_nameInch (d := d - 1) (by omega)) cy_X1_nameInch cv_X1_nameInch ml_X1_42 la_119 rfl rfl rfl (rok (by omega) (by decide)) (Nat.le_of_ble_eq_true rfl) dX1_tellNew_26 ?_
    generalize hM1 : up (up (up (up M 120 2 (M 1 5)) 120 3 th) 120 4 ln) 120 5 i = M1 at hf ⊢
    have e2 : M1 2 = M 2 := hf 2 (by decide) (by decide)
    have e3 : M1 3 = M 3 := hf 3 (by decide) (by decide)
    have e4 : M1 4 = M 4 := hf 4 (by decide) (by decide)
    refine e_aload0 dX1_tellNew_29 ?_
    refine e_iload2 dX1_tellNew_30 ?_
    refine e_cVV (ct_X1_nameHouse (d := d - 1) (by omega) (hL.fr hf).1 (h := h) (by unfold isH; rw [hf 1 (by decide) (by decide)]; exact hh)) cy_X1_nameHouse cv_X1_nameHouse ml_X1_46 la_119 rfl rfl rfl (rok (by omega) (by decide)) (Nat.le_of_ble_eq_true rfl) dX1_tellNew_31 ?_
    have hf2 : Fr2 M (up (up (up (up M1 120 0 h) 120 1 (M1 2 h.toNat)) 120 6 (M1 3 h.toNat)) 120 7 (M1 4 h.toNat)) := ((((hf.up (Or.inl rfl)).up (Or.inl rfl)).up (Or.inl rfl)).up (Or.inl rfl))
    have hnm : ∀ q, q < 8 → (up (up (up (up M1 120 0 h) 120 1 (M1 2 h.toNat)) 120 6 (M1 3 h.toNat)) 120 7 (M1 4 h.toNat)) 120 q = nmOf M h (M 1 5) th ln i q := by
      intro q hq
      rw [e2, e3, e4, ← hM1]
      rcases (show q = 0 ∨ q = 1 ∨ q = 2 ∨ q = 3 ∨ q = 4 ∨ q = 5 ∨ q = 6 ∨ q = 7 by omega) with rfl | rfl | rfl | rfl | rfl | rfl | rfl | rfl <;> simp [up, nmOf, nameV]
    have hbb : ∀ q, q < 8 → bnd ((up (up (up (up M1 120 0 h) 120 1 (M1 2 h.toNat)) 120 6 (M1 3 h.toNat)) 120 7 (M1 4 h.toNat)) 120 q) := by
      intro q hq
      rw [hnm q hq]
      unfold bnd at hth hln hi
      rcases (show q = 0 ∨ q = 1 ∨ q = 2 ∨ q = 3 ∨ q = 4 ∨ q = 5 ∨ q = 6 ∨ q = 7 by omega) with rfl | rfl | rfl | rfl | rfl | rfl | rfl | rfl <;> simp only [nmOf, nameV] <;> exact ⟨by simp <;> omega, by simp <;> omega⟩
    generalize up (up (up (up M1 120 0 h) 120 1 (M1 2 h.toNat)) 120 6 (M1 3 h.toNat)) 120 7 (M1 4 h.toNat) = M2 at hf2 hnm hbb ⊢
    refine e_aload0 dX1_tellNew_34 ?_
    refine e_iload1 dX1_tellNew_35 ?_
    refine e_cVGI (ct_X1_answer (d := d - 1) (by omega) (hL.fr hf2) hk hbb) cy_X1_answer cv_X1_answer ml_X1_50 la_119 rfl rfl rfl (rok (by omega) (by decide)) (Nat.le_of_ble_eq_true rfl) dX1_tellNew_36 (fun x M3 hq => ?_)
    refine e_iret dX1_tellNew_39 ?_
    exact ⟨_, rfl, by rw [hq.1, lawC_fr hf2 hL.2.2.2.1]; exact lawV_congr hnm _ _, hf2.tr hq.2⟩
  · refine e_if_ne (tgt := 13) dX1_tellNew_8 (by decide) (fun h => absurd h (by decide)) (fun _ => ?_)
    refine e_iconst dX1_tellNew_11 rfl kc_0 ?_
    refine e_iret dX1_tellNew_12 ?_
    exact absurd hh g5
end LAWS2
