theorem adD_o {M : Mem} {c i h m t : Int} {o k : Nat} (ho : o ≠ 12) (hk : o ≠ 1 ∨ k ≠ 13) : adD M c i h m t o k = M o k := by
  unfold adD addD
  split
  · rcases hk with q | q
    · rw [up_o q, up_o ho, up_o ho, up_o ho, up_o ho, up_o ho]
    · rw [up_k q, up_o ho, up_o ho, up_o ho, up_o ho, up_o ho]
  · rfl
theorem bI2_o {M : Mem} {c i h : Int} {o : Nat} (h3 : o ≠ 3) (h4 : o ≠ 4) (h5 : o ≠ 5) : bI2 M c i h o = M o := by
  unfold bI2 bI1
  split
  · rw [up_row h4, up_row h3, up_row h5]
  · rw [up_row h3, up_row h5]
theorem burnI_o {M : Mem} {c i h : Int} {o k : Nat} (h3 : o ≠ 3) (h4 : o ≠ 4) (h5 : o ≠ 5) (ho : o ≠ 12) (hk : o ≠ 1 ∨ k ≠ 13) : burnI M c i h o k = M o k := by
  unfold burnI
  rw [adD_o ho hk, bI2_o h3 h4 h5]
theorem burnI_row {M : Mem} {c i h : Int} {o : Nat} (h3 : o ≠ 3) (h4 : o ≠ 4) (h5 : o ≠ 5) (ho : o ≠ 12) (h1 : o ≠ 1) : burnI M c i h o = M o := funext fun _ => burnI_o h3 h4 h5 ho (Or.inl h1)
theorem burnI_3 {M : Mem} {c i h : Int} (k : Nat) : burnI M c i h 3 k = if k = h.toNat then min 999 (M 3 h.toNat + tellV M 2 h c i) else M 3 k := by
  unfold burnI
  rw [adD_o (by decide) (Or.inl (by decide))]
  unfold bI2 bI1
  by_cases hk : k = h.toNat
  · subst hk
    rw [if_pos rfl]
    split
    · rw [up_o (by decide), up_s]
    · rw [up_s]
  · rw [if_neg hk]
    split
    · rw [up_o (by decide), up_k hk, up_o (by decide)]
    · rw [up_k hk, up_o (by decide)]
theorem burnI_4 {M : Mem} {c i h : Int} (k : Nat) : burnI M c i h 4 k = if k = h.toNat ∧ ownr M c i = -1 then min 999 (M 4 h.toNat + tellV M 0 h c i) else M 4 k := by
  unfold burnI
  rw [adD_o (by decide) (Or.inl (by decide))]
  unfold bI2 bI1
  by_cases ho : ownr M c i = -1
  · rw [if_pos ho]
    by_cases hk : k = h.toNat
    · subst hk
      rw [if_pos ⟨rfl, ho⟩, up_s]
    · rw [if_neg (fun z => hk z.1), up_k hk, up_o (by decide), up_o (by decide)]
  · rw [if_neg ho, if_neg (fun z => ho z.2), up_o (by decide), up_o (by decide)]
theorem burnI_5 {M : Mem} {c i h : Int} (k : Nat) : burnI M c i h 5 k = if k = h.toNat then M 5 h.toNat + tellV M 1 h c i else M 5 k := by
  unfold burnI
  rw [adD_o (by decide) (Or.inl (by decide))]
  unfold bI2 bI1
  by_cases hk : k = h.toNat
  · subst hk
    rw [if_pos rfl]
    split
    · rw [up_o (by decide), up_o (by decide), up_s]
    · rw [up_o (by decide), up_s]
  · rw [if_neg hk]
    split
    · rw [up_o (by decide), up_o (by decide), up_k hk]
    · rw [up_o (by decide), up_k hk]
theorem burnI_LW {M : Mem} {c i h : Int} (hl : LW M) (hh : isH M h) : LW (burnI M c i h) := by
  have t0 := (tellV_b M 0 h c i).1
  have t2 := (tellV_b M 2 h c i).1
  have hb := hl.1.1
  have hw := hl.2.1 h.toNat (by omega)
  unfold LW IB isT TxOk at hl ⊢
  rw [burnI_o (k := 0) (by decide) (by decide) (by decide) (by decide) (by decide), burnI_o (k := 5) (by decide) (by decide) (by decide) (by decide) (by decide), burnI_o (k := 15) (by decide) (by decide) (by decide) (by decide) (by decide), burnI_o (k := 16) (by decide) (by decide) (by decide) (by decide) (by decide), burnI_row (o := 7) (by decide) (by decide) (by decide) (by decide) (by decide), burnI_row (o := 2) (by decide) (by decide) (by decide) (by decide) (by decide), burnI_row (o := 6) (by decide) (by decide) (by decide) (by decide) (by decide)]
  refine ⟨hl.1, fun k hk => ⟨(hl.2.1 k hk).1, ?_, ?_⟩, hl.2.2.1, hl.2.2.2.1, fun ht => ?_⟩
  · rw [burnI_3]
    split
    · omega
    · exact (hl.2.1 k hk).2.1
  · rw [burnI_4]
    split
    · omega
    · exact (hl.2.1 k hk).2.2
  · have h4 : (M 1 16).toNat < 4 := by have := hl.2.2.2.1; omega
    rw [burnI_row (o := 93 + 6 * (M 1 16).toNat) (by omega) (by omega) (by omega) (by omega) (by omega), burnI_row (o := 92 + 6 * (M 1 16).toNat) (by omega) (by omega) (by omega) (by omega) (by omega), burnI_row (o := 91 + 6 * (M 1 16).toNat) (by omega) (by omega) (by omega) (by omega) (by omega)]
    exact hl.2.2.2.2 ht
abbrev okBurn (M : Mem) (c : Int) : Prop := isC M c ∧ M 8 c.toNat = 1 ∧ isH M (M 9 c.toNat) ∧ isIn M c (M 10 c.toNat)
def burnB (M : Mem) (c : Int) : Mem := up (burnI (keepM M (nxt M) c (-1)) c (M 10 c.toNat) (M 9 c.toNat)) 10 c.toNat (M 10 c.toNat + 1)
def burnM (M : Mem) (c : Int) : Mem := passM (burnB M c) c (M 10 c.toNat + 1) (M 9 c.toNat)
section BURN2
variable {l : Launch} {w : Wd} {d : Nat} {M : Mem} {Q : Option MV → Mem → Prop}
theorem ct_X8_passOn (hd : 5 ≤ d) (hL : LW M) {h c n : Int} (hc : isC M c) (hn : 0 ≤ n) (hO : isIn M c n → ownr M c n = -1 ∨ isH M (ownr M c n)) (hx : 0 ≤ M 1 12 ∧ M 1 12 ≤ 50000) : GV l w yX8_passOn cX8_passOn 5 d [vR 0, vI c, vI n, vI h] M (fun M1 => Fr2 (passM M c n h) M1) := by
  have hI := hL.1
  have hb5 := hI.2.1
  have ht := hL.2.2.2.1
  have hdraw : ∀ o : Int, PI l w yX0_draw cX0_draw 3 (d - 1) [vR 1, vI 10] (up M 9 c.toNat o) (M 1 12 % 10) (putM M c o) := by
    intro o
    have := ct_X0_draw (l := l) (w := w) (d := d - 1) (M := up M 9 c.toNat o) (m := 10) (by omega) (by omega) (by rw [up_row (by decide)]; exact hx)
    rw [up_row (by decide)] at this
    exact this
  have sm : ∀ o q, (q = 2 ∨ q = 3 ∨ q = 4 ∨ q = 6 ∨ q = 7) ∨ (90 ≤ q ∧ q ≤ 113) → putM M c o q = M q := by
    intro o q hq
    unfold putM
    rw [up_row (by omega), up_row (by omega)]
  have s1 : ∀ o k, k ≠ 12 → putM M c o 1 k = M 1 k := by
    intro o k hk
    unfold putM
    rw [up_k hk, up_o (by decide)]
  have hLp : ∀ o, LW (putM M c o) := fun o => hL.sm (s1 o 0 (by decide)) (s1 o 5 (by decide)) (s1 o 15 (by decide)) (s1 o 16 (by decide)) (sm o)
  have hTp : ∀ o k a, tellV (putM M c o) k a c n = tellV M k a c n := fun o k a => tellV_sm (s1 o 15 (by decide)) (s1 o 16 (by decide)) (sm o) ht k a c n
  refine MT.of [some (vR 0), some (vI c), some (vI n), some (vI h), none] ⟨by decide, rfl⟩ rfl (Nat.le_of_ble_eq_true rfl) (fun hA hM => ?_)
  refine e_iload2 dX8_passOn_0 ?_
  refine e_aload0 dX8_passOn_1 ?_
  refine e_getR fl_X8_12 la_0 rfl dX8_passOn_2 ?_
  refine e_getR fl_X8_153 la_1 rfl dX8_passOn_5 ?_
  refine e_iload1 dX8_passOn_8 ?_
  refine e_iald la_7 (⟨by omega, by omega⟩) dX8_passOn_9 ?_
  refine e_icmp_lt (tgt := 24) dX8_passOn_10 (by decide) (fun h10 => ?_) (fun h10 => ?_)
  · refine e_aload0 dX8_passOn_24 ?_
    refine e_getR fl_X8_12 la_0 rfl dX8_passOn_25 ?_
    refine e_iload1 dX8_passOn_28 ?_
    refine e_iload2 dX8_passOn_29 ?_
    refine e_cVI (ct_X0_ownerOf (d := d - 1) (by omega) hI) cy_X0_ownerOf cv_X0_ownerOf ml_X8_98 la_1 rfl rfl rfl (rok (by omega) (by decide)) (Nat.le_of_ble_eq_true rfl) dX8_passOn_30 ?_
    refine e_istore4 dX8_passOn_33 rfl ?_
    refine e_iload4 dX8_passOn_35 ?_
    refine e_iconst dX8_passOn_37 rfl kc_m1 ?_
    refine e_icmp_eq (tgt := 47) dX8_passOn_38 (by decide) (fun h38 => ?_) (fun h38 => ?_)
    · refine e_vret dX8_passOn_47 ?_
      first | exact ⟨rfl, by unfold passM; rw [if_neg (by omega), if_pos (Or.inl h38)]; exact Fr2.rf _⟩ | exact ⟨rfl, by unfold passM; rw [if_neg (by omega), if_pos (Or.inr (by omega))]; exact Fr2.rf _⟩
    · refine e_iload4 dX8_passOn_41 ?_
      refine e_iload3 dX8_passOn_43 ?_
      refine e_icmp_ne (tgt := 48) dX8_passOn_44 (by decide) (fun h44 => ?_) (fun h44 => ?_)
      · have hin : isIn M c n := ⟨hc, by omega, by omega⟩
        have hoh : isH M (ownr M c n) := (hO hin).resolve_left h38
        refine e_aload0 dX8_passOn_48 ?_
        refine e_getR fl_X8_12 la_0 rfl dX8_passOn_49 ?_
        refine e_getR fl_X8_129 la_1 rfl dX8_passOn_52 ?_
        refine e_iload1 dX8_passOn_55 ?_
        refine e_iload4 dX8_passOn_56 ?_
        refine e_iast la_9 (⟨by omega, by omega⟩) dX8_passOn_58 ?_
        refine e_aload0 dX8_passOn_59 ?_
        refine e_getR fl_X8_12 la_0 rfl dX8_passOn_60 ?_
        refine e_bipush dX8_passOn_63 rfl kb_10 ?_
        refine e_cVI (hdraw _) cy_X0_draw cv_X0_draw ml_X8_156 la_1 rfl rfl rfl (rok (by omega) (by decide)) (Nat.le_of_ble_eq_true rfl) dX8_passOn_65 ?_
        refine e_aload0 dX8_passOn_68 ?_
        refine e_getR fl_X8_47 la_0 rfl dX8_passOn_69 ?_
        refine e_iconst dX8_passOn_72 rfl kc_3 ?_
        refine e_iload4 dX8_passOn_73 ?_
        refine e_iload1 dX8_passOn_75 ?_
        refine e_iload2 dX8_passOn_76 ?_
        refine e_cVGI (ct_X1_tell (d := d - 1) (by omega) (hLp _) (by omega) (by unfold isH; rw [s1 _ 0 (by decide)]; exact hoh) (by unfold isIn isC; rw [s1 _ 5 (by decide), sm _ 7 (by omega)]; exact hin)) cy_X1_tell cv_X1_tell ml_X8_101 la_119 rfl rfl rfl (rok (by omega) (by decide)) (Nat.le_of_ble_eq_true rfl) dX8_passOn_77 (fun x M1 hx1 => ?_)
        obtain ⟨hx2, f1⟩ := hx1
        rw [hTp] at hx2
        subst hx2
        refine e_icmp_ge (tgt := 93) dX8_passOn_80 (by decide) (fun h80 => ?_) (fun h80 => ?_)
        · refine e_vret dX8_passOn_93 ?_
          first | exact ⟨rfl, by unfold passM; rw [if_neg (by omega), if_neg (by omega), if_pos (by omega)]; exact fr2u f1 rfl⟩ | exact ⟨rfl, by unfold passM; rw [if_neg (by omega), if_neg (by omega), if_neg (by omega)]; exact f1⟩
        · refine e_aload0 dX8_passOn_83 ?_
          refine e_getR fl_X8_12 la_0 rfl dX8_passOn_84 ?_
          refine e_getR fl_X8_119 la_1 rfl dX8_passOn_87 ?_
          refine e_iload1 dX8_passOn_90 ?_
          refine e_iconst dX8_passOn_91 rfl kc_2 ?_
          refine e_iast la_8 (⟨by omega, by omega⟩) dX8_passOn_92 ?_
          refine e_vret dX8_passOn_93 ?_
          first | exact ⟨rfl, by unfold passM; rw [if_neg (by omega), if_neg (by omega), if_pos (by omega)]; exact fr2u f1 rfl⟩ | exact ⟨rfl, by unfold passM; rw [if_neg (by omega), if_neg (by omega), if_neg (by omega)]; exact f1⟩
      · refine e_vret dX8_passOn_47 ?_
        first | exact ⟨rfl, by unfold passM; rw [if_neg (by omega), if_pos (Or.inl h38)]; exact Fr2.rf _⟩ | exact ⟨rfl, by unfold passM; rw [if_neg (by omega), if_pos (Or.inr (by omega))]; exact Fr2.rf _⟩
  · refine e_aload0 dX8_passOn_13 ?_
    refine e_getR fl_X8_12 la_0 rfl dX8_passOn_14 ?_
    refine e_getR fl_X8_119 la_1 rfl dX8_passOn_17 ?_
    refine e_iload1 dX8_passOn_20 ?_
    refine e_iconst dX8_passOn_21 rfl kc_3 ?_
    refine e_iast la_8 (⟨by omega, by omega⟩) dX8_passOn_22 ?_
    refine e_vret dX8_passOn_23 ?_
    exact ⟨rfl, by unfold passM; rw [if_pos (by omega)]; exact Fr2.rf _⟩
theorem ct_X8_burn (hd : 6 ≤ d) (hL : LW M) (hS : SI M) (hO : OWN M) (hx : 0 ≤ M 1 12 ∧ M 1 12 ≤ 50000) (hdr : 0 ≤ M 1 13 ∧ M 1 13 ≤ 72) (hm : ∀ k, k < 8 → 0 ≤ M 5 k ∧ M 5 k ≤ 1000000000) {c : Int} : GI l w yX8_burn cX8_burn 4 .int d [vR 0, vI c] M (fun x M1 => (okBurn M c ∧ x = burnM M c 8 c.toNat ∧ Fr2 (burnM M c) M1) ∨ (¬ okBurn M c ∧ x = -1 ∧ M1 = M)) := by
  have hI := hL.1
  have hb := hI.1
  have hb5 := hI.2.1
  obtain ⟨hq, hq1⟩ := nxt_ok hS
  by_cases hok : okBurn M c
  · obtain ⟨k1, k2, k3, k4⟩ := hok
    have hlen := hI.len k1
    have hLK : LW (keepM M (nxt M) c (-1)) := LW.st (keepM_st hq) hL
    have ko : ∀ o, o < 25 → keepM M (nxt M) c (-1) o = M o := fun o ho => keepM_o (by omega) (by omega)
    have hhK : isH (keepM M (nxt M) c (-1)) (M 9 c.toNat) := by unfold isH; rw [ko 1 (by decide)]; exact k3
    have hiK : isIn (keepM M (nxt M) c (-1)) c (M 10 c.toNat) := by unfold isIn isC; rw [ko 1 (by decide), ko 7 (by decide)]; exact k4
    have hLI : LW (burnI (keepM M (nxt M) c (-1)) c (M 10 c.toNat) (M 9 c.toNat)) := burnI_LW hLK hhK
    have hLB : LW (burnB M c) := LW.sm (up_o (by decide)) (up_o (by decide)) (up_o (by decide)) (up_o (by decide)) (fun o ho => up_row (by omega)) hLI
    have b1 : ∀ k, k ≠ 13 → burnB M c 1 k = M 1 k := fun k hk => by
      unfold burnB
      rw [up_o (by decide), burnI_o (by decide) (by decide) (by decide) (by decide) (Or.inr hk), ko 1 (by decide)]
    have b7 : burnB M c 7 = M 7 := by
      unfold burnB
      rw [up_row (by decide), burnI_row (by decide) (by decide) (by decide) (by decide) (by decide), ko 7 (by decide)]
    have b11 : burnB M c 11 = M 11 := by
      unfold burnB
      rw [up_row (by decide), burnI_row (by decide) (by decide) (by decide) (by decide) (by decide), ko 11 (by decide)]
    have bo : ∀ i, ownr (burnB M c) c i = ownr M c i := fun i => by
      unfold ownr isIn isC
      rw [b1 5 (by decide), b7, b11]
    refine MT.of [some (vR 0), some (vI c), none, none] ⟨by decide, rfl⟩ rfl (Nat.le_of_ble_eq_true rfl) (fun hA hM => ?_)
    refine e_aload0 dX8_burn_0 ?_
    refine e_getR fl_X8_12 la_0 rfl dX8_burn_1 ?_
    refine e_iload1 dX8_burn_4 ?_
    refine e_cVZ (ct_X0_isCandle (d := d - 1) (by omega)) cy_X0_isCandle cv_X0_isCandle ml_X8_116 la_1 rfl rfl rfl (rok (by omega) (by decide)) (Nat.le_of_ble_eq_true rfl) dX8_burn_5 (fun g5 => ?_) (fun g5 => ?_)
    · refine e_if_eq (tgt := 24) dX8_burn_8 (by decide) (fun h => absurd h (by decide)) (fun _ => ?_)
      refine e_aload0 dX8_burn_11 ?_
      refine e_getR fl_X8_12 la_0 rfl dX8_burn_12 ?_
      refine e_getR fl_X8_119 la_1 rfl dX8_burn_15 ?_
      refine e_iload1 dX8_burn_18 ?_
      refine e_iald la_8 (⟨by omega, by omega⟩) dX8_burn_19 ?_
      refine e_iconst dX8_burn_20 rfl kc_1 ?_
      refine e_icmp_eq (tgt := 26) dX8_burn_21 (by decide) (fun h21 => ?_) (fun h21 => ?_)
      · refine e_aload0 dX8_burn_26 ?_
        refine e_getR fl_X8_12 la_0 rfl dX8_burn_27 ?_
        refine e_getR fl_X8_129 la_1 rfl dX8_burn_30 ?_
        refine e_iload1 dX8_burn_33 ?_
        refine e_iald la_9 (⟨by omega, by omega⟩) dX8_burn_34 ?_
        refine e_istore2 dX8_burn_35 rfl ?_
        refine e_aload0 dX8_burn_36 ?_
        refine e_getR fl_X8_12 la_0 rfl dX8_burn_37 ?_
        refine e_getR fl_X8_94 la_1 rfl dX8_burn_40 ?_
        refine e_iload1 dX8_burn_43 ?_
        refine e_iald la_10 (⟨by omega, by omega⟩) dX8_burn_44 ?_
        refine e_istore3 dX8_burn_45 rfl ?_
        refine e_aload0 dX8_burn_46 ?_
        refine e_getR fl_X8_12 la_0 rfl dX8_burn_47 ?_
        refine e_iload2 dX8_burn_50 ?_
        refine e_cVZ (ct_X0_isHouse (d := d - 1) (by omega)) cy_X0_isHouse cv_X0_isHouse ml_X8_86 la_1 rfl rfl rfl (rok (by omega) (by decide)) (Nat.le_of_ble_eq_true rfl) dX8_burn_51 (fun g51 => ?_) (fun g51 => ?_)
        · refine e_if_eq (tgt := 69) dX8_burn_54 (by decide) (fun h => absurd h (by decide)) (fun _ => ?_)
          refine e_aload0 dX8_burn_57 ?_
          refine e_getR fl_X8_12 la_0 rfl dX8_burn_58 ?_
          refine e_iload1 dX8_burn_61 ?_
          refine e_iload3 dX8_burn_62 ?_
          refine e_cVZ (ct_X0_isInch (d := d - 1) (by omega) hI) cy_X0_isInch cv_X0_isInch ml_X8_90 la_1 rfl rfl rfl (rok (by omega) (by decide)) (Nat.le_of_ble_eq_true rfl) dX8_burn_63 (fun g63 => ?_) (fun g63 => ?_)
          · refine e_if_ne (tgt := 71) dX8_burn_66 (by decide) (fun _ => ?_) (fun h => absurd h (by decide))
            refine e_aload0 dX8_burn_71 ?_
            refine e_getR fl_X8_22 la_0 rfl dX8_burn_72 ?_
            refine e_aload0 dX8_burn_75 ?_
            refine e_getR fl_X8_12 la_0 rfl dX8_burn_76 ?_
            refine e_iload1 dX8_burn_79 ?_
            refine e_iconst dX8_burn_80 rfl kc_m1 ?_
            refine e_cVV (ct_X4_keep (d := d - 1) (by omega) hI hq hS.1 hS.2 hq1) cy_X4_keep cv_X4_keep ml_X8_108 la_25 rfl rfl rfl (rok (by omega) (by decide)) (Nat.le_of_ble_eq_true rfl) dX8_burn_81 ?_
            refine e_aload0 dX8_burn_84 ?_
            refine e_iload1 dX8_burn_85 ?_
            refine e_iload3 dX8_burn_86 ?_
            refine e_iload2 dX8_burn_87 ?_
            refine e_cVGV (ct_X8_burnInch (d := d - 1) (by omega) hLK hhK hiK (by rw [ko 1 (by decide)]; exact hdr) (by rw [ko 5 (by decide)]; exact hm _ (by omega))) cy_X8_burnInch cv_X8_burnInch ml_X8_132 la_0 rfl rfl rfl (rok (by omega) (by decide)) (Nat.le_of_ble_eq_true rfl) dX8_burn_88 (fun M1 f1 => ?_)
            have fB : Fr2 (burnB M c) (up M1 10 c.toNat (M 10 c.toNat + 1)) := fr2u f1 rfl
            have hp := ct_X8_passOn (l := l) (w := w) (d := d - 1) (M := up M1 10 c.toNat (M 10 c.toNat + 1)) (h := M 9 c.toNat) (c := c) (n := M 10 c.toNat + 1) (by omega) (hLB.fr fB) (by rw [isC_frs fB.frs]; unfold isC; rw [b1 5 (by decide)]; exact k1) (by omega) (fun hin => by rw [isIn_frs fB.frs] at hin; rw [isH_frs fB.frs, ownr_frs fB.frs, bo]; unfold isH; rw [b1 0 (by decide)]; unfold isIn isC at hin; rw [b1 5 (by decide), b7] at hin; exact hO.1 c _ hin) (by rw [fB 1 (by decide) (by decide), b1 12 (by decide)]; exact hx)
            refine e_aload0 dX8_burn_91 ?_
            refine e_getR fl_X8_12 la_0 rfl dX8_burn_92 ?_
            refine e_getR fl_X8_94 la_1 rfl dX8_burn_95 ?_
            refine e_iload1 dX8_burn_98 ?_
            refine e_iload3 dX8_burn_99 ?_
            refine e_iconst dX8_burn_100 rfl kc_1 ?_
            refine e_iadd dX8_burn_101 (⟨by omega, by omega⟩) ?_
            refine e_iast la_10 (⟨by omega, by omega⟩) dX8_burn_102 ?_
            refine e_aload0 dX8_burn_103 ?_
            refine e_iload1 dX8_burn_104 ?_
            refine e_iload3 dX8_burn_105 ?_
            refine e_iconst dX8_burn_106 rfl kc_1 ?_
            refine e_iadd dX8_burn_107 (⟨by omega, by omega⟩) ?_
            refine e_iload2 dX8_burn_108 ?_
            refine e_cVGV (hp) cy_X8_passOn cv_X8_passOn ml_X8_135 la_0 rfl rfl rfl (rok (by omega) (by decide)) (Nat.le_of_ble_eq_true rfl) dX8_burn_109 (fun M2 f2 => ?_)
            have fz : Fr2 (burnM M c) M2 := (passM_fr fB hLB.2.2.2.1 _ _ _).tr f2
            refine e_aload0 dX8_burn_112 ?_
            refine e_getR fl_X8_12 la_0 rfl dX8_burn_113 ?_
            refine e_getR fl_X8_119 la_1 rfl dX8_burn_116 ?_
            refine e_iload1 dX8_burn_119 ?_
            refine e_iald la_8 (⟨by omega, by omega⟩) dX8_burn_120 ?_
            refine e_iret dX8_burn_121 ?_
            exact ⟨_, rfl, Or.inl ⟨⟨k1, k2, k3, k4⟩, by rw [fz 8 (by decide) (by decide)], fz⟩⟩
          · refine e_if_ne (tgt := 71) dX8_burn_66 (by decide) (fun h => absurd h (by decide)) (fun _ => ?_)
            refine e_iconst dX8_burn_69 rfl kc_m1 ?_
            refine e_iret dX8_burn_70 ?_
            first | exact absurd k3 g51 | exact absurd k4 g63
        · refine e_if_eq (tgt := 69) dX8_burn_54 (by decide) (fun _ => ?_) (fun h => absurd h (by decide))
          refine e_iconst dX8_burn_69 rfl kc_m1 ?_
          refine e_iret dX8_burn_70 ?_
          first | exact absurd k3 g51 | exact absurd k4 g63
      · refine e_iconst dX8_burn_24 rfl kc_m1 ?_
        refine e_iret dX8_burn_25 ?_
        first | exact absurd k1 g5 | exact absurd k2 h21
    · refine e_if_eq (tgt := 24) dX8_burn_8 (by decide) (fun _ => ?_) (fun h => absurd h (by decide))
      refine e_iconst dX8_burn_24 rfl kc_m1 ?_
      refine e_iret dX8_burn_25 ?_
      first | exact absurd k1 g5 | exact absurd k2 h21
  · refine MT.of [some (vR 0), some (vI c), none, none] ⟨by decide, rfl⟩ rfl (Nat.le_of_ble_eq_true rfl) (fun hA hM => ?_)
    refine e_aload0 dX8_burn_0 ?_
    refine e_getR fl_X8_12 la_0 rfl dX8_burn_1 ?_
    refine e_iload1 dX8_burn_4 ?_
    refine e_cVZ (ct_X0_isCandle (d := d - 1) (by omega)) cy_X0_isCandle cv_X0_isCandle ml_X8_116 la_1 rfl rfl rfl (rok (by omega) (by decide)) (Nat.le_of_ble_eq_true rfl) dX8_burn_5 (fun g5 => ?_) (fun g5 => ?_)
    · refine e_if_eq (tgt := 24) dX8_burn_8 (by decide) (fun h => absurd h (by decide)) (fun _ => ?_)
      refine e_aload0 dX8_burn_11 ?_
      refine e_getR fl_X8_12 la_0 rfl dX8_burn_12 ?_
      refine e_getR fl_X8_119 la_1 rfl dX8_burn_15 ?_
      refine e_iload1 dX8_burn_18 ?_
      refine e_iald la_8 (⟨by omega, by omega⟩) dX8_burn_19 ?_
      refine e_iconst dX8_burn_20 rfl kc_1 ?_
      refine e_icmp_eq (tgt := 26) dX8_burn_21 (by decide) (fun h21 => ?_) (fun h21 => ?_)
      · refine e_aload0 dX8_burn_26 ?_
        refine e_getR fl_X8_12 la_0 rfl dX8_burn_27 ?_
        refine e_getR fl_X8_129 la_1 rfl dX8_burn_30 ?_
        refine e_iload1 dX8_burn_33 ?_
        refine e_iald la_9 (⟨by omega, by omega⟩) dX8_burn_34 ?_
        refine e_istore2 dX8_burn_35 rfl ?_
        refine e_aload0 dX8_burn_36 ?_
        refine e_getR fl_X8_12 la_0 rfl dX8_burn_37 ?_
        refine e_getR fl_X8_94 la_1 rfl dX8_burn_40 ?_
        refine e_iload1 dX8_burn_43 ?_
        refine e_iald la_10 (⟨by omega, by omega⟩) dX8_burn_44 ?_
        refine e_istore3 dX8_burn_45 rfl ?_
        refine e_aload0 dX8_burn_46 ?_
        refine e_getR fl_X8_12 la_0 rfl dX8_burn_47 ?_
        refine e_iload2 dX8_burn_50 ?_
        refine e_cVZ (ct_X0_isHouse (d := d - 1) (by omega)) cy_X0_isHouse cv_X0_isHouse ml_X8_86 la_1 rfl rfl rfl (rok (by omega) (by decide)) (Nat.le_of_ble_eq_true rfl) dX8_burn_51 (fun g51 => ?_) (fun g51 => ?_)
        · refine e_if_eq (tgt := 69) dX8_burn_54 (by decide) (fun h => absurd h (by decide)) (fun _ => ?_)
          refine e_aload0 dX8_burn_57 ?_
          refine e_getR fl_X8_12 la_0 rfl dX8_burn_58 ?_
          refine e_iload1 dX8_burn_61 ?_
          refine e_iload3 dX8_burn_62 ?_
          refine e_cVZ (ct_X0_isInch (d := d - 1) (by omega) hI) cy_X0_isInch cv_X0_isInch ml_X8_90 la_1 rfl rfl rfl (rok (by omega) (by decide)) (Nat.le_of_ble_eq_true rfl) dX8_burn_63 (fun g63 => ?_) (fun g63 => ?_)
          · refine e_if_ne (tgt := 71) dX8_burn_66 (by decide) (fun _ => ?_) (fun h => absurd h (by decide))
            exact absurd ⟨g5, by omega, g51, g63⟩ hok
          · refine e_if_ne (tgt := 71) dX8_burn_66 (by decide) (fun h => absurd h (by decide)) (fun _ => ?_)
            refine e_iconst dX8_burn_69 rfl kc_m1 ?_
            refine e_iret dX8_burn_70 ?_
            exact ⟨_, rfl, Or.inr ⟨hok, rfl, rfl⟩⟩
        · refine e_if_eq (tgt := 69) dX8_burn_54 (by decide) (fun _ => ?_) (fun h => absurd h (by decide))
          refine e_iconst dX8_burn_69 rfl kc_m1 ?_
          refine e_iret dX8_burn_70 ?_
          exact ⟨_, rfl, Or.inr ⟨hok, rfl, rfl⟩⟩
      · refine e_iconst dX8_burn_24 rfl kc_m1 ?_
        refine e_iret dX8_burn_25 ?_
        exact ⟨_, rfl, Or.inr ⟨hok, rfl, rfl⟩⟩
    · refine e_if_eq (tgt := 24) dX8_burn_8 (by decide) (fun _ => ?_) (fun h => absurd h (by decide))
      refine e_iconst dX8_burn_24 rfl kc_m1 ?_
      refine e_iret dX8_burn_25 ?_
      exact ⟨_, rfl, Or.inr ⟨hok, rfl, rfl⟩⟩
end BURN2
