/-- what guest g of a set keeps at inch i, of a candle of some thickness -/
def gK (M : Mem) (s : Nat) (th : Int) (g i : Nat) : Int := if i = 0 then 1 else 10 - tellN M 3 (((gl s (M 1 0).toNat).getD g 0 : Nat) : Int) th (((gl s (M 1 0).toNat).length : Nat) : Int) i
theorem gK_ok (M : Mem) (s : Nat) (th : Int) : okK (gK M s th) := by
  intro g i
  unfold gK
  split
  · exact ⟨by decide, by decide⟩
  · have := tellN_b M 3 (((gl s (M 1 0).toNat).getD g 0 : Nat) : Int) th (((gl s (M 1 0).toNat).length : Nat) : Int) i
    have h2 := this.2.2 rfl
    omega
section SUP3
variable {l : Launch} {w : Wd} {d : Nat} {M : Mem} {Q : Option MV → Mem → Prop}
theorem ct_X5_invite (hd : 1 ≤ d) (hI : IB M) {s : Nat} (hs : s < 256) (h6 : (gl s (M 1 0).toNat).length ≤ 6) : GV l w yX5_invite cX5_invite 3 d [vR 125, vI s] M (fun M1 => FrS M M1 ∧ M1 125 6 = (gl s (M 1 0).toNat).length ∧ ∀ g, g < (gl s (M 1 0).toNat).length → M1 126 g = ((gl s (M 1 0).toNat).getD g 0 : Nat)) := by
  have hb := hI.1
  obtain ⟨H, hH⟩ : ∃ n : Nat, M 1 0 = n := ⟨(M 1 0).toNat, by omega⟩
  rw [hH, Int.toNat_natCast] at h6 ⊢
  have loop : ∀ (q h : Nat) (M1 : Mem), h + q = H → FrS M M1 → M1 125 6 = (gl s h).length → (∀ g, g < (gl s h).length → M1 126 g = ((gl s h).getD g 0 : Nat)) → WM l w RX5 cX5_invite 3 none d (fun r M1 => r = none ∧ FrS M M1 ∧ M1 125 6 = (gl s H).length ∧ ∀ g, g < (gl s H).length → M1 126 g = ((gl s H).getD g 0 : Nat)) 7 [some (vR 125), some (vI s), some (vI h)] [] M1 := by
    intro q
    induction q with
    | zero =>
      intro h M1 hh hf hc hr
      obtain rfl : h = H := by omega
      refine e_iload2 dX5_invite_7 ?_
      refine e_aload0 dX5_invite_8 ?_
      refine e_getR fl_X5_28 la_125 rfl dX5_invite_9 ?_
      refine e_getI fl_X5_50 la_1 rfl dX5_invite_12 ?_
      refine WW.ec (y := (h : Int)) (by rw [hf 1 (by omega)]; exact hH) ?_
      refine e_icmp_ge (tgt := 62) dX5_invite_15 (by decide) (fun h15 => ?_) (fun h => absurd h (by omega))
      refine e_vret dX5_invite_62 ?_
      exact ⟨rfl, hf, hc, hr⟩
    | succ q ih =>
      intro h M1 hh hf hc hr
      have hbit := bit_t s hs h (by omega)
      by_cases hfull : 6 ≤ (gl s h).length
      · obtain ⟨r, hr9⟩ := gl_mono s h (q + 1)
        rw [hh] at hr9
        have hl9 : (gl s H).length = (gl s h).length + r.length := by rw [hr9, List.length_append]
        have hr0 : r = [] := List.eq_nil_of_length_eq_zero (by omega)
        rw [hr0, List.append_nil] at hr9
        refine e_iload2 dX5_invite_7 ?_
        refine e_aload0 dX5_invite_8 ?_
        refine e_getR fl_X5_28 la_125 rfl dX5_invite_9 ?_
        refine e_getI fl_X5_50 la_1 rfl dX5_invite_12 ?_
        refine WW.ec (y := (H : Int)) (by rw [hf 1 (by omega)]; exact hH) ?_
        refine e_icmp_ge (tgt := 62) dX5_invite_15 (by decide) (fun h => absurd h (by omega)) (fun h15 => ?_)
        refine e_aload0 dX5_invite_18 ?_
        refine e_getI fl_X5_24 la_125 rfl dX5_invite_19 ?_
        refine WW.ec (y := ((gl s h).length : Int)) (hc) ?_
        refine e_bipush dX5_invite_22 rfl kb_6 ?_
        refine e_icmp_ge (tgt := 62) dX5_invite_24 (by decide) (fun h24 => ?_) (fun h => absurd h (by omega))
        refine e_vret dX5_invite_62 ?_
        exact ⟨rfl, hf, by rw [hr9]; exact hc, by rw [hr9]; exact hr⟩
      · by_cases ht : s.testBit h = true
        · have hg : gl s (h + 1) = gl s h ++ [h] := by rw [gl_s, if_pos ht]
          refine e_iload2 dX5_invite_7 ?_
          refine e_aload0 dX5_invite_8 ?_
          refine e_getR fl_X5_28 la_125 rfl dX5_invite_9 ?_
          refine e_getI fl_X5_50 la_1 rfl dX5_invite_12 ?_
          refine WW.ec (y := (H : Int)) (by rw [hf 1 (by omega)]; exact hH) ?_
          refine e_icmp_ge (tgt := 62) dX5_invite_15 (by decide) (fun h => absurd h (by omega)) (fun h15 => ?_)
          refine e_aload0 dX5_invite_18 ?_
          refine e_getI fl_X5_24 la_125 rfl dX5_invite_19 ?_
          refine WW.ec (y := ((gl s h).length : Int)) (hc) ?_
          refine e_bipush dX5_invite_22 rfl kb_6 ?_
          refine e_icmp_ge (tgt := 62) dX5_invite_24 (by decide) (fun h => absurd h (by omega)) (fun h24 => ?_)
          refine e_iload1 dX5_invite_27 ?_
          refine e_iload2 dX5_invite_28 ?_
          refine e_ishr dX5_invite_29 ?_
          refine e_iconst dX5_invite_30 rfl kc_1 ?_
          refine e_iand dX5_invite_31 ?_
          refine e_iconst dX5_invite_32 rfl kc_1 ?_
          refine e_icmp_ne (tgt := 56) dX5_invite_33 (by decide) (fun h => absurd h (fun z => z (hbit.mpr ht))) (fun h33 => ?_)
          refine e_aload0 dX5_invite_36 ?_
          refine e_getR fl_X5_9 la_125 rfl dX5_invite_37 ?_
          refine e_aload0 dX5_invite_40 ?_
          refine e_getI fl_X5_24 la_125 rfl dX5_invite_41 ?_
          refine WW.ec (y := ((gl s h).length : Int)) (hc) ?_
          refine e_iload2 dX5_invite_44 ?_
          refine e_iast la_126 (⟨by omega, by omega⟩) dX5_invite_45 ?_
          refine e_aload0 dX5_invite_46 ?_
          refine e_dup dX5_invite_47 rfl ?_
          refine e_getI fl_X5_24 la_125 rfl dX5_invite_48 ?_
          refine WW.ec (y := ((gl s h).length : Int)) (by rw [up_row (by decide)]; exact hc) ?_
          refine e_iconst dX5_invite_51 rfl kc_1 ?_
          refine e_iadd dX5_invite_52 (⟨by omega, by omega⟩) ?_
          refine e_putI fp_X5_24 la_125 rfl dX5_invite_53 ?_
          refine e_iinc2 dX5_invite_56 rfl (⟨by omega, by omega⟩) rfl ?_
          refine e_goto (tgt := 7) dX5_invite_59 (by decide) ?_
          refine ih (h + 1) _ (by omega) ((hf.up (by omega)).up (by omega)) (by rw [up_s, hg, List.length_append]; rfl) (fun g hg2 => ?_)
          rw [hg] at hg2 ⊢
          rw [List.length_append] at hg2
          rw [up_row (by decide), Int.toNat_natCast]
          by_cases e : g = (gl s h).length
          · rw [e, up_s, List.getD_eq_getElem?_getD, List.getElem?_append_right (Nat.le_refl _), Nat.sub_self]; rfl
          · have hlt : g < (gl s h).length := by simp at hg2; omega
            rw [up_k e, hr g hlt, List.getD_eq_getElem?_getD, List.getD_eq_getElem?_getD, List.getElem?_append_left hlt]
        · have hg : gl s (h + 1) = gl s h := by rw [gl_s, if_neg ht, List.append_nil]
          refine e_iload2 dX5_invite_7 ?_
          refine e_aload0 dX5_invite_8 ?_
          refine e_getR fl_X5_28 la_125 rfl dX5_invite_9 ?_
          refine e_getI fl_X5_50 la_1 rfl dX5_invite_12 ?_
          refine WW.ec (y := (H : Int)) (by rw [hf 1 (by omega)]; exact hH) ?_
          refine e_icmp_ge (tgt := 62) dX5_invite_15 (by decide) (fun h => absurd h (by omega)) (fun h15 => ?_)
          refine e_aload0 dX5_invite_18 ?_
          refine e_getI fl_X5_24 la_125 rfl dX5_invite_19 ?_
          refine WW.ec (y := ((gl s h).length : Int)) (hc) ?_
          refine e_bipush dX5_invite_22 rfl kb_6 ?_
          refine e_icmp_ge (tgt := 62) dX5_invite_24 (by decide) (fun h => absurd h (by omega)) (fun h24 => ?_)
          refine e_iload1 dX5_invite_27 ?_
          refine e_iload2 dX5_invite_28 ?_
          refine e_ishr dX5_invite_29 ?_
          refine e_iconst dX5_invite_30 rfl kc_1 ?_
          refine e_iand dX5_invite_31 ?_
          refine e_iconst dX5_invite_32 rfl kc_1 ?_
          refine e_icmp_ne (tgt := 56) dX5_invite_33 (by decide) (fun h33 => ?_) (fun h => absurd h (fun z => ht (hbit.mp z)))
          refine e_iinc2 dX5_invite_56 rfl (⟨by omega, by omega⟩) rfl ?_
          refine e_goto (tgt := 7) dX5_invite_59 (by decide) ?_
          exact ih (h + 1) M1 (by omega) hf (by rw [hg]; exact hc) (by rw [hg]; exact hr)
  refine MT.of [some (vR 125), some (vI s), none] ⟨by decide, rfl⟩ rfl (Nat.le_of_ble_eq_true rfl) (fun hA hM => ?_)
  refine e_aload0 dX5_invite_0 ?_
  refine e_iconst dX5_invite_1 rfl kc_0 ?_
  refine e_putI fp_X5_24 la_125 rfl dX5_invite_2 ?_
  refine e_iconst dX5_invite_5 rfl kc_0 ?_
  refine e_istore2 dX5_invite_6 rfl ?_
  exact loop H 0 _ (by omega) ((FrS.rf M).up (by omega)) (up_s _ _ _ _) (fun g hg => absurd hg (by simp [gl]))
theorem ct_X5_keptBy (hd : 5 ≤ d) (hL : LW M) {s : Nat} {th : Int} (hth : 0 ≤ th ∧ th ≤ 9) {M1 : Mem} (hf : FrS M M1) {n : Nat} (hn : n ≤ 6) (hnn : (gl s (M 1 0).toNat).length = n) (h6 : M1 125 6 = n) (hr : ∀ g, g < n → M1 126 g = ((gl s (M 1 0).toNat).getD g 0 : Nat)) {g i : Nat} (hg : g < n) (hi : i < n) :
    GI l w yX5_keptBy cX5_keptBy 4 .int d [vR 125, vI g, vI i, vI th] M1 (fun x M2 => x = gK M s th g i ∧ Fr2 M1 M2) := by
  have hb := hL.1.1
  have hgm : (gl s (M 1 0).toNat).getD g 0 ∈ gl s (M 1 0).toNat := by
    rw [List.getD_eq_getElem?_getD, List.getElem?_eq_getElem (by omega)]
    exact List.getElem_mem _
  have hgh := gl_lt hgm
  by_cases h0 : i = 0
  · refine MT.of [some (vR 125), some (vI g), some (vI i), some (vI th)] ⟨by decide, rfl⟩ rfl (Nat.le_of_ble_eq_true rfl) (fun hA hM => ?_)
    refine e_iload2 dX5_keptBy_0 ?_
    refine e_if_ne (tgt := 8) dX5_keptBy_1 (by decide) (fun h => absurd h (by omega)) (fun h1 => ?_)
    refine e_iconst dX5_keptBy_4 rfl kc_1 ?_
    refine e_goto (tgt := 31) dX5_keptBy_5 (by decide) ?_
    refine e_iret dX5_keptBy_31 ?_
    exact ⟨_, rfl, by unfold gK; rw [if_pos h0], Fr2.rf _⟩
  · have hb3 := (tellN_b M 3 (((gl s (M 1 0).toNat).getD g 0 : Nat) : Int) th n i)
    have hb4 := hb3.2.2 rfl
    refine MT.of [some (vR 125), some (vI g), some (vI i), some (vI th)] ⟨by decide, rfl⟩ rfl (Nat.le_of_ble_eq_true rfl) (fun hA hM => ?_)
    refine e_iload2 dX5_keptBy_0 ?_
    refine e_if_ne (tgt := 8) dX5_keptBy_1 (by decide) (fun h1 => ?_) (fun h => absurd h (by omega))
    refine e_bipush dX5_keptBy_8 rfl kb_10 ?_
    refine e_aload0 dX5_keptBy_10 ?_
    refine e_getR fl_X5_32 la_125 rfl dX5_keptBy_11 ?_
    refine e_iconst dX5_keptBy_14 rfl kc_3 ?_
    refine e_aload0 dX5_keptBy_15 ?_
    refine e_getR fl_X5_9 la_125 rfl dX5_keptBy_16 ?_
    refine e_iload1 dX5_keptBy_19 ?_
    refine e_iald la_126 (⟨by omega, by omega⟩) dX5_keptBy_20 ?_
    refine WW.ec (y := (((gl s (M 1 0).toNat).getD g 0 : Nat) : Int)) (by rw [Int.toNat_natCast]; exact hr g hg) ?_
    refine e_iload3 dX5_keptBy_21 ?_
    refine e_aload0 dX5_keptBy_22 ?_
    refine e_getI fl_X5_24 la_125 rfl dX5_keptBy_23 ?_
    refine WW.ec (y := (n : Int)) (h6) ?_
    refine e_iload2 dX5_keptBy_26 ?_
    refine e_cVGI (ct_X1_tellNew (d := d - 1) (by omega) (hL.frs hf) (by omega) (by rw [isH_frs hf]; exact ⟨by omega, by omega⟩) (by unfold bnd; omega) (by unfold bnd; omega) (by unfold bnd; omega)) cy_X1_tellNew cv_X1_tellNew ml_X5_55 la_119 rfl rfl rfl (rok (by omega) (by decide)) (Nat.le_of_ble_eq_true rfl) dX5_keptBy_27 (fun x M3 hq => ?_)
    rw [tellN_frs hf hL.2.2.2.1] at hq
    rw [hq.1]
    refine e_isub dX5_keptBy_30 (⟨by omega, by omega⟩) ?_
    refine e_iret dX5_keptBy_31 ?_
    exact ⟨_, rfl, by unfold gK; rw [if_neg h0, hnn], hq.2⟩
def seatV (M : Mem) (s : Nat) (th : Int) (k : Nat) : Int := (((gl s (M 1 0).toNat).getD ((chs (gK M s th) (gl s (M 1 0).toNat).length (bst (gK M s th) (gl s (M 1 0).toNat).length (gl s (M 1 0).toNat).length (2 ^ (gl s (M 1 0).toNat).length - 1)) (gl s (M 1 0).toNat).length (2 ^ (gl s (M 1 0).toNat).length - 1) 1).getD k 0) 0 : Nat) : Int)
theorem ct_X5_seat (hd : 6 ≤ d) (hL : LW M) {s : Nat} (hs : s < 256) {th : Int} (hth : 0 ≤ th ∧ th ≤ 9) (h6 : (gl s (M 1 0).toNat).length ≤ 6) (h1 : 1 ≤ (gl s (M 1 0).toNat).length) :
    GV l w yX5_seat cX5_seat 5 d [vR 125, vI s, vI th] M (fun M1 => FrS M M1 ∧ M1 125 6 = (gl s (M 1 0).toNat).length ∧ ∀ k, k < (gl s (M 1 0).toNat).length → M1 127 k = seatV M s th k) := by
  unfold seatV
  generalize hnn : (gl s (M 1 0).toNat).length = n at h6 h1
  have hK := gK_ok M s th
  have row : ∀ (g : Nat) (Q : Option MV → Mem → Prop), g < n → (∀ M2 : Mem, FrS M M2 → M2 125 6 = n → (∀ a, a < n → M2 126 a = ((gl s (M 1 0).toNat).getD a 0 : Nat)) → (∀ a i, a < g + 1 → i < n → M2 128 (a * 6 + i) = gK M s th a i) → WM l w RX5 cX5_seat 5 none d Q 53 [some (vR 125), some (vI s), some (vI th), some (vI g), some (vI n)] [] M2) →
      ∀ (q i : Nat) (M1 : Mem), i + q = n → FrS M M1 → M1 125 6 = n → (∀ a, a < n → M1 126 a = ((gl s (M 1 0).toNat).getD a 0 : Nat)) → (∀ a b, a < g ∨ (a = g ∧ b < i) → b < n → M1 128 (a * 6 + b) = gK M s th a b) → WM l w RX5 cX5_seat 5 none d Q 18 [some (vR 125), some (vI s), some (vI th), some (vI g), some (vI i)] [] M1 := by
    intro g Q hg k q
    induction q with
    | zero =>
      intro i M1 hi hf hc hr hk
      have hin : i = n := by omega
      refine e_iload4 dX5_seat_18 ?_
      refine e_aload0 dX5_seat_20 ?_
      refine e_getI fl_X5_24 la_125 rfl dX5_seat_21 ?_
      refine WW.ec (y := (n : Int)) (hc) ?_
      refine e_icmp_ge (tgt := 53) dX5_seat_24 (by decide) (fun h24 => ?_) (fun h => absurd h (by omega))
      refine WW.cv (by rw [hin]) rfl rfl (k M1 hf hc hr (fun a b ha hb => hk a b (by omega) hb))
    | succ q ih =>
      intro i M1 hi hf hc hr hk
      refine e_iload4 dX5_seat_18 ?_
      refine e_aload0 dX5_seat_20 ?_
      refine e_getI fl_X5_24 la_125 rfl dX5_seat_21 ?_
      refine WW.ec (y := (n : Int)) (hc) ?_
      refine e_icmp_ge (tgt := 53) dX5_seat_24 (by decide) (fun h => absurd h (by omega)) (fun h24 => ?_)
      refine e_aload0 dX5_seat_27 ?_
      refine e_getR fl_X5_18 la_125 rfl dX5_seat_28 ?_
      refine e_iload3 dX5_seat_31 ?_
      refine e_bipush dX5_seat_32 rfl kb_6 ?_
      refine e_imul dX5_seat_34 (⟨by omega, by omega⟩) ?_
      refine e_iload4 dX5_seat_35 ?_
      refine e_iadd dX5_seat_37 (⟨by omega, by omega⟩) ?_
      refine e_aload0 dX5_seat_38 ?_
      refine e_iload3 dX5_seat_39 ?_
      refine e_iload4 dX5_seat_40 ?_
      refine e_iload2 dX5_seat_42 ?_
      refine e_cVGI (ct_X5_keptBy (d := d - 1) (by omega) hL hth hf h6 hnn hc hr hg (by omega)) cy_X5_keptBy cv_X5_keptBy ml_X5_40 la_125 rfl rfl rfl (rok (by omega) (by decide)) (Nat.le_of_ble_eq_true rfl) dX5_seat_43 (fun x M2 hq => ?_)
      refine e_iast la_128 (⟨by omega, by omega⟩) dX5_seat_46 ?_
      refine e_iinc4 dX5_seat_47 rfl (⟨by omega, by omega⟩) rfl ?_
      refine e_goto (tgt := 18) dX5_seat_50 (by decide) ?_
      refine ih (i + 1) _ (by omega) ((hf.tr hq.2.frs).up (by omega)) (by rw [up_row (by decide), hq.2 125 (by decide) (by decide)]; exact hc) (by rw [up_row (by decide), hq.2 126 (by decide) (by decide)]; exact hr) (fun a b ha hb => ?_)
      rw [show ((g : Int) * 6 + (i : Int)).toNat = g * 6 + i by omega]
      by_cases e : a = g ∧ b = i
      · rw [e.1, e.2, up_s, hq.1]
      · rw [up_k (by omega), hq.2 128 (by decide) (by decide)]
        exact hk a b (by omega) hb
  have loop : ∀ (q g : Nat) (M1 : Mem) (x4 : Option MV), g + q = n → FrS M M1 → M1 125 6 = n → (∀ a, a < n → M1 126 a = ((gl s (M 1 0).toNat).getD a 0 : Nat)) → (∀ a b, a < g → b < n → M1 128 (a * 6 + b) = gK M s th a b) → WM l w RX5 cX5_seat 5 none d (fun r M1 => r = none ∧ FrS M M1 ∧ M1 125 6 = n ∧ ∀ k, k < n → M1 127 k = (((gl s (M 1 0).toNat).getD ((chs (gK M s th) n (bst (gK M s th) n n (2 ^ n - 1)) n (2 ^ n - 1) 1).getD k 0) 0 : Nat) : Int)) 7 [some (vR 125), some (vI s), some (vI th), some (vI g), x4] [] M1 := by
    intro q
    induction q with
    | zero =>
      intro g M1 x4 hg hf hc hr hk
      obtain rfl : g = n := by omega
      have hS : SP g (fun a => (((gl s (M 1 0).toNat).getD a 0 : Nat) : Int)) (gK M s th) M1 := ⟨hc, hr, fun a b ha hb => hk a b ha hb⟩
      refine e_iload3 dX5_seat_7 ?_
      refine e_aload0 dX5_seat_8 ?_
      refine e_getI fl_X5_24 la_125 rfl dX5_seat_9 ?_
      refine WW.ec (y := (g : Int)) (hc) ?_
      refine e_icmp_ge (tgt := 59) dX5_seat_12 (by decide) (fun h12 => ?_) (fun h => absurd h (by omega))
      refine e_aload0 dX5_seat_59 ?_
      refine e_cVGV (ct_X5_weigh (d := d - 1) (by omega) hS hK h6) cy_X5_weigh cv_X5_weigh ml_X5_44 la_125 rfl rfl rfl (rok (by omega) (by decide)) (Nat.le_of_ble_eq_true rfl) dX5_seat_60 (fun M2 hq => ?_)
      refine e_aload0 dX5_seat_63 ?_
      refine e_cVGV (ct_X5_choose (d := d - 1) (by omega) hq.2.1 hK h6 h1 hq.2.2) cy_X5_choose cv_X5_choose ml_X5_47 la_125 rfl rfl rfl (rok (by omega) (by decide)) (Nat.le_of_ble_eq_true rfl) dX5_seat_64 (fun M3 hq3 => ?_)
      refine e_vret dX5_seat_67 ?_
      exact ⟨rfl, (hf.tr hq.1).tr hq3.1, hq3.2.1, hq3.2.2⟩
    | succ q ih =>
      intro g M1 x4 hg hf hc hr hk
      refine e_iload3 dX5_seat_7 ?_
      refine e_aload0 dX5_seat_8 ?_
      refine e_getI fl_X5_24 la_125 rfl dX5_seat_9 ?_
      refine WW.ec (y := (n : Int)) (hc) ?_
      refine e_icmp_ge (tgt := 59) dX5_seat_12 (by decide) (fun h => absurd h (by omega)) (fun h12 => ?_)
      refine e_iconst dX5_seat_15 rfl kc_0 ?_
      refine e_istore4 dX5_seat_16 rfl ?_
      refine row g _ (by omega) (fun M2 f2 c2 r2 k2 => ?_) n 0 M1 (by omega) hf hc hr (fun a b ha hb => hk a b (by omega) hb)
      refine e_iinc3 dX5_seat_53 rfl (⟨by omega, by omega⟩) rfl ?_
      refine e_goto (tgt := 7) dX5_seat_56 (by decide) ?_
      exact ih (g + 1) M2 _ (by omega) f2 c2 r2 k2
  refine MT.of [some (vR 125), some (vI s), some (vI th), none, none] ⟨by decide, rfl⟩ rfl (Nat.le_of_ble_eq_true rfl) (fun hA hM => ?_)
  refine e_aload0 dX5_seat_0 ?_
  refine e_iload1 dX5_seat_1 ?_
  refine e_cVGV (ct_X5_invite (d := d - 1) (by omega) hL.1 hs (by rw [hnn]; exact h6)) cy_X5_invite cv_X5_invite ml_X5_36 la_125 rfl rfl rfl (rok (by omega) (by decide)) (Nat.le_of_ble_eq_true rfl) dX5_seat_2 (fun M1 hq => ?_)
  rw [hnn] at hq
  refine e_iconst dX5_seat_5 rfl kc_0 ?_
  refine e_istore3 dX5_seat_6 rfl ?_
  exact loop n 0 M1 none (by omega) hq.1 hq.2.1 hq.2.2 (fun a b ha => absurd ha (by omega))
theorem ct_X5_guestAt (hd : 1 ≤ d) {i : Int} (hi : 0 ≤ i ∧ i < M 125 6) (h6 : M 125 6 ≤ 6) : PI l w yX5_guestAt cX5_guestAt 2 d [vR 125, vI i] M (M 127 i.toNat) M := by
  refine MT.of [some (vR 125), some (vI i)] ⟨by decide, rfl⟩ rfl (Nat.le_of_ble_eq_true rfl) (fun hA hM => ?_)
  refine e_iload1 dX5_guestAt_0 ?_
  refine e_if_lt (tgt := 21) dX5_guestAt_1 (by decide) (fun h => absurd h (by omega)) (fun h1 => ?_)
  refine e_iload1 dX5_guestAt_4 ?_
  refine e_aload0 dX5_guestAt_5 ?_
  refine e_getI fl_X5_24 la_125 rfl dX5_guestAt_6 ?_
  refine e_icmp_ge (tgt := 21) dX5_guestAt_9 (by decide) (fun h => absurd h (by omega)) (fun h9 => ?_)
  refine e_aload0 dX5_guestAt_12 ?_
  refine e_getR fl_X5_15 la_125 rfl dX5_guestAt_13 ?_
  refine e_iload1 dX5_guestAt_16 ?_
  refine e_iald la_127 (⟨by omega, by omega⟩) dX5_guestAt_17 ?_
  refine e_goto (tgt := 22) dX5_guestAt_18 (by decide) ?_
  refine e_iret dX5_guestAt_22 ?_
  exact ⟨rfl, rfl⟩
end SUP3
