theorem WW.fg5 {l : Launch} {w : Wd} {own : String} {cc : ByteArray} {nL : Nat} {R : Room} {cs sl : Nat} {A : State → Nat → Prop} {Qf : List Frame → Array Value → State → State → Prop} {Ex : State → Array Value → Method → Prop} {pc : Nat} {st : List MV} {M : Mem} {a0 a1 a2 a3 a4 b : Option MV} (k : WW l w own cc nL R cs sl A Qf Ex pc [a0, a1, a2, a3, a4, none] st M) : WW l w own cc nL R cs sl A Qf Ex pc [a0, a1, a2, a3, a4, b] st M :=
  WW.less (by simp) (fun i v h => by rcases i with _ | _ | _ | _ | _ | _ | i <;> first | exact h | cases h) k
section ASK3
variable {l : Launch} {w : Wd} {d : Nat} {M : Mem} {Q : Option MV → Mem → Prop}
theorem gl_pop : ∀ H : Nat, H ≤ 8 → ∀ s : Nat, s < 256 → s < 2 ^ H → (gl s H).length = popc s := by decide +kernel
theorem pow8 {H : Nat} (h : H ≤ 8) : (2 : Nat) ^ H ≤ 256 := by
  rcases (show H = 0 ∨ H = 1 ∨ H = 2 ∨ H = 3 ∨ H = 4 ∨ H = 5 ∨ H = 6 ∨ H = 7 ∨ H = 8 by omega) with rfl | rfl | rfl | rfl | rfl | rfl | rfl | rfl | rfl <;> decide
theorem ct_X8_supper (hd : 7 ≤ d) (hL : LW M) {s th i : Int} : GI l w yX8_supper cX8_supper 5 .int d [vR 0, vI s, vI th, vI i] M (fun x M1 => supperR M s th i x ∧ FrS M M1) := by
  have hI := hL.1
  have hb := hI.1
  have hp8 := pow8 (H := (M 1 0).toNat) (by omega)
  have hcast : (2 : Int) ^ (M 1 0).toNat = ((2 ^ (M 1 0).toNat : Nat) : Int) := by simp
  by_cases hset : 0 ≤ s ∧ s < 2 ^ (M 1 0).toNat
  · obtain ⟨s, rfl⟩ : ∃ n : Nat, s = n := ⟨s.toNat, by omega⟩
    have hs1 : s < 2 ^ (M 1 0).toNat := by omega
    have hpop := gl_pop (M 1 0).toNat (by omega) s (by omega) hs1
    by_cases hok : 1 ≤ popc s ∧ popc s ≤ 6 ∧ 1 ≤ th ∧ th ≤ 9 ∧ 0 ≤ i ∧ i < popc s
    · refine MT.of [some (vR 0), some (vI s), some (vI th), some (vI i), none] ⟨by decide, rfl⟩ rfl (Nat.le_of_ble_eq_true rfl) (fun hA hM => ?_)
      refine e_aload0 dX8_supper_0 ?_
      refine e_getR fl_X8_12 la_0 rfl dX8_supper_1 ?_
      refine e_iload1 dX8_supper_4 ?_
      refine e_cVZ (ct_X0_isSet (d := d - 1) (by omega) hI) cy_X0_isSet cv_X0_isSet ml_X8_262 la_1 rfl rfl rfl (rok (by omega) (by decide)) (Nat.le_of_ble_eq_true rfl) dX8_supper_5 (fun g5 => ?_) (fun g5 => ?_)
      · refine e_if_eq (tgt := 18) dX8_supper_8 (by decide) (fun h => absurd h (by decide)) (fun _ => ?_)
        refine e_iload1 dX8_supper_11 ?_
        refine e_cSI (ct_J6_bitCount_0f7a4 (d := d - 1) (by omega) (by omega)) cy_J6_bitCount_0f7a4 cs_J6_bitCount_0f7a4 ml_X8_265 rfl rfl (rok (by omega) (by decide)) (Nat.le_of_ble_eq_true rfl) dX8_supper_12 ?_
        refine e_goto (tgt := 19) dX8_supper_15 (by decide) ?_
        refine e_istore4 dX8_supper_19 rfl ?_
        refine e_iload4 dX8_supper_21 ?_
        refine e_iconst dX8_supper_23 rfl kc_1 ?_
        refine e_icmp_lt (tgt := 55) dX8_supper_24 (by decide) (fun h => absurd h (by omega)) (fun h24 => ?_)
        refine e_iload4 dX8_supper_27 ?_
        refine e_bipush dX8_supper_29 rfl kb_6 ?_
        refine e_icmp_gt (tgt := 55) dX8_supper_31 (by decide) (fun h => absurd h (by omega)) (fun h31 => ?_)
        refine e_iload2 dX8_supper_34 ?_
        refine e_iconst dX8_supper_35 rfl kc_1 ?_
        refine e_icmp_lt (tgt := 55) dX8_supper_36 (by decide) (fun h => absurd h (by omega)) (fun h36 => ?_)
        refine e_iload2 dX8_supper_39 ?_
        refine e_bipush dX8_supper_40 rfl kb_9 ?_
        refine e_icmp_gt (tgt := 55) dX8_supper_42 (by decide) (fun h => absurd h (by omega)) (fun h42 => ?_)
        refine e_iload3 dX8_supper_45 ?_
        refine e_if_lt (tgt := 55) dX8_supper_46 (by decide) (fun h => absurd h (by omega)) (fun h46 => ?_)
        refine e_iload3 dX8_supper_49 ?_
        refine e_iload4 dX8_supper_50 ?_
        refine e_icmp_lt (tgt := 57) dX8_supper_52 (by decide) (fun h52 => ?_) (fun h => absurd h (by omega))
        refine e_aload0 dX8_supper_57 ?_
        refine e_getR fl_X8_63 la_0 rfl dX8_supper_58 ?_
        refine e_iload1 dX8_supper_61 ?_
        refine e_iload2 dX8_supper_62 ?_
        refine e_cVGV (ct_X5_seat (d := d - 1) (by omega) hL (by omega) ⟨by omega, by omega⟩ (by omega) (by omega)) cy_X5_seat cv_X5_seat ml_X8_270 la_125 rfl rfl rfl (rok (by omega) (by decide)) (Nat.le_of_ble_eq_true rfl) dX8_supper_63 (fun M1 hq => ?_)
        refine e_aload0 dX8_supper_66 ?_
        refine e_getR fl_X8_63 la_0 rfl dX8_supper_67 ?_
        refine e_iload3 dX8_supper_70 ?_
        refine e_cVI (ct_X5_guestAt (d := d - 1) (by omega) (by rw [hq.2.1]; omega) (by rw [hq.2.1]; omega)) cy_X5_guestAt cv_X5_guestAt ml_X8_274 la_125 rfl rfl rfl (rok (by omega) (by decide)) (Nat.le_of_ble_eq_true rfl) dX8_supper_71 ?_
        refine e_iret dX8_supper_74 ?_
        refine ⟨_, rfl, Or.inl ⟨hset.1, hset.2, ?_⟩, hq.1⟩
        rw [Int.toNat_natCast]
        exact ⟨hok.1, hok.2.1, hok.2.2.1, hok.2.2.2.1, hok.2.2.2.2.1, hok.2.2.2.2.2, hq.2.2 i.toNat (by omega)⟩
      · refine e_if_eq (tgt := 18) dX8_supper_8 (by decide) (fun _ => ?_) (fun h => absurd h (by decide))
        refine e_iconst dX8_supper_18 rfl kc_0 ?_
        refine e_istore4 dX8_supper_19 rfl ?_
        refine e_iload4 dX8_supper_21 ?_
        refine e_iconst dX8_supper_23 rfl kc_1 ?_
        refine e_icmp_lt (tgt := 55) dX8_supper_24 (by decide) (fun _ => ?_) (fun h => absurd h (by decide))
        refine e_iconst dX8_supper_55 rfl kc_m1 ?_
        refine e_iret dX8_supper_56 ?_
        exact absurd hset g5
    · refine MT.of [some (vR 0), some (vI s), some (vI th), some (vI i), none] ⟨by decide, rfl⟩ rfl (Nat.le_of_ble_eq_true rfl) (fun hA hM => ?_)
      refine e_aload0 dX8_supper_0 ?_
      refine e_getR fl_X8_12 la_0 rfl dX8_supper_1 ?_
      refine e_iload1 dX8_supper_4 ?_
      refine e_cVZ (ct_X0_isSet (d := d - 1) (by omega) hI) cy_X0_isSet cv_X0_isSet ml_X8_262 la_1 rfl rfl rfl (rok (by omega) (by decide)) (Nat.le_of_ble_eq_true rfl) dX8_supper_5 (fun g5 => ?_) (fun g5 => ?_)
      · refine e_if_eq (tgt := 18) dX8_supper_8 (by decide) (fun h => absurd h (by decide)) (fun _ => ?_)
        refine e_iload1 dX8_supper_11 ?_
        refine e_cSI (ct_J6_bitCount_0f7a4 (d := d - 1) (by omega) (by omega)) cy_J6_bitCount_0f7a4 cs_J6_bitCount_0f7a4 ml_X8_265 rfl rfl (rok (by omega) (by decide)) (Nat.le_of_ble_eq_true rfl) dX8_supper_12 ?_
        refine e_goto (tgt := 19) dX8_supper_15 (by decide) ?_
        refine e_istore4 dX8_supper_19 rfl ?_
        refine e_iload4 dX8_supper_21 ?_
        refine e_iconst dX8_supper_23 rfl kc_1 ?_
        refine e_icmp_lt (tgt := 55) dX8_supper_24 (by decide) (fun h24 => ?_) (fun h24 => ?_)
        · refine e_iconst dX8_supper_55 rfl kc_m1 ?_
          refine e_iret dX8_supper_56 ?_
          exact ⟨_, rfl, Or.inr ⟨fun z => hok (by rw [Int.toNat_natCast] at z; exact z.2.2), rfl⟩, FrS.rf M⟩
        · refine e_iload4 dX8_supper_27 ?_
          refine e_bipush dX8_supper_29 rfl kb_6 ?_
          refine e_icmp_gt (tgt := 55) dX8_supper_31 (by decide) (fun h31 => ?_) (fun h31 => ?_)
          · refine e_iconst dX8_supper_55 rfl kc_m1 ?_
            refine e_iret dX8_supper_56 ?_
            exact ⟨_, rfl, Or.inr ⟨fun z => hok (by rw [Int.toNat_natCast] at z; exact z.2.2), rfl⟩, FrS.rf M⟩
          · refine e_iload2 dX8_supper_34 ?_
            refine e_iconst dX8_supper_35 rfl kc_1 ?_
            refine e_icmp_lt (tgt := 55) dX8_supper_36 (by decide) (fun h36 => ?_) (fun h36 => ?_)
            · refine e_iconst dX8_supper_55 rfl kc_m1 ?_
              refine e_iret dX8_supper_56 ?_
              exact ⟨_, rfl, Or.inr ⟨fun z => hok (by rw [Int.toNat_natCast] at z; exact z.2.2), rfl⟩, FrS.rf M⟩
            · refine e_iload2 dX8_supper_39 ?_
              refine e_bipush dX8_supper_40 rfl kb_9 ?_
              refine e_icmp_gt (tgt := 55) dX8_supper_42 (by decide) (fun h42 => ?_) (fun h42 => ?_)
              · refine e_iconst dX8_supper_55 rfl kc_m1 ?_
                refine e_iret dX8_supper_56 ?_
                exact ⟨_, rfl, Or.inr ⟨fun z => hok (by rw [Int.toNat_natCast] at z; exact z.2.2), rfl⟩, FrS.rf M⟩
              · refine e_iload3 dX8_supper_45 ?_
                refine e_if_lt (tgt := 55) dX8_supper_46 (by decide) (fun h46 => ?_) (fun h46 => ?_)
                · refine e_iconst dX8_supper_55 rfl kc_m1 ?_
                  refine e_iret dX8_supper_56 ?_
                  exact ⟨_, rfl, Or.inr ⟨fun z => hok (by rw [Int.toNat_natCast] at z; exact z.2.2), rfl⟩, FrS.rf M⟩
                · refine e_iload3 dX8_supper_49 ?_
                  refine e_iload4 dX8_supper_50 ?_
                  refine e_icmp_lt (tgt := 57) dX8_supper_52 (by decide) (fun h52 => ?_) (fun h52 => ?_)
                  · first | exact absurd hset g5 | exact absurd ⟨by omega, by omega, by omega, by omega, by omega, by omega⟩ hok
                  · refine e_iconst dX8_supper_55 rfl kc_m1 ?_
                    refine e_iret dX8_supper_56 ?_
                    exact ⟨_, rfl, Or.inr ⟨fun z => hok (by rw [Int.toNat_natCast] at z; exact z.2.2), rfl⟩, FrS.rf M⟩
      · refine e_if_eq (tgt := 18) dX8_supper_8 (by decide) (fun _ => ?_) (fun h => absurd h (by decide))
        refine e_iconst dX8_supper_18 rfl kc_0 ?_
        refine e_istore4 dX8_supper_19 rfl ?_
        refine e_iload4 dX8_supper_21 ?_
        refine e_iconst dX8_supper_23 rfl kc_1 ?_
        refine e_icmp_lt (tgt := 55) dX8_supper_24 (by decide) (fun _ => ?_) (fun h => absurd h (by decide))
        refine e_iconst dX8_supper_55 rfl kc_m1 ?_
        refine e_iret dX8_supper_56 ?_
        exact ⟨_, rfl, Or.inr ⟨fun z => hok (by rw [Int.toNat_natCast] at z; exact z.2.2), rfl⟩, FrS.rf M⟩
  · refine MT.of [some (vR 0), some (vI s), some (vI th), some (vI i), none] ⟨by decide, rfl⟩ rfl (Nat.le_of_ble_eq_true rfl) (fun hA hM => ?_)
    refine e_aload0 dX8_supper_0 ?_
    refine e_getR fl_X8_12 la_0 rfl dX8_supper_1 ?_
    refine e_iload1 dX8_supper_4 ?_
    refine e_cVZ (ct_X0_isSet (d := d - 1) (by omega) hI) cy_X0_isSet cv_X0_isSet ml_X8_262 la_1 rfl rfl rfl (rok (by omega) (by decide)) (Nat.le_of_ble_eq_true rfl) dX8_supper_5 (fun g5 => ?_) (fun g5 => ?_)
    · refine e_if_eq (tgt := 18) dX8_supper_8 (by decide) (fun h => absurd h (by decide)) (fun _ => ?_)
      exact absurd g5 hset
    · refine e_if_eq (tgt := 18) dX8_supper_8 (by decide) (fun _ => ?_) (fun h => absurd h (by decide))
      refine e_iconst dX8_supper_18 rfl kc_0 ?_
      refine e_istore4 dX8_supper_19 rfl ?_
      refine e_iload4 dX8_supper_21 ?_
      refine e_iconst dX8_supper_23 rfl kc_1 ?_
      refine e_icmp_lt (tgt := 55) dX8_supper_24 (by decide) (fun _ => ?_) (fun h => absurd h (by decide))
      refine e_iconst dX8_supper_55 rfl kc_m1 ?_
      refine e_iret dX8_supper_56 ?_
      exact ⟨_, rfl, Or.inr ⟨fun z => hset ⟨z.1, z.2.1⟩, rfl⟩, FrS.rf M⟩
theorem ct_X8_married (hd : 13 ≤ d) (hL : LW M) (hO : OWN M) {c : Int} : GI l w yX8_married cX8_married 2 .int d [vR 0, vI c] M (fun x M1 => marriedR M c x ∧ FrS M M1) := by
  have hI := hL.1
  have hb := hI.2.1
  have rest : (c = -1 ∨ isC M c) → ∀ (x : Int) (M1 : Mem), ((x = 0 ∧ (M 1 5 < 1 ∨ M 1 5 % 2 ≠ 0 ∨ M 1 0 < 1) ∧ FrS M M1) ∨ (x = 1 ∧ (1 ≤ M 1 5 ∧ M 1 5 % 2 = 0 ∧ 1 ≤ M 1 0) ∧ FrS M M1 ∧ ∃ b0 : List Int, bOf M1 (M 1 5).toNat = (mar (mins M) (M 1 5).toNat 7 (List.replicate (M 1 5).toNat (-1)) 0 0).foldl bstep (-1, b0))) → WM l w RX8 cX8_married 2 (some .int) d (fun r M1 => ∃ x, r = some (vI x) ∧ marriedR M c x ∧ FrS M M1) 23 [some (vR 0), some (vI c)] [vI x] M1 := by
    intro hcc x M1 hq
    rcases hq with ⟨rfl, hno, hf⟩ | ⟨rfl, hyes, hf, b0, hbo⟩
    · refine e_if_ne (tgt := 28) dX8_married_23 (by decide) (fun h => absurd h (by decide)) (fun _ => ?_)
      refine e_iconst dX8_married_26 rfl kc_m1 ?_
      refine e_iret dX8_married_27 ?_
      exact ⟨_, rfl, Or.inr ⟨fun z => by obtain ⟨_, z1, z2, z3⟩ := z; omega, rfl⟩, hf⟩
    · by_cases hc : c = -1
      · refine e_if_ne (tgt := 28) dX8_married_23 (by decide) (fun _ => ?_) (fun h => absurd h (by decide))
        refine e_iload1 dX8_married_28 ?_
        refine e_iconst dX8_married_29 rfl kc_m1 ?_
        refine e_icmp_ne (tgt := 43) dX8_married_30 (by decide) (fun h => absurd h (fun z => z hc)) (fun h30 => ?_)
        refine e_aload0 dX8_married_33 ?_
        refine e_getR fl_X8_70 la_0 rfl dX8_married_34 ?_
        refine e_getI fl_X8_280 la_130 rfl dX8_married_37 ?_
        refine e_goto (tgt := 51) dX8_married_40 (by decide) ?_
        refine e_iret dX8_married_51 ?_
        refine ⟨_, rfl, Or.inl ⟨hcc, hyes, b0, ?_⟩, hf⟩
        rw [if_pos hc, ← hbo]; rfl
      · have hic := hcc.resolve_left hc
        refine e_if_ne (tgt := 28) dX8_married_23 (by decide) (fun _ => ?_) (fun h => absurd h (by decide))
        refine e_iload1 dX8_married_28 ?_
        refine e_iconst dX8_married_29 rfl kc_m1 ?_
        refine e_icmp_ne (tgt := 43) dX8_married_30 (by decide) (fun h30 => ?_) (fun h => absurd h (fun z => hc z))
        refine e_aload0 dX8_married_43 ?_
        refine e_getR fl_X8_70 la_0 rfl dX8_married_44 ?_
        refine e_iload1 dX8_married_47 ?_
        refine e_cVI (ct_X7_partnerOf (d := d - 1) (by omega) (hI.frs hf) (by rw [isC_frs hf]; exact hic)) cy_X7_partnerOf cv_X7_partnerOf ml_X8_283 la_130 rfl rfl rfl (rok (by omega) (by decide)) (Nat.le_of_ble_eq_true rfl) dX8_married_48 ?_
        refine e_iret dX8_married_51 ?_
        refine ⟨_, rfl, Or.inl ⟨hcc, hyes, b0, ?_⟩, hf⟩
        rw [if_neg hc, ← hbo]
        show M1 133 c.toNat = (seg (M1 133) 0 (M 1 5).toNat).getD c.toNat 0
        rw [seg_get _ _ _ _ (by omega), Nat.zero_add]
  by_cases hc : c = -1
  · refine MT.of [some (vR 0), some (vI c)] ⟨by decide, rfl⟩ rfl (Nat.le_of_ble_eq_true rfl) (fun hA hM => ?_)
    refine e_iload1 dX8_married_0 ?_
    refine e_iconst dX8_married_1 rfl kc_m1 ?_
    refine e_icmp_eq (tgt := 16) dX8_married_2 (by decide) (fun h2 => ?_) (fun h => absurd h (fun z => z hc))
    refine e_aload0 dX8_married_16 ?_
    refine e_getR fl_X8_70 la_0 rfl dX8_married_17 ?_
    refine e_cVGI (ct_X7_arrange (d := d - 1) (by omega) hL hO) cy_X7_arrange cv_X7_arrange ml_X8_277 la_130 rfl rfl rfl (rok (by omega) (by decide)) (Nat.le_of_ble_eq_true rfl) dX8_married_20 (fun x M1 hq => ?_)
    exact rest (Or.inl hc) x M1 hq
  · by_cases hic : isC M c
    · refine MT.of [some (vR 0), some (vI c)] ⟨by decide, rfl⟩ rfl (Nat.le_of_ble_eq_true rfl) (fun hA hM => ?_)
      refine e_iload1 dX8_married_0 ?_
      refine e_iconst dX8_married_1 rfl kc_m1 ?_
      refine e_icmp_eq (tgt := 16) dX8_married_2 (by decide) (fun h => absurd h (fun z => hc z)) (fun h2 => ?_)
      refine e_aload0 dX8_married_5 ?_
      refine e_getR fl_X8_12 la_0 rfl dX8_married_6 ?_
      refine e_iload1 dX8_married_9 ?_
      refine e_cVZ (ct_X0_isCandle (d := d - 1) (by omega)) cy_X0_isCandle cv_X0_isCandle ml_X8_116 la_1 rfl rfl rfl (rok (by omega) (by decide)) (Nat.le_of_ble_eq_true rfl) dX8_married_10 (fun g10 => ?_) (fun g10 => ?_)
      · refine e_if_eq (tgt := 26) dX8_married_13 (by decide) (fun h => absurd h (by decide)) (fun _ => ?_)
        refine e_aload0 dX8_married_16 ?_
        refine e_getR fl_X8_70 la_0 rfl dX8_married_17 ?_
        refine e_cVGI (ct_X7_arrange (d := d - 1) (by omega) hL hO) cy_X7_arrange cv_X7_arrange ml_X8_277 la_130 rfl rfl rfl (rok (by omega) (by decide)) (Nat.le_of_ble_eq_true rfl) dX8_married_20 (fun x M1 hq => ?_)
        exact rest (Or.inr hic) x M1 hq
      · refine e_if_eq (tgt := 26) dX8_married_13 (by decide) (fun _ => ?_) (fun h => absurd h (by decide))
        refine e_iconst dX8_married_26 rfl kc_m1 ?_
        refine e_iret dX8_married_27 ?_
        exact absurd hic g10
    · refine MT.of [some (vR 0), some (vI c)] ⟨by decide, rfl⟩ rfl (Nat.le_of_ble_eq_true rfl) (fun hA hM => ?_)
      refine e_iload1 dX8_married_0 ?_
      refine e_iconst dX8_married_1 rfl kc_m1 ?_
      refine e_icmp_eq (tgt := 16) dX8_married_2 (by decide) (fun h => absurd h (fun z => hc z)) (fun h2 => ?_)
      refine e_aload0 dX8_married_5 ?_
      refine e_getR fl_X8_12 la_0 rfl dX8_married_6 ?_
      refine e_iload1 dX8_married_9 ?_
      refine e_cVZ (ct_X0_isCandle (d := d - 1) (by omega)) cy_X0_isCandle cv_X0_isCandle ml_X8_116 la_1 rfl rfl rfl (rok (by omega) (by decide)) (Nat.le_of_ble_eq_true rfl) dX8_married_10 (fun g10 => ?_) (fun g10 => ?_)
      · refine e_if_eq (tgt := 26) dX8_married_13 (by decide) (fun h => absurd h (by decide)) (fun _ => ?_)
        exact absurd g10 hic
      · refine e_if_eq (tgt := 26) dX8_married_13 (by decide) (fun _ => ?_) (fun h => absurd h (by decide))
        refine e_iconst dX8_married_26 rfl kc_m1 ?_
        refine e_iret dX8_married_27 ?_
        exact ⟨_, rfl, Or.inr ⟨fun z => (z.1.elim hc hic), rfl⟩, FrS.rf M⟩
theorem ct_X8_turnOf (hd : 2 ≤ d) (hI : IB M) {p f : Int} : PI l w yX8_turnOf cX8_turnOf 4 d [vR 0, vI p, vI f] M (turnV M p f) M := by
  refine MT.of [some (vR 0), some (vI p), some (vI f), none] ⟨by decide, rfl⟩ rfl (Nat.le_of_ble_eq_true rfl) (fun hA hM => ?_)
  refine e_aload0 dX8_turnOf_0 ?_
  refine e_getR fl_X8_12 la_0 rfl dX8_turnOf_1 ?_
  refine e_iload1 dX8_turnOf_4 ?_
  refine e_cVI (ct_X0_housesWith (d := d - 1) (by omega) hI) cy_X0_housesWith cv_X0_housesWith ml_X8_295 la_1 rfl rfl rfl (rok (by omega) (by decide)) (Nat.le_of_ble_eq_true rfl) dX8_turnOf_5 ?_
  refine e_istore3 dX8_turnOf_8 rfl ?_
  refine e_iload3 dX8_turnOf_9 ?_
  refine e_iload2 dX8_turnOf_10 ?_
  refine e_icmp_le (tgt := 26) dX8_turnOf_11 (by decide) (fun h11 => ?_) (fun h11 => ?_)
  · refine e_iload3 dX8_turnOf_26 ?_
    refine e_iload2 dX8_turnOf_27 ?_
    refine e_icmp_ge (tgt := 39) dX8_turnOf_28 (by decide) (fun h28 => ?_) (fun h28 => ?_)
    · refine e_iconst dX8_turnOf_39 rfl kc_0 ?_
      refine e_iret dX8_turnOf_40 ?_
      refine ⟨rfl, ?_⟩
      unfold turnV
      rw [if_neg (by omega)]
      by_cases hq : cntH M p (M 1 0).toNat < f ∧ 0 < p
      · rw [if_pos hq] <;> first | rfl | (exfalso; omega)
      · rw [if_neg hq] <;> first | rfl | (exfalso; omega)
    · refine e_iload1 dX8_turnOf_31 ?_
      refine e_if_le (tgt := 39) dX8_turnOf_32 (by decide) (fun h32 => ?_) (fun h32 => ?_)
      · refine e_iconst dX8_turnOf_39 rfl kc_0 ?_
        refine e_iret dX8_turnOf_40 ?_
        refine ⟨rfl, ?_⟩
        unfold turnV
        rw [if_neg (by omega)]
        by_cases hq : cntH M p (M 1 0).toNat < f ∧ 0 < p
        · rw [if_pos hq] <;> first | rfl | (exfalso; omega)
        · rw [if_neg hq] <;> first | rfl | (exfalso; omega)
      · refine e_iconst dX8_turnOf_35 rfl kc_m1 ?_
        refine e_goto (tgt := 40) dX8_turnOf_36 (by decide) ?_
        refine e_iret dX8_turnOf_40 ?_
        refine ⟨rfl, ?_⟩
        unfold turnV
        rw [if_neg (by omega)]
        by_cases hq : cntH M p (M 1 0).toNat < f ∧ 0 < p
        · rw [if_pos hq] <;> first | rfl | (exfalso; omega)
        · rw [if_neg hq] <;> first | rfl | (exfalso; omega)
  · refine e_iload1 dX8_turnOf_14 ?_
    refine e_bipush dX8_turnOf_15 rfl kb_99 ?_
    refine e_icmp_ge (tgt := 24) dX8_turnOf_17 (by decide) (fun h17 => ?_) (fun h17 => ?_)
    · refine e_iconst dX8_turnOf_24 rfl kc_0 ?_
      refine e_iret dX8_turnOf_25 ?_
      refine ⟨rfl, ?_⟩
      unfold turnV
      rw [if_pos (by omega)]
      by_cases hq : p < 99
      · rw [if_pos hq] <;> first | rfl | (exfalso; omega)
      · rw [if_neg hq] <;> first | rfl | (exfalso; omega)
    · refine e_iconst dX8_turnOf_20 rfl kc_1 ?_
      refine e_goto (tgt := 25) dX8_turnOf_21 (by decide) ?_
      refine e_iret dX8_turnOf_25 ?_
      refine ⟨rfl, ?_⟩
      unfold turnV
      rw [if_pos (by omega)]
      by_cases hq : p < 99
      · rw [if_pos hq] <;> first | rfl | (exfalso; omega)
      · rw [if_neg hq] <;> first | rfl | (exfalso; omega)
theorem ct_X8_settles (hd : 5 ≤ d) (hI : IB M) {c p k : Int} : PI l w yX8_settles cX8_settles 9 d [vR 0, vI c, vI p, vI k] M (settlesV M c p k) M := by
  have loop : ∀ (f : Int), 0 ≤ k ∧ k ≤ 1 → ∀ (n : Nat) (q lst : Int) (r : Nat) (x8 : Option MV), r + n = 100 → 0 ≤ q ∧ q ≤ 99 → -1 ≤ lst ∧ lst ≤ 1 → WM l w RX8 cX8_settles 9 (some .int) d (fun z M' => M' = M ∧ z = some (vI (setl M f k n q lst r))) 51 [some (vR 0), some (vI c), some (vI p), some (vI k), some (vI f), some (vI q), some (vI lst), some (vI r), x8] [] M := by
    intro f hk n
    induction n with
    | zero =>
      intro q lst r x8 hr hq hl
      refine e_iload7 dX8_settles_51 ?_
      refine e_bipush dX8_settles_53 rfl kb_99 ?_
      refine e_icmp_gt (tgt := 117) dX8_settles_55 (by decide) (fun h55 => ?_) (fun h => absurd h (by omega))
      refine e_bipush dX8_settles_117 rfl kb_m2 ?_
      refine e_iret dX8_settles_119 ?_
      exact ⟨rfl, rfl⟩
    | succ n ih =>
      intro q lst r x8 hr hq hl
      have ht := turnV_c M q f
      have hs : setl M f k (n + 1) q lst r = if turnV M q f = 0 then (if k = 0 then (r : Int) else q) else if lst ≠ 0 ∧ turnV M q f ≠ lst then -2 else setl M f k n (q + turnV M q f) (turnV M q f) ((r : Int) + 1) := rfl
      refine e_iload7 dX8_settles_51 ?_
      refine e_bipush dX8_settles_53 rfl kb_99 ?_
      refine e_icmp_gt (tgt := 117) dX8_settles_55 (by decide) (fun h => absurd h (by omega)) (fun h55 => ?_)
      refine e_aload0 dX8_settles_58 ?_
      refine e_iload5 dX8_settles_59 ?_
      refine e_iload4 dX8_settles_61 ?_
      refine e_cVI (ct_X8_turnOf (d := d - 1) (by omega) hI) cy_X8_turnOf cv_X8_turnOf ml_X8_292 la_0 rfl rfl rfl (rok (by omega) (by decide)) (Nat.le_of_ble_eq_true rfl) dX8_settles_63 ?_
      refine e_istore8 dX8_settles_66 rfl ?_
      refine e_iload8 dX8_settles_68 ?_
      refine e_if_ne (tgt := 85) dX8_settles_70 (by decide) (fun h70 => ?_) (fun h70 => ?_)
      · refine e_iload6 dX8_settles_85 ?_
        refine e_if_eq (tgt := 100) dX8_settles_87 (by decide) (fun h87 => ?_) (fun h87 => ?_)
        · refine e_iload5 dX8_settles_100 ?_
          refine e_iload8 dX8_settles_102 ?_
          refine e_iadd dX8_settles_104 (⟨by omega, by omega⟩) ?_
          refine e_istore5 dX8_settles_105 rfl ?_
          refine e_iload8 dX8_settles_107 ?_
          refine e_istore6 dX8_settles_109 rfl ?_
          refine e_iinc7 dX8_settles_111 rfl (⟨by omega, by omega⟩) rfl ?_
          refine e_goto (tgt := 51) dX8_settles_114 (by decide) ?_
          rw [hs, if_neg (by omega), if_neg (by omega)]
          exact ih (q + turnV M q f) (turnV M q f) (r + 1) _ (by omega) (by omega) (by omega)
        · refine e_iload8 dX8_settles_90 ?_
          refine e_iload6 dX8_settles_92 ?_
          refine e_icmp_eq (tgt := 100) dX8_settles_94 (by decide) (fun h94 => ?_) (fun h94 => ?_)
          · refine e_iload5 dX8_settles_100 ?_
            refine e_iload8 dX8_settles_102 ?_
            refine e_iadd dX8_settles_104 (⟨by omega, by omega⟩) ?_
            refine e_istore5 dX8_settles_105 rfl ?_
            refine e_iload8 dX8_settles_107 ?_
            refine e_istore6 dX8_settles_109 rfl ?_
            refine e_iinc7 dX8_settles_111 rfl (⟨by omega, by omega⟩) rfl ?_
            refine e_goto (tgt := 51) dX8_settles_114 (by decide) ?_
            rw [hs, if_neg (by omega), if_neg (by omega)]
            exact ih (q + turnV M q f) (turnV M q f) (r + 1) _ (by omega) (by omega) (by omega)
          · refine e_bipush dX8_settles_97 rfl kb_m2 ?_
            refine e_iret dX8_settles_99 ?_
            exact ⟨rfl, by rw [hs, if_neg (by omega), if_pos (by omega)]⟩
      · refine e_iload3 dX8_settles_73 ?_
        refine e_if_ne (tgt := 82) dX8_settles_74 (by decide) (fun h74 => ?_) (fun h74 => ?_)
        · refine e_iload5 dX8_settles_82 ?_
          refine e_iret dX8_settles_84 ?_
          refine ⟨rfl, ?_⟩
          rw [hs, if_pos (by omega)]
          by_cases hk0 : k = 0
          · rw [if_pos hk0] <;> first | rfl | (exfalso; omega)
          · rw [if_neg hk0] <;> first | rfl | (exfalso; omega)
        · refine e_iload7 dX8_settles_77 ?_
          refine e_goto (tgt := 84) dX8_settles_79 (by decide) ?_
          refine e_iret dX8_settles_84 ?_
          refine ⟨rfl, ?_⟩
          rw [hs, if_pos (by omega)]
          by_cases hk0 : k = 0
          · rw [if_pos hk0] <;> first | rfl | (exfalso; omega)
          · rw [if_neg hk0] <;> first | rfl | (exfalso; omega)
  by_cases hq : isC M c ∧ 0 ≤ p ∧ p ≤ 99 ∧ 0 ≤ k ∧ k ≤ 1
  · have hv : settlesV M c p k = setl M (cntF M c 12) k 100 p 0 0 := by unfold settlesV; rw [if_pos hq]
    rw [hv]
    refine MT.of [some (vR 0), some (vI c), some (vI p), some (vI k), none, none, none, none, none] ⟨by decide, rfl⟩ rfl (Nat.le_of_ble_eq_true rfl) (fun hA hM => ?_)
    refine e_aload0 dX8_settles_0 ?_
    refine e_getR fl_X8_12 la_0 rfl dX8_settles_1 ?_
    refine e_iload1 dX8_settles_4 ?_
    refine e_cVZ (ct_X0_isCandle (d := d - 1) (by omega)) cy_X0_isCandle cv_X0_isCandle ml_X8_116 la_1 rfl rfl rfl (rok (by omega) (by decide)) (Nat.le_of_ble_eq_true rfl) dX8_settles_5 (fun g5 => ?_) (fun g5 => ?_)
    · refine e_if_eq (tgt := 30) dX8_settles_8 (by decide) (fun h => absurd h (by decide)) (fun _ => ?_)
      refine e_iload2 dX8_settles_11 ?_
      refine e_if_lt (tgt := 30) dX8_settles_12 (by decide) (fun h => absurd h (by omega)) (fun h12 => ?_)
      refine e_iload2 dX8_settles_15 ?_
      refine e_bipush dX8_settles_16 rfl kb_99 ?_
      refine e_icmp_gt (tgt := 30) dX8_settles_18 (by decide) (fun h => absurd h (by omega)) (fun h18 => ?_)
      refine e_iload3 dX8_settles_21 ?_
      refine e_if_lt (tgt := 30) dX8_settles_22 (by decide) (fun h => absurd h (by omega)) (fun h22 => ?_)
      refine e_iload3 dX8_settles_25 ?_
      refine e_iconst dX8_settles_26 rfl kc_1 ?_
      refine e_icmp_le (tgt := 32) dX8_settles_27 (by decide) (fun h27 => ?_) (fun h => absurd h (by omega))
      refine e_aload0 dX8_settles_32 ?_
      refine e_getR fl_X8_12 la_0 rfl dX8_settles_33 ?_
      refine e_iload1 dX8_settles_36 ?_
      refine e_cVI (ct_X0_freeInches (d := d - 1) (by omega) hI) cy_X0_freeInches cv_X0_freeInches ml_X8_289 la_1 rfl rfl rfl (rok (by omega) (by decide)) (Nat.le_of_ble_eq_true rfl) dX8_settles_37 ?_
      refine e_istore4 dX8_settles_40 rfl ?_
      refine e_iload2 dX8_settles_42 ?_
      refine e_istore5 dX8_settles_43 rfl ?_
      refine e_iconst dX8_settles_45 rfl kc_0 ?_
      refine e_istore6 dX8_settles_46 rfl ?_
      refine e_iconst dX8_settles_48 rfl kc_0 ?_
      refine e_istore7 dX8_settles_49 rfl ?_
      exact loop (cntF M c 12) hq.2.2.2 100 p 0 0 _ (by omega) ⟨by omega, by omega⟩ ⟨by omega, by omega⟩
    · refine e_if_eq (tgt := 30) dX8_settles_8 (by decide) (fun _ => ?_) (fun h => absurd h (by decide))
      refine e_iconst dX8_settles_30 rfl kc_m1 ?_
      refine e_iret dX8_settles_31 ?_
      exact absurd hq.1 g5
  · have hv : settlesV M c p k = -1 := by unfold settlesV; rw [if_neg hq]
    rw [hv]
    refine MT.of [some (vR 0), some (vI c), some (vI p), some (vI k), none, none, none, none, none] ⟨by decide, rfl⟩ rfl (Nat.le_of_ble_eq_true rfl) (fun hA hM => ?_)
    refine e_aload0 dX8_settles_0 ?_
    refine e_getR fl_X8_12 la_0 rfl dX8_settles_1 ?_
    refine e_iload1 dX8_settles_4 ?_
    refine e_cVZ (ct_X0_isCandle (d := d - 1) (by omega)) cy_X0_isCandle cv_X0_isCandle ml_X8_116 la_1 rfl rfl rfl (rok (by omega) (by decide)) (Nat.le_of_ble_eq_true rfl) dX8_settles_5 (fun g5 => ?_) (fun g5 => ?_)
    · refine e_if_eq (tgt := 30) dX8_settles_8 (by decide) (fun h => absurd h (by decide)) (fun _ => ?_)
      refine e_iload2 dX8_settles_11 ?_
      refine e_if_lt (tgt := 30) dX8_settles_12 (by decide) (fun h12 => ?_) (fun h12 => ?_)
      · refine e_iconst dX8_settles_30 rfl kc_m1 ?_
        refine e_iret dX8_settles_31 ?_
        exact ⟨rfl, rfl⟩
      · refine e_iload2 dX8_settles_15 ?_
        refine e_bipush dX8_settles_16 rfl kb_99 ?_
        refine e_icmp_gt (tgt := 30) dX8_settles_18 (by decide) (fun h18 => ?_) (fun h18 => ?_)
        · refine e_iconst dX8_settles_30 rfl kc_m1 ?_
          refine e_iret dX8_settles_31 ?_
          exact ⟨rfl, rfl⟩
        · refine e_iload3 dX8_settles_21 ?_
          refine e_if_lt (tgt := 30) dX8_settles_22 (by decide) (fun h22 => ?_) (fun h22 => ?_)
          · refine e_iconst dX8_settles_30 rfl kc_m1 ?_
            refine e_iret dX8_settles_31 ?_
            exact ⟨rfl, rfl⟩
          · refine e_iload3 dX8_settles_25 ?_
            refine e_iconst dX8_settles_26 rfl kc_1 ?_
            refine e_icmp_le (tgt := 32) dX8_settles_27 (by decide) (fun h27 => ?_) (fun h27 => ?_)
            · exact absurd ⟨g5, by omega, by omega, by omega, by omega⟩ hq
            · refine e_iconst dX8_settles_30 rfl kc_m1 ?_
              refine e_iret dX8_settles_31 ?_
              exact ⟨rfl, rfl⟩
    · refine e_if_eq (tgt := 30) dX8_settles_8 (by decide) (fun _ => ?_) (fun h => absurd h (by decide))
      refine e_iconst dX8_settles_30 rfl kc_m1 ?_
      refine e_iret dX8_settles_31 ?_
      exact ⟨rfl, rfl⟩
theorem wall_n {M : Mem} (hI : IB M) (s : Int) : 0 ≤ wall M s (M 1 5).toNat ∧ wall M s (M 1 5).toNat ≤ 100 := by
  have h := wall_b hI s (M 1 5).toNat (by have := hI.2.1; omega)
  have := hI.2.1
  omega
theorem clubF_b {M : Mem} (hI : IB M) (k : Int) : ∀ n : Nat, -1 ≤ (clubF M k n).1 ∧ (clubF M k n).1 ≤ n ∧ -1 ≤ (clubF M k n).2 ∧ (clubF M k n).2 ≤ 100
  | 0 => ⟨by simp [clubF], by simp [clubF], by simp [clubF], by simp [clubF]⟩
  | n + 1 => by
    have h := clubF_b hI k n
    have hw := wall_n hI n
    rw [clubF]
    by_cases hq : (clubF M k n).2 < (if (popc n : Int) = k ∧ 1 ≤ n then wall M n (M 1 5).toNat else -1)
    · rw [if_pos hq]; exact ⟨by show -1 ≤ (n : Int); omega, by show (n : Int) ≤ _; omega, by show -1 ≤ wall M n (M 1 5).toNat; omega, hw.2⟩
    · rw [if_neg hq]; exact ⟨h.1, by omega, h.2.2⟩
theorem ct_X8_club (hd : 6 ≤ d) (hI : IB M) {k : Int} : PI l w yX8_club cX8_club 6 d [vR 0, vI k] M (clubV M k) M := by
  have hb := hI.1
  have hp8 := pow8 (H := (M 1 0).toNat) (by omega)
  have hcast : (2 : Int) ^ (M 1 0).toNat = ((2 ^ (M 1 0).toNat : Nat) : Int) := by simp
  have hpos := Nat.one_le_two_pow (n := (M 1 0).toNat)
  by_cases hk : 1 ≤ k ∧ k ≤ M 1 0
  · have hv : clubV M k = (clubF M k (2 ^ (M 1 0).toNat)).1 := by unfold clubV; rw [if_pos hk]
    rw [hv]
    have loop : ∀ (q s : Nat) (x5 : Option MV), s + q = 2 ^ (M 1 0).toNat → 1 ≤ s → WM l w RX8 cX8_club 6 (some .int) d (fun r M' => M' = M ∧ r = some (vI (clubF M k (2 ^ (M 1 0).toNat)).1)) 25 [some (vR 0), some (vI k), some (vI (clubF M k s).1), some (vI (clubF M k s).2), some (vI s), x5] [] M := by
      intro q
      induction q with
      | zero =>
        intro s x5 hs h1
        have e : s = 2 ^ (M 1 0).toNat := by omega
        refine e_iload4 dX8_club_25 ?_
        refine e_sipush dX8_club_27 rfl ks_256 ?_
        refine e_icmp_ge (tgt := 87) dX8_club_30 (by decide) (fun h30 => ?_) (fun h30 => ?_)
        · refine e_iload2 dX8_club_87 ?_
          refine e_iret dX8_club_88 ?_
          exact ⟨rfl, by rw [e]⟩
        · refine e_aload0 dX8_club_33 ?_
          refine e_getR fl_X8_12 la_0 rfl dX8_club_34 ?_
          refine e_iload4 dX8_club_37 ?_
          refine e_cVZ (ct_X0_isSet (d := d - 1) (by omega) hI) cy_X0_isSet cv_X0_isSet ml_X8_262 la_1 rfl rfl rfl (rok (by omega) (by decide)) (Nat.le_of_ble_eq_true rfl) dX8_club_39 (fun g39 => ?_) (fun g39 => ?_)
          · refine e_if_eq (tgt := 87) dX8_club_42 (by decide) (fun h => absurd h (by decide)) (fun _ => ?_)
            exfalso; omega
          · refine e_if_eq (tgt := 87) dX8_club_42 (by decide) (fun _ => ?_) (fun h => absurd h (by decide))
            refine e_iload2 dX8_club_87 ?_
            refine e_iret dX8_club_88 ?_
            exact ⟨rfl, by rw [e]⟩
      | succ q ih =>
        intro s x5 hs h1
        have hbb := clubF_b hI k s
        have hw := wall_n hI s
        refine e_iload4 dX8_club_25 ?_
        refine e_sipush dX8_club_27 rfl ks_256 ?_
        refine e_icmp_ge (tgt := 87) dX8_club_30 (by decide) (fun h => absurd h (by omega)) (fun h30 => ?_)
        refine e_aload0 dX8_club_33 ?_
        refine e_getR fl_X8_12 la_0 rfl dX8_club_34 ?_
        refine e_iload4 dX8_club_37 ?_
        refine e_cVZ (ct_X0_isSet (d := d - 1) (by omega) hI) cy_X0_isSet cv_X0_isSet ml_X8_262 la_1 rfl rfl rfl (rok (by omega) (by decide)) (Nat.le_of_ble_eq_true rfl) dX8_club_39 (fun g39 => ?_) (fun g39 => ?_)
        · refine e_if_eq (tgt := 87) dX8_club_42 (by decide) (fun h => absurd h (by decide)) (fun _ => ?_)
          refine e_iload4 dX8_club_45 ?_
          refine e_cSI (ct_J6_bitCount_0f7a4 (d := d - 1) (by omega) (by omega)) cy_J6_bitCount_0f7a4 cs_J6_bitCount_0f7a4 ml_X8_265 rfl rfl (rok (by omega) (by decide)) (Nat.le_of_ble_eq_true rfl) dX8_club_47 ?_
          refine e_iload1 dX8_club_50 ?_
          refine e_icmp_ne (tgt := 66) dX8_club_51 (by decide) (fun h51 => ?_) (fun h51 => ?_)
          · refine e_iconst dX8_club_66 rfl kc_m1 ?_
            refine e_istore5 dX8_club_67 rfl ?_
            refine e_iload5 dX8_club_69 ?_
            refine e_iload3 dX8_club_71 ?_
            refine e_icmp_le (tgt := 81) dX8_club_72 (by decide) (fun h72 => ?_) (fun h72 => ?_)
            · refine e_iinc4 dX8_club_81 rfl (⟨by omega, by omega⟩) rfl ?_
              refine e_goto (tgt := 25) dX8_club_84 (by decide) ?_
              refine WW.fg5 ?_
              refine WW.cv ?_ rfl rfl (ih (s + 1) none (by omega) (by omega))
              have hst : clubF M k (s + 1) = if (clubF M k s).2 < (if (popc s : Int) = k ∧ 1 ≤ s then wall M s (M 1 5).toNat else -1) then ((s : Int), wall M s (M 1 5).toNat) else clubF M k s := rfl
              rw [hst]
              by_cases hp : (popc s : Int) = k ∧ 1 ≤ s
              · rw [if_pos hp]
                by_cases hlt : (clubF M k s).2 < wall M s (M 1 5).toNat
                · rw [if_pos hlt] <;> first | rfl | (exfalso; omega)
                · rw [if_neg hlt] <;> first | rfl | (exfalso; omega)
              · rw [if_neg hp]
                by_cases hlt : (clubF M k s).2 < -1
                · exfalso; omega
                · rw [if_neg hlt] <;> first | rfl | (exfalso; omega)
            · refine e_iload4 dX8_club_75 ?_
              refine e_istore2 dX8_club_77 rfl ?_
              refine e_iload5 dX8_club_78 ?_
              refine e_istore3 dX8_club_80 rfl ?_
              refine e_iinc4 dX8_club_81 rfl (⟨by omega, by omega⟩) rfl ?_
              refine e_goto (tgt := 25) dX8_club_84 (by decide) ?_
              refine WW.fg5 ?_
              refine WW.cv ?_ rfl rfl (ih (s + 1) none (by omega) (by omega))
              have hst : clubF M k (s + 1) = if (clubF M k s).2 < (if (popc s : Int) = k ∧ 1 ≤ s then wall M s (M 1 5).toNat else -1) then ((s : Int), wall M s (M 1 5).toNat) else clubF M k s := rfl
              rw [hst]
              by_cases hp : (popc s : Int) = k ∧ 1 ≤ s
              · rw [if_pos hp]
                by_cases hlt : (clubF M k s).2 < wall M s (M 1 5).toNat
                · rw [if_pos hlt] <;> first | rfl | (exfalso; omega)
                · rw [if_neg hlt] <;> first | rfl | (exfalso; omega)
              · rw [if_neg hp]
                by_cases hlt : (clubF M k s).2 < -1
                · exfalso; omega
                · rw [if_neg hlt] <;> first | rfl | (exfalso; omega)
          · refine e_aload0 dX8_club_54 ?_
            refine e_getR fl_X8_12 la_0 rfl dX8_club_55 ?_
            refine e_iload4 dX8_club_58 ?_
            refine e_cVI (ct_X0_worthOf (d := d - 1) (by omega) hI) cy_X0_worthOf cv_X0_worthOf ml_X8_286 la_1 rfl rfl rfl (rok (by omega) (by decide)) (Nat.le_of_ble_eq_true rfl) dX8_club_60 ?_
            refine e_goto (tgt := 67) dX8_club_63 (by decide) ?_
            refine e_istore5 dX8_club_67 rfl ?_
            refine e_iload5 dX8_club_69 ?_
            refine e_iload3 dX8_club_71 ?_
            refine e_icmp_le (tgt := 81) dX8_club_72 (by decide) (fun h72 => ?_) (fun h72 => ?_)
            · refine e_iinc4 dX8_club_81 rfl (⟨by omega, by omega⟩) rfl ?_
              refine e_goto (tgt := 25) dX8_club_84 (by decide) ?_
              refine WW.fg5 ?_
              refine WW.cv ?_ rfl rfl (ih (s + 1) none (by omega) (by omega))
              have hst : clubF M k (s + 1) = if (clubF M k s).2 < (if (popc s : Int) = k ∧ 1 ≤ s then wall M s (M 1 5).toNat else -1) then ((s : Int), wall M s (M 1 5).toNat) else clubF M k s := rfl
              rw [hst]
              by_cases hp : (popc s : Int) = k ∧ 1 ≤ s
              · rw [if_pos hp]
                by_cases hlt : (clubF M k s).2 < wall M s (M 1 5).toNat
                · rw [if_pos hlt] <;> first | rfl | (exfalso; omega)
                · rw [if_neg hlt] <;> first | rfl | (exfalso; omega)
              · rw [if_neg hp]
                by_cases hlt : (clubF M k s).2 < -1
                · exfalso; omega
                · rw [if_neg hlt] <;> first | rfl | (exfalso; omega)
            · refine e_iload4 dX8_club_75 ?_
              refine e_istore2 dX8_club_77 rfl ?_
              refine e_iload5 dX8_club_78 ?_
              refine e_istore3 dX8_club_80 rfl ?_
              refine e_iinc4 dX8_club_81 rfl (⟨by omega, by omega⟩) rfl ?_
              refine e_goto (tgt := 25) dX8_club_84 (by decide) ?_
              refine WW.fg5 ?_
              refine WW.cv ?_ rfl rfl (ih (s + 1) none (by omega) (by omega))
              have hst : clubF M k (s + 1) = if (clubF M k s).2 < (if (popc s : Int) = k ∧ 1 ≤ s then wall M s (M 1 5).toNat else -1) then ((s : Int), wall M s (M 1 5).toNat) else clubF M k s := rfl
              rw [hst]
              by_cases hp : (popc s : Int) = k ∧ 1 ≤ s
              · rw [if_pos hp]
                by_cases hlt : (clubF M k s).2 < wall M s (M 1 5).toNat
                · rw [if_pos hlt] <;> first | rfl | (exfalso; omega)
                · rw [if_neg hlt] <;> first | rfl | (exfalso; omega)
              · rw [if_neg hp]
                by_cases hlt : (clubF M k s).2 < -1
                · exfalso; omega
                · rw [if_neg hlt] <;> first | rfl | (exfalso; omega)
        · refine e_if_eq (tgt := 87) dX8_club_42 (by decide) (fun _ => ?_) (fun h => absurd h (by decide))
          refine e_iload2 dX8_club_87 ?_
          refine e_iret dX8_club_88 ?_
          exfalso; exact g39 ⟨by omega, by omega⟩
    refine MT.of [some (vR 0), some (vI k), none, none, none, none] ⟨by decide, rfl⟩ rfl (Nat.le_of_ble_eq_true rfl) (fun hA hM => ?_)
    refine e_iload1 dX8_club_0 ?_
    refine e_iconst dX8_club_1 rfl kc_1 ?_
    refine e_icmp_lt (tgt := 16) dX8_club_2 (by decide) (fun h => absurd h (by omega)) (fun h2 => ?_)
    refine e_iload1 dX8_club_5 ?_
    refine e_aload0 dX8_club_6 ?_
    refine e_getR fl_X8_12 la_0 rfl dX8_club_7 ?_
    refine e_getI fl_X8_159 la_1 rfl dX8_club_10 ?_
    refine e_icmp_le (tgt := 18) dX8_club_13 (by decide) (fun h13 => ?_) (fun h => absurd h (by omega))
    refine e_iconst dX8_club_18 rfl kc_m1 ?_
    refine e_istore2 dX8_club_19 rfl ?_
    refine e_iconst dX8_club_20 rfl kc_m1 ?_
    refine e_istore3 dX8_club_21 rfl ?_
    refine e_iconst dX8_club_22 rfl kc_1 ?_
    refine e_istore4 dX8_club_23 rfl ?_
    refine WW.cv (L' := [some (vR 0), some (vI k), some (vI (clubF M k 1).1), some (vI (clubF M k 1).2), some (vI ((1 : Nat) : Int)), none]) (by simp [clubF]) rfl rfl (loop (2 ^ (M 1 0).toNat - 1) 1 none (by omega) (by omega))
  · have hv : clubV M k = -1 := by unfold clubV; rw [if_neg hk]
    rw [hv]
    refine MT.of [some (vR 0), some (vI k), none, none, none, none] ⟨by decide, rfl⟩ rfl (Nat.le_of_ble_eq_true rfl) (fun hA hM => ?_)
    refine e_iload1 dX8_club_0 ?_
    refine e_iconst dX8_club_1 rfl kc_1 ?_
    refine e_icmp_lt (tgt := 16) dX8_club_2 (by decide) (fun h2 => ?_) (fun h2 => ?_)
    · refine e_iconst dX8_club_16 rfl kc_m1 ?_
      refine e_iret dX8_club_17 ?_
      exact ⟨rfl, rfl⟩
    · refine e_iload1 dX8_club_5 ?_
      refine e_aload0 dX8_club_6 ?_
      refine e_getR fl_X8_12 la_0 rfl dX8_club_7 ?_
      refine e_getI fl_X8_159 la_1 rfl dX8_club_10 ?_
      refine e_icmp_le (tgt := 18) dX8_club_13 (by decide) (fun h13 => ?_) (fun h13 => ?_)
      · exact absurd ⟨by omega, by omega⟩ hk
      · refine e_iconst dX8_club_16 rfl kc_m1 ?_
        refine e_iret dX8_club_17 ?_
        exact ⟨rfl, rfl⟩
end ASK3
