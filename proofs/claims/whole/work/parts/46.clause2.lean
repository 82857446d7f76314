section CLAUSE
variable {l : Launch} {w : Wd} {d : Nat} {M : Mem} {Q : Option MV → Mem → Prop} {K V Pl : Nat → Int} {j : Nat}
/-- what a clause leaves -/
def OUTC (K V Pl : Nat → Int) (j F : Nat) (tld : Bool) (c t : Nat) (M : Mem) (x : Int) (M1 : Mem) : Prop :=
  ((clF K V F tld c t).1 = 0 ∧ x = 1 ∧ V t < 4 ∧ CLS K V j M M1 (clF K V F tld c t).2.1 (V t) c (clF K V F tld c t).2.2 (setN (M (92 + 6 * j)) (V t).toNat (M (90 + 6 * j) 1)) (setN (M (93 + 6 * j)) (V t).toNat (M (90 + 6 * j) 1 + (clF K V F tld c t).2.2.length)) (M (95 + 6 * j)))
  ∨ ((clF K V F tld c t).1 = 0 ∧ x = 1 ∧ 4 ≤ V t ∧ (clF K V F tld c t).2.2 = [] ∧ CLS K V j M M1 (clF K V F tld c t).2.1 (V t) c [] (M (92 + 6 * j)) (M (93 + 6 * j)) (nbR V (V t) c (t + 1) (M (95 + 6 * j))))
  ∨ ((clF K V F tld c t).1 ≠ 0 ∧ x = 0 ∧ FC Pl j M M1 (clF K V F tld c t).1 (clF K V F tld c t).2.1)
theorem dd_le {N : Nat} (hK : ∀ t, N ≤ t → K t = 0) {k : Int} {t : Nat} (ht : t ≤ N) : (ddF K V k t).2 ≤ N ∧ t ≤ (ddF K V k t).2 := by
  unfold ddF
  split
  · split
    · exact ⟨ht, Nat.le_refl _⟩
    rename_i a1
    have b1 := nb_lt (V := V) hK (Decidable.not_not.mp a1)
    split
    · exact ⟨b1, Nat.le_succ _⟩
    rename_i a2
    have b2 := wd_lt (V := V) hK (Decidable.not_not.mp a2)
    split
    · exact ⟨b2, Nat.le_add_right _ _⟩
    rename_i a3
    have b3 := nb_lt (V := V) hK (Decidable.not_not.mp a3)
    split
    · exact ⟨b3, Nat.le_add_right _ _⟩
    rename_i a4
    have b4 := wd_lt (V := V) hK (Decidable.not_not.mp a4)
    split
    · exact ⟨b4, Nat.le_add_right _ _⟩
    rename_i a5
    exact ⟨nb_lt (V := V) hK (Decidable.not_not.mp a5), Nat.le_add_right _ _⟩
  split
  · split
    · exact ⟨ht, Nat.le_refl _⟩
    · rename_i a1
      exact ⟨nb_lt (V := V) hK (Decidable.not_not.mp a1), Nat.le_succ _⟩
  · split
    · exact ⟨ht, Nat.le_refl _⟩
    · rename_i a1
      exact ⟨nb_lt (V := V) hK (Decidable.not_not.mp a1), Nat.le_succ _⟩
theorem ct_X2_readClause (hd : 30 ≤ d) (hj : j < 4) {N c t F : Nat} (hN : N ≤ 300) (hK : ∀ t, N ≤ t → K t = 0) (hV : ∀ t, -1 ≤ V t ∧ V t ≤ 10000) (hF : 4 * N + 3 ≤ F) (hc : c ≤ 24) (hT : TK K V Pl M) (hC : CR K V M t) (ht : t ≤ N) (hs : M (90 + 6 * j) 6 = c) (hz : 0 ≤ M (90 + 6 * j) 1 ∧ M (90 + 6 * j) 1 ≤ t) {tld : Bool} (htl : V t < 4 → 0 ≤ V t → (tld = true ↔ 0 < M (93 + 6 * j) (V t).toNat)) : GI l w yX2_readClause cX2_readClause 5 .boolean d [vR 114, vR (90 + 6 * j)] M (fun x M1 => OUTC K V Pl j F tld c t M x M1) := by
  have c6 := hC.1
  have c7 := hC.2.1
  have c8 := hC.2.2
  have href : ∀ f : Int, f ≠ 0 → clF K V F tld c t = (f, t, []) → OUTC K V Pl j F tld c t M 0 (refM M f) := fun f hf e => by
    unfold OUTC
    rw [e]
    have ht3 : t ≤ 300 := by omega
    exact Or.inr (Or.inr ⟨hf, rfl, fc_ref hj ht3 hT hC⟩)
  by_cases hw : K t = 2 ∧ 0 ≤ V t ∧ V t ≤ 7
  · have e0 : clF K V F tld c t = (if V t < 4 ∧ tld = true then (4, t, []) else if 24 ≤ c then (6, t, []) else
      if V t < 4 then (if (Ps K V (V t) F 0 0 (t + 1)).1 = 0 then (if K (Ps K V (V t) F 0 0 (t + 1)).2.1 = 59 then (0, (Ps K V (V t) F 0 0 (t + 1)).2.1 + 1, (Ps K V (V t) F 0 0 (t + 1)).2.2) else (1, (Ps K V (V t) F 0 0 (t + 1)).2.1, [])) else ((Ps K V (V t) F 0 0 (t + 1)).1, (Ps K V (V t) F 0 0 (t + 1)).2.1, []))
      else (if (ddF K V (V t) (t + 1)).1 = 0 then (if K (ddF K V (V t) (t + 1)).2 = 59 then (0, (ddF K V (V t) (t + 1)).2 + 1, []) else (1, (ddF K V (V t) (t + 1)).2, [])) else ((ddF K V (V t) (t + 1)).1, (ddF K V (V t) (t + 1)).2, []))) := by unfold clF; rw [if_pos hw]
    have ht1 : t + 1 ≤ N := by
      have : ¬ N ≤ t := fun z => by have := hK t z; omega
      omega
    have hA := clA_tk (v := V t) hT hC
    have a6 := hA.2.1
    have az : clA M (V t) (90 + 6 * j) 1 = M (90 + 6 * j) 1 := by rw [clA_o (by omega)]
    have ac : clA M (V t) (90 + 6 * j) 6 = c := by rw [clA_o (by omega)]; exact hs
    have h30 : WM l w RX2 cX2_readClause 5 (some .boolean) d (fun r M1 => ∃ x, r = some (vI x) ∧ OUTC K V Pl j F tld c t M x M1) 30 [some (vR 114), some (vR (90 + 6 * j)), none, none, none] [] M := by
      refine e_aload1 dX2_readClause_30 ?_
      refine e_aload0 dX2_readClause_31 ?_
      refine e_getI fl_X2_37 la_114 rfl dX2_readClause_32 ?_
      refine WW.ec (y := V t) (c8) ?_
      refine e_cVZ (ct_X3_has (d := d - 1) (by omega) hj) cy_X3_has cv_X3_has ml_X2_155 (la_S0 hj) rfl rfl rfl (rok (by omega) (by decide)) (Nat.le_of_ble_eq_true rfl) dX2_readClause_35 (fun g35 => ?_) (fun g35 => ?_)
      · refine e_if_eq (tgt := 47) dX2_readClause_38 (by decide) (fun h => absurd h (by decide)) (fun _ => ?_)
        refine e_aload0 dX2_readClause_41 ?_
        refine e_iconst dX2_readClause_42 rfl kc_4 ?_
        refine e_cVGI (ct_X2_refuse (d := d - 1) (by omega)) cy_X2_refuse cv_X2_refuse ml_X2_152 la_114 rfl rfl rfl (rok (by omega) (by decide)) (Nat.le_of_ble_eq_true rfl) dX2_readClause_43 (fun x M1 hx => ?_)
        obtain ⟨rfl, rfl⟩ := hx
        refine e_zret dX2_readClause_46 (by decide) ?_
        exact ⟨_, rfl, href 4 (by decide) (by rw [e0, if_pos ⟨g35.2.1, (htl g35.2.1 g35.1).mpr g35.2.2⟩])⟩
      · refine e_if_eq (tgt := 47) dX2_readClause_38 (by decide) (fun _ => ?_) (fun h => absurd h (by decide))
        refine e_aload1 dX2_readClause_47 ?_
        refine e_getI fl_X2_158 (la_S0 hj) rfl dX2_readClause_48 ?_
        refine WW.ec (y := (c : Int)) (hs) ?_
        refine e_bipush dX2_readClause_51 rfl kb_24 ?_
        refine e_icmp_lt (tgt := 63) dX2_readClause_53 (by decide) (fun h53 => ?_) (fun h53 => ?_)
        · refine e_aload0 dX2_readClause_63 ?_
          refine e_getI fl_X2_37 la_114 rfl dX2_readClause_64 ?_
          refine WW.ec (y := V t) (c8) ?_
          refine e_istore2 dX2_readClause_67 rfl ?_
          refine e_aload1 dX2_readClause_68 ?_
          refine e_getI fl_X2_161 (la_S0 hj) rfl dX2_readClause_69 ?_
          refine e_istore3 dX2_readClause_72 rfl ?_
          refine e_aload0 dX2_readClause_73 ?_
          refine e_cVV (ct_X2_advance (d := d - 1) (by omega) (by omega)) cy_X2_advance cv_X2_advance ml_X2_61 la_114 rfl rfl rfl (rok (by omega) (by decide)) (Nat.le_of_ble_eq_true rfl) dX2_readClause_74 ?_
          refine e_aload0 dX2_readClause_77 ?_
          refine e_iload2 dX2_readClause_78 ?_
          refine e_putI fp_X2_40 la_114 rfl dX2_readClause_79 ?_
          refine e_iload2 dX2_readClause_82 ?_
          refine e_iconst dX2_readClause_83 rfl kc_4 ?_
          refine e_icmp_ge (tgt := 96) dX2_readClause_84 (by decide) (fun h84 => ?_) (fun h84 => ?_)
          · rw [if_neg (fun z => g35 ⟨hw.2.1, z.1, (htl z.1 hw.2.1).mp z.2⟩), if_neg (by omega), if_neg (by omega)] at e0
            have hle := dd_le (V := V) (k := V t) hK ht1
            have hcall := ct_X2_readDeed (l := l) (w := w) (d := d - 1) (k := V t) (c := c) (by omega) hj hN hK (by omega) hA.1 hA.2 ht1 ac
            refine e_aload0 dX2_readClause_96 ?_
            refine e_aload1 dX2_readClause_97 ?_
            refine e_iload2 dX2_readClause_98 ?_
            refine e_cVGI (hcall) cy_X2_readDeed cv_X2_readDeed ml_X2_168 la_114 rfl rfl rfl (rok (by omega) (by decide)) (Nat.le_of_ble_eq_true rfl) dX2_readClause_99 (fun x M2 hx => ?_)
            rcases hx with ⟨a, b, r⟩ | ⟨a, b, r⟩
            · subst b
              rw [if_pos a] at e0
              have q := r.2.2.2
              have q6 := q.1
              have q7 := q.2.1
              have T2 := r.tk hj hA.1
              have hc2 : advM M2 (90 + 6 * j) 6 = c := by have := (adv_st (j := j) hj T2 q).1 (90 + 6 * j) (by omega) (by omega); rw [this, r.1 (90 + 6 * j) (by omega) (by omega)]; exact ac
              rw [clA_o (by omega)] at r
              refine e_istore4 dX2_readClause_102 rfl ?_
              refine e_iload4 dX2_readClause_104 ?_
              refine e_if_eq (tgt := 118) dX2_readClause_106 (by decide) (fun h => absurd h (by decide)) (fun _ => ?_)
              refine e_aload0 dX2_readClause_109 ?_
              refine e_bipush dX2_readClause_110 rfl kb_59 ?_
              refine e_cVGI (ct_X2_readSign (d := d - 1) (by omega) (by omega)) cy_X2_readSign cv_X2_readSign ml_X2_171 la_114 rfl rfl rfl (rok (by omega) (by decide)) (Nat.le_of_ble_eq_true rfl) dX2_readClause_112 (fun x M3 hx3 => ?_)
              rcases hx3 with ⟨a2, b2, r2⟩ | ⟨a2, b2, r2⟩
              · subst b2
                subst r2
                rw [if_pos (by omega)] at e0
                have hfin := cls_deed hj hs r T2
                refine e_if_ne (tgt := 120) dX2_readClause_115 (by decide) (fun _ => ?_) (fun h => absurd h (by decide))
                refine e_aload1 dX2_readClause_120 ?_
                refine e_iload2 dX2_readClause_121 ?_
                refine e_iload3 dX2_readClause_122 ?_
                refine e_cVV (ct_X3_addClauseD (d := d - 1) (by omega) hj (by rw [hc2]; omega) (by omega)) cy_X3_addClause cv_X3_addClause ml_X2_174 (la_S0 hj) rfl rfl rfl (rok (by omega) (by decide)) (Nat.le_of_ble_eq_true rfl) dX2_readClause_123 ?_
                refine e_iconst dX2_readClause_126 rfl kc_1 ?_
                refine e_zret dX2_readClause_127 (by decide) ?_
                exact ⟨_, rfl, by unfold OUTC; rw [e0]; exact Or.inr (Or.inl ⟨rfl, rfl, by omega, rfl, hfin⟩)⟩
              · subst b2
                subst r2
                rw [if_neg (by omega)] at e0
                have hb := ref_fb (j := j) (f := 1) hj (by omega) T2 q
                refine e_if_ne (tgt := 120) dX2_readClause_115 (by decide) (fun h => absurd h (by decide)) (fun _ => ?_)
                refine e_iconst dX2_readClause_118 rfl kc_0 ?_
                refine e_zret dX2_readClause_119 (by decide) ?_
                exact ⟨_, rfl, by unfold OUTC; rw [e0]; exact Or.inr (Or.inr ⟨(by decide : (1 : Int) ≠ 0), rfl, fc_fb hj (r.fb hb)⟩)⟩
            · subst b
              rw [if_neg a] at e0
              refine e_istore4 dX2_readClause_102 rfl ?_
              refine e_iload4 dX2_readClause_104 ?_
              refine e_if_eq (tgt := 118) dX2_readClause_106 (by decide) (fun _ => ?_) (fun h => absurd h (by decide))
              refine e_iconst dX2_readClause_118 rfl kc_0 ?_
              refine e_zret dX2_readClause_119 (by decide) ?_
              exact ⟨_, rfl, by unfold OUTC; rw [e0]; exact Or.inr (Or.inr ⟨a, rfl, fc_fb hj r⟩)⟩
          · rw [if_neg (fun z => g35 ⟨hw.2.1, z.1, (htl z.1 hw.2.1).mp z.2⟩), if_neg (by omega), if_pos (by omega)] at e0
            have hp : HP K V Pl j (V t) N (clA M (V t)) (t + 1) := ⟨hA.1, hA.2, up_s _ _ _ _, by rw [az]; omega, ht1⟩
            have h9 : (Ps K V (V t) F 0 0 (t + 1)).1 ≠ 9 := Ps_fuel hK F 0 0 (t + 1) ht1 (by unfold wgt; simp; omega)
            have hok := Ps_ok (V := V) (law := V t) hK F 0 0 (t + 1) ht1
            have hcall := (rd_all (l := l) (w := w) (Pl := Pl) (law := V t) hj hN hK hV F).1.2.2 (d - 1) 0 (t + 1) (clA M (V t)) (by unfold D4; omega) (by omega) hp h9
            refine e_aload0 dX2_readClause_87 ?_
            refine e_aload1 dX2_readClause_88 ?_
            refine e_iconst dX2_readClause_89 rfl kc_0 ?_
            refine e_cVGI (hcall) cy_X2_readSum cv_X2_readSum ml_X2_164 la_114 rfl rfl rfl (rok (by omega) (by decide)) (Nat.le_of_ble_eq_true rfl) dX2_readClause_90 (fun x M2 hx => ?_)
            rcases hx with ⟨a, b, r, q⟩ | ⟨a, b, r, q1, q2⟩
            · subst b
              rw [if_pos a] at e0
              have q6 := q.1
              have q7 := q.2.1
              have hu := hok.2.1
              have T2 := hA.1.fr hj r.1
              have hc2 : advM M2 (90 + 6 * j) 6 = c := by have := (adv_st (j := j) hj T2 q).1 (90 + 6 * j) (by omega) (by omega); rw [this, r.1.2.2 6 (by decide)]; exact ac
              refine e_goto (tgt := 102) dX2_readClause_93 (by decide) ?_
              refine e_istore4 dX2_readClause_102 rfl ?_
              refine e_iload4 dX2_readClause_104 ?_
              refine e_if_eq (tgt := 118) dX2_readClause_106 (by decide) (fun h => absurd h (by decide)) (fun _ => ?_)
              refine e_aload0 dX2_readClause_109 ?_
              refine e_bipush dX2_readClause_110 rfl kb_59 ?_
              refine e_cVGI (ct_X2_readSign (d := d - 1) (by omega) (by omega)) cy_X2_readSign cv_X2_readSign ml_X2_171 la_114 rfl rfl rfl (rok (by omega) (by decide)) (Nat.le_of_ble_eq_true rfl) dX2_readClause_112 (fun x M3 hx3 => ?_)
              rcases hx3 with ⟨a2, b2, r2⟩ | ⟨a2, b2, r2⟩
              · subst b2
                subst r2
                rw [if_pos (by omega)] at e0
                have hfin := cls_law hj hs r T2 q
                refine e_if_ne (tgt := 120) dX2_readClause_115 (by decide) (fun _ => ?_) (fun h => absurd h (by decide))
                refine e_aload1 dX2_readClause_120 ?_
                refine e_iload2 dX2_readClause_121 ?_
                refine e_iload3 dX2_readClause_122 ?_
                refine e_cVV (ct_X3_addClauseL (d := d - 1) (by omega) hj (by rw [hc2]; omega) (by omega)) cy_X3_addClause cv_X3_addClause ml_X2_174 (la_S0 hj) rfl rfl rfl (rok (by omega) (by decide)) (Nat.le_of_ble_eq_true rfl) dX2_readClause_123 ?_
                refine e_iconst dX2_readClause_126 rfl kc_1 ?_
                refine e_zret dX2_readClause_127 (by decide) ?_
                exact ⟨_, rfl, by unfold OUTC; rw [e0]; exact Or.inl ⟨rfl, rfl, by omega, hfin⟩⟩
              · subst b2
                subst r2
                rw [if_neg (by omega)] at e0
                have hb := ref_rf (f := 1) hj (by omega) T2 q
                refine e_if_ne (tgt := 120) dX2_readClause_115 (by decide) (fun h => absurd h (by decide)) (fun _ => ?_)
                refine e_iconst dX2_readClause_118 rfl kc_0 ?_
                refine e_zret dX2_readClause_119 (by decide) ?_
                exact ⟨_, rfl, by unfold OUTC; rw [e0]; exact Or.inr (Or.inr ⟨(by decide : (1 : Int) ≠ 0), rfl, fc_rf hj (r.1.tr hb.1) hb.2.1 hb.2.2⟩)⟩
            · subst b
              rw [if_neg a] at e0
              refine e_goto (tgt := 102) dX2_readClause_93 (by decide) ?_
              refine e_istore4 dX2_readClause_102 rfl ?_
              refine e_iload4 dX2_readClause_104 ?_
              refine e_if_eq (tgt := 118) dX2_readClause_106 (by decide) (fun _ => ?_) (fun h => absurd h (by decide))
              refine e_iconst dX2_readClause_118 rfl kc_0 ?_
              refine e_zret dX2_readClause_119 (by decide) ?_
              exact ⟨_, rfl, by unfold OUTC; rw [e0]; exact Or.inr (Or.inr ⟨a, rfl, fc_rf hj r q1 q2⟩)⟩
        · refine e_aload0 dX2_readClause_56 ?_
          refine e_bipush dX2_readClause_57 rfl kb_6 ?_
          refine e_cVGI (ct_X2_refuse (d := d - 1) (by omega)) cy_X2_refuse cv_X2_refuse ml_X2_152 la_114 rfl rfl rfl (rok (by omega) (by decide)) (Nat.le_of_ble_eq_true rfl) dX2_readClause_59 (fun x M1 hx => ?_)
          obtain ⟨rfl, rfl⟩ := hx
          refine e_zret dX2_readClause_62 (by decide) ?_
          exact ⟨_, rfl, href 6 (by decide) (by rw [e0, if_neg (fun z => g35 ⟨hw.2.1, z.1, (htl z.1 hw.2.1).mp z.2⟩), if_pos (by omega)])⟩
    refine MT.of [some (vR 114), some (vR (90 + 6 * j)), none, none, none] ⟨by decide, rfl⟩ rfl (Nat.le_of_ble_eq_true rfl) (fun hA hM => ?_)
    refine e_aload0 dX2_readClause_0 ?_
    refine e_getI fl_X2_34 la_114 rfl dX2_readClause_1 ?_
    refine WW.ec (y := K t) (c7) ?_
    refine e_iconst dX2_readClause_4 rfl kc_2 ?_
    refine e_icmp_ne (tgt := 24) dX2_readClause_5 (by decide) (fun h5 => ?_) (fun h5 => ?_)
    · omega
    · refine e_aload0 dX2_readClause_8 ?_
      refine e_getI fl_X2_37 la_114 rfl dX2_readClause_9 ?_
      refine WW.ec (y := V t) (c8) ?_
      refine e_if_lt (tgt := 24) dX2_readClause_12 (by decide) (fun h12 => ?_) (fun h12 => ?_)
      · omega
      · refine e_aload0 dX2_readClause_15 ?_
        refine e_getI fl_X2_37 la_114 rfl dX2_readClause_16 ?_
        refine WW.ec (y := V t) (c8) ?_
        refine e_bipush dX2_readClause_19 rfl kb_7 ?_
        refine e_icmp_le (tgt := 30) dX2_readClause_21 (by decide) (fun h21 => ?_) (fun h21 => ?_)
        · exact h30
        · omega
  · have e0 : clF K V F tld c t = (1, t, []) := by unfold clF; rw [if_neg hw]
    have h24 : WM l w RX2 cX2_readClause 5 (some .boolean) d (fun r M1 => ∃ x, r = some (vI x) ∧ OUTC K V Pl j F tld c t M x M1) 24 [some (vR 114), some (vR (90 + 6 * j)), none, none, none] [] M := by
      refine e_aload0 dX2_readClause_24 ?_
      refine e_iconst dX2_readClause_25 rfl kc_1 ?_
      refine e_cVGI (ct_X2_refuse (d := d - 1) (by omega)) cy_X2_refuse cv_X2_refuse ml_X2_152 la_114 rfl rfl rfl (rok (by omega) (by decide)) (Nat.le_of_ble_eq_true rfl) dX2_readClause_26 (fun x M1 hx => ?_)
      obtain ⟨rfl, rfl⟩ := hx
      refine e_zret dX2_readClause_29 (by decide) ?_
      exact ⟨_, rfl, href 1 (by decide) e0⟩
    refine MT.of [some (vR 114), some (vR (90 + 6 * j)), none, none, none] ⟨by decide, rfl⟩ rfl (Nat.le_of_ble_eq_true rfl) (fun hA hM => ?_)
    refine e_aload0 dX2_readClause_0 ?_
    refine e_getI fl_X2_34 la_114 rfl dX2_readClause_1 ?_
    refine WW.ec (y := K t) (c7) ?_
    refine e_iconst dX2_readClause_4 rfl kc_2 ?_
    refine e_icmp_ne (tgt := 24) dX2_readClause_5 (by decide) (fun h5 => ?_) (fun h5 => ?_)
    · exact h24
    · refine e_aload0 dX2_readClause_8 ?_
      refine e_getI fl_X2_37 la_114 rfl dX2_readClause_9 ?_
      refine WW.ec (y := V t) (c8) ?_
      refine e_if_lt (tgt := 24) dX2_readClause_12 (by decide) (fun h12 => ?_) (fun h12 => ?_)
      · exact h24
      · refine e_aload0 dX2_readClause_15 ?_
        refine e_getI fl_X2_37 la_114 rfl dX2_readClause_16 ?_
        refine WW.ec (y := V t) (c8) ?_
        refine e_bipush dX2_readClause_19 rfl kb_7 ?_
        refine e_icmp_le (tgt := 30) dX2_readClause_21 (by decide) (fun h21 => ?_) (fun h21 => ?_)
        · omega
        · exact h24
end CLAUSE
