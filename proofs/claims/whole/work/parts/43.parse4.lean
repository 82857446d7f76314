section DESCENT2
variable {l : Launch} {w : Wd} {K V Pl : Nat → Int} {j N : Nat} {law : Int}
theorem one_all (hj : j < 4) (hN : N ≤ 300) (hK : ∀ t, N ≤ t → K t = 0) (hV : ∀ t, -1 ≤ V t ∧ V t ≤ 10000) {f : Nat} (hc : C4 l w K V Pl j law N f) (hc0 : C0 l w K V Pl j law N f) : C4 l w K V Pl j law N (f + 1) := by
  intro d o t M hd ho hp h9
  have c6 := hp.2.1.1
  have c7 := hp.2.1.2.1
  have hs := hp.2.2.2.1
  have htN := hp.2.2.2.2
  have e0 : Ps K V law (f + 1) 4 o t = if K t = 1 ∨ K t = 2 then lf K V law t
    else if ¬ (K t = 40 ∨ K t = 45) then (1, t, [])
    else if 8 ≤ o then (3, t, [])
    else if K t = 45 then (if (Ps K V law f 4 (o + 1) (t + 1)).1 = 0 then (0, (Ps K V law f 4 (o + 1) (t + 1)).2.1, (Ps K V law f 4 (o + 1) (t + 1)).2.2 ++ [10012]) else Ps K V law f 4 (o + 1) (t + 1))
    else if (Ps K V law f 0 (o + 1) (t + 1)).1 = 0 then (if K (Ps K V law f 0 (o + 1) (t + 1)).2.1 = 41 then (0, (Ps K V law f 0 (o + 1) (t + 1)).2.1 + 1, (Ps K V law f 0 (o + 1) (t + 1)).2.2) else (1, (Ps K V law f 0 (o + 1) (t + 1)).2.1, []))
    else Ps K V law f 0 (o + 1) (t + 1) := by rw [Ps]
  rw [e0] at h9 ⊢
  have hdd : 3 ≤ d := by unfold D4 at hd; omega
  have ht1 : K t ≠ 0 → t + 1 ≤ N := fun k0 => by
    have : ¬ N ≤ t := fun z => k0 (hK t z)
    omega
  by_cases k1 : K t = 1 ∨ K t = 2
  · rw [if_pos k1]
    have ht2 := ht1 (by omega)
    have hleaf := ct_X2_readLeaf (l := l) (w := w) (d := d - 1) (by omega) hj hp.1 (by omega) hp.2.1 k1 (hV t) hp.2.2.1 (by omega)
    have h16 : WM l w RX2 cX2_readOne 4 (some .boolean) d (fun r M' => ∃ x, r = some (vI x) ∧ OUTR j K V Pl M (lf K V law t) x M') 16 [some (vR 114), some (vR (90 + 6 * j)), some (vI (o : Int)), none] [] M := by
      refine e_aload0 dX2_readOne_16 ?_
      refine e_aload1 dX2_readOne_17 ?_
      refine e_cVGI (hleaf) cy_X2_readLeaf cv_X2_readLeaf ml_X2_198 la_114 rfl rfl rfl (rok (by omega) (by decide)) (Nat.le_of_ble_eq_true rfl) dX2_readOne_18 (fun x M1 hx => ?_)
      have hb : x = 0 ∨ x = 1 := by rcases hx with ⟨_, b, _⟩ | ⟨_, b, _⟩ <;> omega
      refine e_zret dX2_readOne_21 (by omega) ?_
      exact ⟨_, rfl, hx⟩
    refine MT.of [some (vR 114), some (vR (90 + 6 * j)), some (vI (o : Int)), none] ⟨by decide, rfl⟩ rfl (Nat.le_of_ble_eq_true rfl) (fun hA hM => ?_)
    refine e_aload0 dX2_readOne_0 ?_
    refine e_getI fl_X2_34 la_114 rfl dX2_readOne_1 ?_
    refine WW.ec (y := K t) (c7) ?_
    refine e_iconst dX2_readOne_4 rfl kc_1 ?_
    refine e_icmp_eq (tgt := 16) dX2_readOne_5 (by decide) (fun h5 => ?_) (fun h5 => ?_)
    · exact h16
    · refine e_aload0 dX2_readOne_8 ?_
      refine e_getI fl_X2_34 la_114 rfl dX2_readOne_9 ?_
      refine WW.ec (y := K t) (c7) ?_
      refine e_iconst dX2_readOne_12 rfl kc_2 ?_
      refine e_icmp_ne (tgt := 22) dX2_readOne_13 (by decide) (fun h13 => ?_) (fun h13 => ?_)
      · omega
      · exact h16
  rw [if_neg k1] at h9 ⊢
  by_cases k2 : K t = 40 ∨ K t = 45
  · rw [if_neg (fun z => z k2)] at h9 ⊢
    have ht2 := ht1 (by omega)
    by_cases ho8 : 8 ≤ o
    · rw [if_pos ho8]
      have h46 : WM l w RX2 cX2_readOne 4 (some .boolean) d (fun r M' => ∃ x, r = some (vI x) ∧ OUTR j K V Pl M (3, t, []) x M') 46 [some (vR 114), some (vR (90 + 6 * j)), some (vI (o : Int)), none] [] M := by
        refine e_iload2 dX2_readOne_46 ?_
        refine e_bipush dX2_readOne_47 rfl kb_8 ?_
        refine e_icmp_lt (tgt := 58) dX2_readOne_49 (by decide) (fun h49 => ?_) (fun h49 => ?_)
        · omega
        · refine e_aload0 dX2_readOne_52 ?_
          refine e_iconst dX2_readOne_53 rfl kc_3 ?_
          refine e_cVGI (ct_X2_refuse (d := d - 1) (by omega)) cy_X2_refuse cv_X2_refuse ml_X2_152 la_114 rfl rfl rfl (rok (by omega) (by decide)) (Nat.le_of_ble_eq_true rfl) dX2_readOne_54 (fun x M1 hx => ?_)
          obtain ⟨rfl, rfl⟩ := hx
          refine e_zret dX2_readOne_57 (by decide) ?_
          exact ⟨_, rfl, out_ref hj (by decide) (by omega) hp.1 hp.2.1⟩
      refine MT.of [some (vR 114), some (vR (90 + 6 * j)), some (vI (o : Int)), none] ⟨by decide, rfl⟩ rfl (Nat.le_of_ble_eq_true rfl) (fun hA hM => ?_)
      refine e_aload0 dX2_readOne_0 ?_
      refine e_getI fl_X2_34 la_114 rfl dX2_readOne_1 ?_
      refine WW.ec (y := K t) (c7) ?_
      refine e_iconst dX2_readOne_4 rfl kc_1 ?_
      refine e_icmp_eq (tgt := 16) dX2_readOne_5 (by decide) (fun h5 => ?_) (fun h5 => ?_)
      · omega
      · refine e_aload0 dX2_readOne_8 ?_
        refine e_getI fl_X2_34 la_114 rfl dX2_readOne_9 ?_
        refine WW.ec (y := K t) (c7) ?_
        refine e_iconst dX2_readOne_12 rfl kc_2 ?_
        refine e_icmp_ne (tgt := 22) dX2_readOne_13 (by decide) (fun h13 => ?_) (fun h13 => ?_)
        · refine e_aload0 dX2_readOne_22 ?_
          refine e_getI fl_X2_34 la_114 rfl dX2_readOne_23 ?_
          refine WW.ec (y := K t) (c7) ?_
          refine e_bipush dX2_readOne_26 rfl kb_40 ?_
          refine e_icmp_eq (tgt := 46) dX2_readOne_28 (by decide) (fun h28 => ?_) (fun h28 => ?_)
          · exact h46
          · refine e_aload0 dX2_readOne_31 ?_
            refine e_getI fl_X2_34 la_114 rfl dX2_readOne_32 ?_
            refine WW.ec (y := K t) (c7) ?_
            refine e_bipush dX2_readOne_35 rfl kb_45 ?_
            refine e_icmp_eq (tgt := 46) dX2_readOne_37 (by decide) (fun h37 => ?_) (fun h37 => ?_)
            · exact h46
            · omega
        · omega
    rw [if_neg ho8] at h9 ⊢
    have ha := adv_rs hj hp.1 hp.2.1
    have hp1 : HP K V Pl j law N (advM M) (t + 1) := hp.go hj ha.1 ha.2 (by simp) ht2
    by_cases k3 : K t = 45
    · rw [if_pos k3] at h9 ⊢
      have hok := Ps_ok (V := V) (law := law) hK f 4 (o + 1) (t + 1) ht2
      have h92 : (Ps K V law f 4 (o + 1) (t + 1)).1 ≠ 9 := fun z => by
        rw [if_neg (by rw [z]; decide)] at h9
        exact h9 z
      have hcall := hc (d - 1) (o + 1) (t + 1) (advM M) (by unfold D4 at hd ⊢; omega) (by omega) hp1 h92
      rw [show ((o + 1 : Nat) : Int) = (o : Int) + 1 by omega] at hcall
      have h107 : WM l w RX2 cX2_readOne 4 (some .boolean) d (fun r M' => ∃ x, r = some (vI x) ∧ OUTR j K V Pl M (if (Ps K V law f 4 (o + 1) (t + 1)).1 = 0 then (0, (Ps K V law f 4 (o + 1) (t + 1)).2.1, (Ps K V law f 4 (o + 1) (t + 1)).2.2 ++ [10012]) else Ps K V law f 4 (o + 1) (t + 1)) x M') 107 [some (vR 114), some (vR (90 + 6 * j)), some (vI (o : Int)), some (vI 1)] [] (advM M) := by
        refine e_aload0 dX2_readOne_107 ?_
        refine e_aload1 dX2_readOne_108 ?_
        refine e_iload2 dX2_readOne_109 ?_
        refine e_iconst dX2_readOne_110 rfl kc_1 ?_
        refine e_iadd dX2_readOne_111 (⟨by omega, by omega⟩) ?_
        refine e_cVGI (hcall) cy_X2_readOne cv_X2_readOne ml_X2_195 la_114 rfl rfl rfl (rok (by omega) (by decide)) (Nat.le_of_ble_eq_true rfl) dX2_readOne_112 (fun x M1 hx => ?_)
        rcases hx with ⟨a, b, r, q⟩ | hbad
        · subst b
          rw [if_pos a]
          have hlen := hok.2.2 a
          have hsz := r.2.1
          have hsz0 := ha.1.2.1
          have hsz1 : M1 (90 + 6 * j) 1 = M (90 + 6 * j) 1 + (Ps K V law f 4 (o + 1) (t + 1)).2.2.length := by rw [hsz, hsz0]; simp
          have hr3 := RS.code (M := M1) (c := 10012) hj (by omega)
          have hrr := (ha.1.tr hs.1 (r.tr (by rw [hsz0]; simp; omega) hr3))
          rw [List.nil_append] at hrr
          have hu := hok.2.1
          refine e_if_ne (tgt := 120) dX2_readOne_115 (by decide) (fun _ => ?_) (fun h => absurd h (by decide))
          refine e_aload1 dX2_readOne_120 ?_
          refine e_sipush dX2_readOne_121 rfl ks_10012 ?_
          refine e_cVV (ct_X3_addCode (d := d - 1) (by omega) hj (by omega)) cy_X3_addCode cv_X3_addCode ml_X2_191 (la_S0 hj) rfl rfl rfl (rok (by omega) (by decide)) (Nat.le_of_ble_eq_true rfl) dX2_readOne_124 ?_
          refine e_iconst dX2_readOne_127 rfl kc_1 ?_
          refine e_zret dX2_readOne_128 (by decide) ?_
          exact ⟨_, rfl, Or.inl ⟨rfl, rfl, hrr, q.code hj⟩⟩
        · have hz := hbad.1
          have hx0 := hbad.2.1
          subst hx0
          rw [if_neg hz]
          refine e_if_ne (tgt := 120) dX2_readOne_115 (by decide) (fun h => absurd h (by decide)) (fun _ => ?_)
          refine e_iconst dX2_readOne_118 rfl kc_0 ?_
          refine e_zret dX2_readOne_119 (by decide) ?_
          exact ⟨_, rfl, OUTR.bad ha.1 (Or.inr hbad) hz⟩
      have h46 : WM l w RX2 cX2_readOne 4 (some .boolean) d (fun r M' => ∃ x, r = some (vI x) ∧ OUTR j K V Pl M (if (Ps K V law f 4 (o + 1) (t + 1)).1 = 0 then (0, (Ps K V law f 4 (o + 1) (t + 1)).2.1, (Ps K V law f 4 (o + 1) (t + 1)).2.2 ++ [10012]) else Ps K V law f 4 (o + 1) (t + 1)) x M') 46 [some (vR 114), some (vR (90 + 6 * j)), some (vI (o : Int)), none] [] M := by
        refine e_iload2 dX2_readOne_46 ?_
        refine e_bipush dX2_readOne_47 rfl kb_8 ?_
        refine e_icmp_lt (tgt := 58) dX2_readOne_49 (by decide) (fun h49 => ?_) (fun h49 => ?_)
        · refine e_aload0 dX2_readOne_58 ?_
          refine e_getI fl_X2_34 la_114 rfl dX2_readOne_59 ?_
          refine WW.ec (y := K t) (c7) ?_
          refine e_bipush dX2_readOne_62 rfl kb_45 ?_
          refine e_icmp_ne (tgt := 71) dX2_readOne_64 (by decide) (fun h64 => ?_) (fun h64 => ?_)
          · omega
          · refine e_iconst dX2_readOne_67 rfl kc_1 ?_
            refine e_goto (tgt := 72) dX2_readOne_68 (by decide) ?_
            refine e_istore3 dX2_readOne_72 rfl ?_
            refine e_aload0 dX2_readOne_73 ?_
            refine e_cVV (ct_X2_advance (d := d - 1) (by omega) (by omega)) cy_X2_advance cv_X2_advance ml_X2_61 la_114 rfl rfl rfl (rok (by omega) (by decide)) (Nat.le_of_ble_eq_true rfl) dX2_readOne_74 ?_
            refine e_iload3 dX2_readOne_77 ?_
            refine e_if_ne (tgt := 107) dX2_readOne_78 (by decide) (fun _ => ?_) (fun h => absurd h (by decide))
            exact h107
        · omega
      refine MT.of [some (vR 114), some (vR (90 + 6 * j)), some (vI (o : Int)), none] ⟨by decide, rfl⟩ rfl (Nat.le_of_ble_eq_true rfl) (fun hA hM => ?_)
      refine e_aload0 dX2_readOne_0 ?_
      refine e_getI fl_X2_34 la_114 rfl dX2_readOne_1 ?_
      refine WW.ec (y := K t) (c7) ?_
      refine e_iconst dX2_readOne_4 rfl kc_1 ?_
      refine e_icmp_eq (tgt := 16) dX2_readOne_5 (by decide) (fun h5 => ?_) (fun h5 => ?_)
      · omega
      · refine e_aload0 dX2_readOne_8 ?_
        refine e_getI fl_X2_34 la_114 rfl dX2_readOne_9 ?_
        refine WW.ec (y := K t) (c7) ?_
        refine e_iconst dX2_readOne_12 rfl kc_2 ?_
        refine e_icmp_ne (tgt := 22) dX2_readOne_13 (by decide) (fun h13 => ?_) (fun h13 => ?_)
        · refine e_aload0 dX2_readOne_22 ?_
          refine e_getI fl_X2_34 la_114 rfl dX2_readOne_23 ?_
          refine WW.ec (y := K t) (c7) ?_
          refine e_bipush dX2_readOne_26 rfl kb_40 ?_
          refine e_icmp_eq (tgt := 46) dX2_readOne_28 (by decide) (fun h28 => ?_) (fun h28 => ?_)
          · exact h46
          · refine e_aload0 dX2_readOne_31 ?_
            refine e_getI fl_X2_34 la_114 rfl dX2_readOne_32 ?_
            refine WW.ec (y := K t) (c7) ?_
            refine e_bipush dX2_readOne_35 rfl kb_45 ?_
            refine e_icmp_eq (tgt := 46) dX2_readOne_37 (by decide) (fun h37 => ?_) (fun h37 => ?_)
            · exact h46
            · omega
        · omega
    · rw [if_neg k3] at h9 ⊢
      have hok := Ps_ok (V := V) (law := law) hK f 0 (o + 1) (t + 1) ht2
      have h92 : (Ps K V law f 0 (o + 1) (t + 1)).1 ≠ 9 := fun z => by
        rw [if_neg (by rw [z]; decide)] at h9
        exact h9 z
      have hcall := hc0 (d - 1) (o + 1) (t + 1) (advM M) (by unfold D4 at hd ⊢; omega) (by omega) hp1 h92
      rw [show ((o + 1 : Nat) : Int) = (o : Int) + 1 by omega] at hcall
      generalize hR : (if (Ps K V law f 0 (o + 1) (t + 1)).1 = 0 then (if K (Ps K V law f 0 (o + 1) (t + 1)).2.1 = 41 then ((0 : Int), (Ps K V law f 0 (o + 1) (t + 1)).2.1 + 1, (Ps K V law f 0 (o + 1) (t + 1)).2.2) else (1, (Ps K V law f 0 (o + 1) (t + 1)).2.1, [])) else Ps K V law f 0 (o + 1) (t + 1)) = RR
      have h81 : WM l w RX2 cX2_readOne 4 (some .boolean) d (fun r M' => ∃ x, r = some (vI x) ∧ OUTR j K V Pl M RR x M') 81 [some (vR 114), some (vR (90 + 6 * j)), some (vI (o : Int)), some (vI 0)] [] (advM M) := by
        refine e_aload0 dX2_readOne_81 ?_
        refine e_aload1 dX2_readOne_82 ?_
        refine e_iload2 dX2_readOne_83 ?_
        refine e_iconst dX2_readOne_84 rfl kc_1 ?_
        refine e_iadd dX2_readOne_85 (⟨by omega, by omega⟩) ?_
        refine e_cVGI (hcall) cy_X2_readSum cv_X2_readSum ml_X2_164 la_114 rfl rfl rfl (rok (by omega) (by decide)) (Nat.le_of_ble_eq_true rfl) dX2_readOne_86 (fun x M1 hx => ?_)
        rcases hx with ⟨a, b, r, q⟩ | hbad
        · subst b
          rw [if_pos a] at hR
          have hlen := hok.2.2 a
          have hu := hok.2.1
          have hp2 := hp1.go hj r q hlen.1 hok.2.1
          have hrr := ha.1.tr hs.1 r
          rw [List.nil_append] at hrr
          have q6 := q.1
          have q7 := q.2.1
          refine e_if_eq (tgt := 105) dX2_readOne_89 (by decide) (fun h => absurd h (by decide)) (fun _ => ?_)
          refine e_aload0 dX2_readOne_92 ?_
          refine e_bipush dX2_readOne_93 rfl kb_41 ?_
          refine e_cVGI (ct_X2_readSign (d := d - 1) (by omega) (by omega)) cy_X2_readSign cv_X2_readSign ml_X2_171 la_114 rfl rfl rfl (rok (by omega) (by decide)) (Nat.le_of_ble_eq_true rfl) dX2_readOne_95 (fun x M2 hx2 => ?_)
          rcases hx2 with ⟨a2, b2, r2⟩ | ⟨a2, b2, r2⟩
          · subst b2
            subst r2
            rw [if_pos (by omega)] at hR
            have ha2 := adv_rs hj hp2.1 q
            have hrr2 := hrr.tr hs.1 ha2.1
            rw [List.append_nil] at hrr2
            refine e_if_eq (tgt := 105) dX2_readOne_98 (by decide) (fun h => absurd h (by decide)) (fun _ => ?_)
            refine e_iconst dX2_readOne_101 rfl kc_1 ?_
            refine e_goto (tgt := 106) dX2_readOne_102 (by decide) ?_
            refine e_zret dX2_readOne_106 (by decide) ?_
            exact ⟨_, rfl, by rw [← hR]; exact Or.inl ⟨rfl, rfl, hrr2, ha2.2⟩⟩
          · subst b2
            subst r2
            rw [if_neg (by omega)] at hR
            have hbd := out_ref (f := 1) hj (by decide) (by omega) hp2.1 q
            refine e_if_eq (tgt := 105) dX2_readOne_98 (by decide) (fun _ => ?_) (fun h => absurd h (by decide))
            refine e_iconst dX2_readOne_105 rfl kc_0 ?_
            refine e_zret dX2_readOne_106 (by decide) ?_
            exact ⟨_, rfl, by rw [← hR]; exact OUTR.bad hrr hbd (show ¬ (1 : Int) = 0 by decide)⟩
        · have hz := hbad.1
          have hx0 := hbad.2.1
          subst hx0
          rw [if_neg hz] at hR
          refine e_if_eq (tgt := 105) dX2_readOne_89 (by decide) (fun _ => ?_) (fun h => absurd h (by decide))
          refine e_iconst dX2_readOne_105 rfl kc_0 ?_
          refine e_zret dX2_readOne_106 (by decide) ?_
          exact ⟨_, rfl, by rw [← hR]; exact OUTR.bad ha.1 (Or.inr hbad) hz⟩
      have h46 : WM l w RX2 cX2_readOne 4 (some .boolean) d (fun r M' => ∃ x, r = some (vI x) ∧ OUTR j K V Pl M RR x M') 46 [some (vR 114), some (vR (90 + 6 * j)), some (vI (o : Int)), none] [] M := by
        refine e_iload2 dX2_readOne_46 ?_
        refine e_bipush dX2_readOne_47 rfl kb_8 ?_
        refine e_icmp_lt (tgt := 58) dX2_readOne_49 (by decide) (fun h49 => ?_) (fun h49 => ?_)
        · refine e_aload0 dX2_readOne_58 ?_
          refine e_getI fl_X2_34 la_114 rfl dX2_readOne_59 ?_
          refine WW.ec (y := K t) (c7) ?_
          refine e_bipush dX2_readOne_62 rfl kb_45 ?_
          refine e_icmp_ne (tgt := 71) dX2_readOne_64 (by decide) (fun h64 => ?_) (fun h64 => ?_)
          · refine e_iconst dX2_readOne_71 rfl kc_0 ?_
            refine e_istore3 dX2_readOne_72 rfl ?_
            refine e_aload0 dX2_readOne_73 ?_
            refine e_cVV (ct_X2_advance (d := d - 1) (by omega) (by omega)) cy_X2_advance cv_X2_advance ml_X2_61 la_114 rfl rfl rfl (rok (by omega) (by decide)) (Nat.le_of_ble_eq_true rfl) dX2_readOne_74 ?_
            refine e_iload3 dX2_readOne_77 ?_
            refine e_if_ne (tgt := 107) dX2_readOne_78 (by decide) (fun h => absurd h (by decide)) (fun _ => ?_)
            exact h81
          · omega
        · omega
      refine MT.of [some (vR 114), some (vR (90 + 6 * j)), some (vI (o : Int)), none] ⟨by decide, rfl⟩ rfl (Nat.le_of_ble_eq_true rfl) (fun hA hM => ?_)
      refine e_aload0 dX2_readOne_0 ?_
      refine e_getI fl_X2_34 la_114 rfl dX2_readOne_1 ?_
      refine WW.ec (y := K t) (c7) ?_
      refine e_iconst dX2_readOne_4 rfl kc_1 ?_
      refine e_icmp_eq (tgt := 16) dX2_readOne_5 (by decide) (fun h5 => ?_) (fun h5 => ?_)
      · omega
      · refine e_aload0 dX2_readOne_8 ?_
        refine e_getI fl_X2_34 la_114 rfl dX2_readOne_9 ?_
        refine WW.ec (y := K t) (c7) ?_
        refine e_iconst dX2_readOne_12 rfl kc_2 ?_
        refine e_icmp_ne (tgt := 22) dX2_readOne_13 (by decide) (fun h13 => ?_) (fun h13 => ?_)
        · refine e_aload0 dX2_readOne_22 ?_
          refine e_getI fl_X2_34 la_114 rfl dX2_readOne_23 ?_
          refine WW.ec (y := K t) (c7) ?_
          refine e_bipush dX2_readOne_26 rfl kb_40 ?_
          refine e_icmp_eq (tgt := 46) dX2_readOne_28 (by decide) (fun h28 => ?_) (fun h28 => ?_)
          · exact h46
          · refine e_aload0 dX2_readOne_31 ?_
            refine e_getI fl_X2_34 la_114 rfl dX2_readOne_32 ?_
            refine WW.ec (y := K t) (c7) ?_
            refine e_bipush dX2_readOne_35 rfl kb_45 ?_
            refine e_icmp_eq (tgt := 46) dX2_readOne_37 (by decide) (fun h37 => ?_) (fun h37 => ?_)
            · exact h46
            · omega
        · omega
  · rw [if_pos k2]
    refine MT.of [some (vR 114), some (vR (90 + 6 * j)), some (vI (o : Int)), none] ⟨by decide, rfl⟩ rfl (Nat.le_of_ble_eq_true rfl) (fun hA hM => ?_)
    refine e_aload0 dX2_readOne_0 ?_
    refine e_getI fl_X2_34 la_114 rfl dX2_readOne_1 ?_
    refine WW.ec (y := K t) (c7) ?_
    refine e_iconst dX2_readOne_4 rfl kc_1 ?_
    refine e_icmp_eq (tgt := 16) dX2_readOne_5 (by decide) (fun h5 => ?_) (fun h5 => ?_)
    · omega
    · refine e_aload0 dX2_readOne_8 ?_
      refine e_getI fl_X2_34 la_114 rfl dX2_readOne_9 ?_
      refine WW.ec (y := K t) (c7) ?_
      refine e_iconst dX2_readOne_12 rfl kc_2 ?_
      refine e_icmp_ne (tgt := 22) dX2_readOne_13 (by decide) (fun h13 => ?_) (fun h13 => ?_)
      · refine e_aload0 dX2_readOne_22 ?_
        refine e_getI fl_X2_34 la_114 rfl dX2_readOne_23 ?_
        refine WW.ec (y := K t) (c7) ?_
        refine e_bipush dX2_readOne_26 rfl kb_40 ?_
        refine e_icmp_eq (tgt := 46) dX2_readOne_28 (by decide) (fun h28 => ?_) (fun h28 => ?_)
        · omega
        · refine e_aload0 dX2_readOne_31 ?_
          refine e_getI fl_X2_34 la_114 rfl dX2_readOne_32 ?_
          refine WW.ec (y := K t) (c7) ?_
          refine e_bipush dX2_readOne_35 rfl kb_45 ?_
          refine e_icmp_eq (tgt := 46) dX2_readOne_37 (by decide) (fun h37 => ?_) (fun h37 => ?_)
          · omega
          · refine e_aload0 dX2_readOne_40 ?_
            refine e_iconst dX2_readOne_41 rfl kc_1 ?_
            refine e_cVGI (ct_X2_refuse (d := d - 1) (by omega)) cy_X2_refuse cv_X2_refuse ml_X2_152 la_114 rfl rfl rfl (rok (by omega) (by decide)) (Nat.le_of_ble_eq_true rfl) dX2_readOne_42 (fun x M1 hx => ?_)
            obtain ⟨rfl, rfl⟩ := hx
            refine e_zret dX2_readOne_45 (by decide) ?_
            exact ⟨_, rfl, out_ref hj (by decide) (by omega) hp.1 hp.2.1⟩
      · omega
theorem rd_all (hj : j < 4) (hN : N ≤ 300) (hK : ∀ t, N ≤ t → K t = 0) (hV : ∀ t, -1 ≤ V t ∧ V t ≤ 10000) : ∀ f, (C4 l w K V Pl j law N f ∧ C2 l w K V Pl j law N f ∧ C0 l w K V Pl j law N f) ∧ L3 l w K V Pl j law N f ∧ L1 l w K V Pl j law N f
  | 0 => ⟨⟨fun _ _ _ _ _ _ _ h => absurd rfl h, fun _ _ _ _ _ _ _ h => absurd rfl h, fun _ _ _ _ _ _ _ h => absurd rfl h⟩, fun _ _ _ _ _ _ _ _ _ _ _ h => absurd rfl h, fun _ _ _ _ _ _ _ _ _ _ _ h => absurd rfl h⟩
  | f + 1 => by
    have ih := rd_all hj hN hK hV f
    exact ⟨⟨one_all hj hN hK hV ih.1.1 ih.1.2.2, prod_all hj hK ih.1.1 ih.2.1, sum_all hj hK ih.1.2.1 ih.2.2⟩, prod_loop hj hN hK ih.1.1 ih.2.1, sum_loop hj hN hK ih.1.2.1 ih.2.2⟩
end DESCENT2
