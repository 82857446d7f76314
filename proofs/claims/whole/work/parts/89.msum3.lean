/-! THE MODEL'S SUMS: faults, goesOn -/
/-- it went wrong at token t -/
def ER (B : Nat → Int) (L : Nat) (M1 : Mem) (f : Int) (t : Nat) : Prop := M1 134 19 = f ∧ M1 134 20 = tkP B L t
theorem erM_er {B : Nat → Int} {L t : Nat} {M : Mem} {f : Int} (h : CT B L M t) : ER B L (erM M f) f t := by
  unfold erM
  exact ⟨by rw [up_k (by decide), up_s], by rw [up_s]; exact h.1⟩
section MSUM3
variable {l : Launch} {w : Wd} {d : Nat} {M : Mem} {Q : Option MV → Mem → Prop} {B : Nat → Int} {L t o : Nat} {x : Int} {fr : List Int} {W P R E : List (Int × Int)}
theorem ct_opensSign_err {f : Int} (hd : 1 ≤ d) (h21 : M 134 21 = 8) (h19 : M 134 19 = 0) : GI l w yX9_opensSign cX9_opensSign 2 .boolean d [vR 134, vI f] M (fun _ M1 => M1 = erM M 3) := by
  refine MT.of [some (vR 134), some (vI f)] ⟨by decide, rfl⟩ rfl (Nat.le_of_ble_eq_true rfl) (fun hA hM => ?_)
  refine e_aload0 dX9_opensSign_0 ?_
  refine e_getI fl_X9_209 la_134 rfl dX9_opensSign_1 ?_
  refine e_bipush dX9_opensSign_4 rfl kb_8 ?_
  refine e_icmp_ne (tgt := 16) dX9_opensSign_6 (by decide) (fun h6 => ?_) (fun h6 => ?_)
  · omega
  · refine e_aload0 dX9_opensSign_9 ?_
    refine e_iconst dX9_opensSign_10 rfl kc_3 ?_
    refine e_cVV (ct_X9_errs0 (d := d - 1) h19) cy_X9_errs cv_X9_errs ml_X9_212 la_134 rfl rfl rfl (rok (by omega) (by decide)) (Nat.le_of_ble_eq_true rfl) dX9_opensSign_11 ?_
    refine e_iconst dX9_opensSign_14 rfl kc_0 ?_
    refine e_zret dX9_opensSign_15 (by decide) ?_
    exact ⟨_, rfl, rfl⟩
theorem ct_begins_err {law f : Int} (hd : 5 ≤ d) (hm : MS B L M t fr W E o) (h29 : M 134 29 = law) (hc : ((tkK B L t = 1 ∨ tkK B L t = 2) ∧ f = (lf (tkK B L) (tkV B L) law t).1 ∧ f ≠ 0) ∨ (¬ (tkK B L t = 1 ∨ tkK B L t = 2) ∧ ¬ (tkK B L t = 40 ∨ tkK B L t = 45) ∧ f = 1) ∨ ((tkK B L t = 40 ∨ tkK B L t = 45) ∧ o = 8 ∧ f = 3)) :
    GV l w yX9_begins cX9_begins 2 d [vR 134] M (fun M1 => FS M M1 ∧ ER B L M1 f t) := by
  obtain ⟨hct, hmb, hac⟩ := hm
  have htk := hct.2.1
  have h19 := hmb.2.1.1
  have h21 := hmb.2.1.2.2
  have er := erM_er (f := f) hct
  have fs : FS M (erM M f) := (FS.rf M).er
  rcases hc with ⟨hk, hf, hf0⟩ | ⟨hk, hk2, rfl⟩ | ⟨hk, ho, rfl⟩
  · rcases hk with k1 | k2
    · have hV : 9999 < tkV B L t ∧ f = 2 := by
        unfold lf at hf
        rw [if_neg (by omega)] at hf
        by_cases z : 9999 < tkV B L t
        · rw [if_pos z] at hf; exact ⟨z, hf⟩
        · rw [if_neg z] at hf; exact absurd hf hf0
      have hs : M 134 17 = 2 ∧ 9999 < M 134 18 := by
        rcases htk with q | q | q | q | q
        · omega
        · exact ⟨q.2.1, by omega⟩
        · omega
        · have := q.1; omega
        · omega
      clear htk
      obtain ⟨_, rfl⟩ := hV
      refine MT.of [some (vR 134), none] ⟨by decide, rfl⟩ rfl (Nat.le_of_ble_eq_true rfl) (fun hA hM => ?_)
      refine e_aload0 dX9_begins_0 ?_
      refine e_getI fl_X9_180 la_134 rfl dX9_begins_1 ?_
      refine WW.ec (y := 2) (hs.1) ?_
      refine e_iconst dX9_begins_4 rfl kc_2 ?_
      refine e_icmp_ne (tgt := 46) dX9_begins_5 (by decide) (fun h => absurd h (fun z => z rfl)) (fun h5 => ?_)
      refine e_aload0 dX9_begins_8 ?_
      refine e_getI fl_X9_193 la_134 rfl dX9_begins_9 ?_
      refine e_sipush dX9_begins_12 rfl ks_9999 ?_
      refine e_icmp_le (tgt := 24) dX9_begins_15 (by decide) (fun h => absurd h (by omega)) (fun h15 => ?_)
      refine e_aload0 dX9_begins_18 ?_
      refine e_iconst dX9_begins_19 rfl kc_2 ?_
      refine e_cVV (ct_X9_errs0 (d := d - 1) h19) cy_X9_errs cv_X9_errs ml_X9_212 la_134 rfl rfl rfl (rok (by omega) (by decide)) (Nat.le_of_ble_eq_true rfl) dX9_begins_20 ?_
      refine e_vret dX9_begins_23 ?_
      exact ⟨rfl, fs, er⟩
    · have hb := tkV_b (B := B) (L := L) t
      have hV := tkV_2 k2
      have hs : (M 134 17 = 1 ∧ M 134 18 = tkV B L t ∧ 0 ≤ tkV B L t) ∨ (M 134 17 = 4 ∧ tkV B L t = -1) := by
        rcases htk with q | q | q | q | q
        · omega
        · omega
        · omega
        · have := q.1; omega
        · omega
      clear htk
      unfold lf at hf
      rw [if_pos k2] at hf
      by_cases z : tkV B L t < 10 ∨ 18 ≤ tkV B L t
      · rw [if_pos z] at hf
        have hf1 : f = 1 := hf
        subst hf1
        refine MT.of [some (vR 134), none] ⟨by decide, rfl⟩ rfl (Nat.le_of_ble_eq_true rfl) (fun hA hM => ?_)
        refine e_aload0 dX9_begins_0 ?_
        refine e_getI fl_X9_180 la_134 rfl dX9_begins_1 ?_
        refine e_iconst dX9_begins_4 rfl kc_2 ?_
        refine e_icmp_ne (tgt := 46) dX9_begins_5 (by decide) (fun h5 => ?_) (fun h5 => ?_)
        · refine e_aload0 dX9_begins_46 ?_
          refine e_getI fl_X9_180 la_134 rfl dX9_begins_47 ?_
          refine e_iconst dX9_begins_50 rfl kc_1 ?_
          refine e_icmp_ne (tgt := 108) dX9_begins_51 (by decide) (fun h51 => ?_) (fun h51 => ?_)
          · refine e_aload0 dX9_begins_108 ?_
            refine e_bipush dX9_begins_109 rfl kb_40 ?_
            refine e_cVZ (ct_X9_isSign (d := d - 1)) cy_X9_isSign cv_X9_isSign ml_X9_240 la_134 rfl rfl rfl (rok (by omega) (by decide)) (Nat.le_of_ble_eq_true rfl) dX9_begins_111 (fun g111 => ?_) (fun g111 => ?_)
            · refine e_if_eq (tgt := 127) dX9_begins_114 (by decide) (fun h => absurd h (by decide)) (fun _ => ?_)
              have := g111.1; exfalso; omega
            · refine e_if_eq (tgt := 127) dX9_begins_114 (by decide) (fun _ => ?_) (fun h => absurd h (by decide))
              refine e_aload0 dX9_begins_127 ?_
              refine e_bipush dX9_begins_128 rfl kb_45 ?_
              refine e_cVZ (ct_X9_isSign (d := d - 1)) cy_X9_isSign cv_X9_isSign ml_X9_240 la_134 rfl rfl rfl (rok (by omega) (by decide)) (Nat.le_of_ble_eq_true rfl) dX9_begins_130 (fun g130 => ?_) (fun g130 => ?_)
              · refine e_if_eq (tgt := 146) dX9_begins_133 (by decide) (fun h => absurd h (by decide)) (fun _ => ?_)
                have := g130.1; exfalso; omega
              · refine e_if_eq (tgt := 146) dX9_begins_133 (by decide) (fun _ => ?_) (fun h => absurd h (by decide))
                refine e_aload0 dX9_begins_146 ?_
                refine e_iconst dX9_begins_147 rfl kc_1 ?_
                refine e_cVV (ct_X9_errs0 (d := d - 1) h19) cy_X9_errs cv_X9_errs ml_X9_212 la_134 rfl rfl rfl (rok (by omega) (by decide)) (Nat.le_of_ble_eq_true rfl) dX9_begins_148 ?_
                refine e_vret dX9_begins_151 ?_
                exact ⟨rfl, fs, er⟩
          · refine e_aload0 dX9_begins_54 ?_
            refine e_getI fl_X9_193 la_134 rfl dX9_begins_55 ?_
            refine e_bipush dX9_begins_58 rfl kb_10 ?_
            refine e_icmp_lt (tgt := 108) dX9_begins_60 (by decide) (fun h60 => ?_) (fun h60 => ?_)
            · refine e_aload0 dX9_begins_108 ?_
              refine e_bipush dX9_begins_109 rfl kb_40 ?_
              refine e_cVZ (ct_X9_isSign (d := d - 1)) cy_X9_isSign cv_X9_isSign ml_X9_240 la_134 rfl rfl rfl (rok (by omega) (by decide)) (Nat.le_of_ble_eq_true rfl) dX9_begins_111 (fun g111 => ?_) (fun g111 => ?_)
              · refine e_if_eq (tgt := 127) dX9_begins_114 (by decide) (fun h => absurd h (by decide)) (fun _ => ?_)
                have := g111.1; exfalso; omega
              · refine e_if_eq (tgt := 127) dX9_begins_114 (by decide) (fun _ => ?_) (fun h => absurd h (by decide))
                refine e_aload0 dX9_begins_127 ?_
                refine e_bipush dX9_begins_128 rfl kb_45 ?_
                refine e_cVZ (ct_X9_isSign (d := d - 1)) cy_X9_isSign cv_X9_isSign ml_X9_240 la_134 rfl rfl rfl (rok (by omega) (by decide)) (Nat.le_of_ble_eq_true rfl) dX9_begins_130 (fun g130 => ?_) (fun g130 => ?_)
                · refine e_if_eq (tgt := 146) dX9_begins_133 (by decide) (fun h => absurd h (by decide)) (fun _ => ?_)
                  have := g130.1; exfalso; omega
                · refine e_if_eq (tgt := 146) dX9_begins_133 (by decide) (fun _ => ?_) (fun h => absurd h (by decide))
                  refine e_aload0 dX9_begins_146 ?_
                  refine e_iconst dX9_begins_147 rfl kc_1 ?_
                  refine e_cVV (ct_X9_errs0 (d := d - 1) h19) cy_X9_errs cv_X9_errs ml_X9_212 la_134 rfl rfl rfl (rok (by omega) (by decide)) (Nat.le_of_ble_eq_true rfl) dX9_begins_148 ?_
                  refine e_vret dX9_begins_151 ?_
                  exact ⟨rfl, fs, er⟩
            · exfalso; omega
        · exfalso; omega
      · rw [if_neg z] at hf
        by_cases y : 16 ≤ tkV B L t ∧ law ≠ 0
        · rw [if_pos y] at hf
          have hf1 : f = 5 := hf
          subst hf1
          have hs1 : M 134 17 = 1 ∧ M 134 18 = tkV B L t := by omega
          refine MT.of [some (vR 134), none] ⟨by decide, rfl⟩ rfl (Nat.le_of_ble_eq_true rfl) (fun hA hM => ?_)
          refine e_aload0 dX9_begins_0 ?_
          refine e_getI fl_X9_180 la_134 rfl dX9_begins_1 ?_
          refine WW.ec (y := 1) (hs1.1) ?_
          refine e_iconst dX9_begins_4 rfl kc_2 ?_
          refine e_icmp_ne (tgt := 46) dX9_begins_5 (by decide) (fun h5 => ?_) (fun h => absurd h (by decide))
          refine e_aload0 dX9_begins_46 ?_
          refine e_getI fl_X9_180 la_134 rfl dX9_begins_47 ?_
          refine WW.ec (y := 1) (hs1.1) ?_
          refine e_iconst dX9_begins_50 rfl kc_1 ?_
          refine e_icmp_ne (tgt := 108) dX9_begins_51 (by decide) (fun h => absurd h (fun z => z rfl)) (fun h51 => ?_)
          refine e_aload0 dX9_begins_54 ?_
          refine e_getI fl_X9_193 la_134 rfl dX9_begins_55 ?_
          refine WW.ec (y := tkV B L t) (hs1.2) ?_
          refine e_bipush dX9_begins_58 rfl kb_10 ?_
          refine e_icmp_lt (tgt := 108) dX9_begins_60 (by decide) (fun h => absurd h (by omega)) (fun h60 => ?_)
          refine e_aload0 dX9_begins_63 ?_
          refine e_getI fl_X9_193 la_134 rfl dX9_begins_64 ?_
          refine WW.ec (y := tkV B L t) (hs1.2) ?_
          refine e_bipush dX9_begins_67 rfl kb_10 ?_
          refine e_isub dX9_begins_69 (⟨by omega, by omega⟩) ?_
          refine e_istore1 dX9_begins_70 rfl ?_
          refine e_iload1 dX9_begins_71 ?_
          refine e_iconst dX9_begins_72 rfl kc_5 ?_
          refine e_icmp_le (tgt := 89) dX9_begins_73 (by decide) (fun h => absurd h (by omega)) (fun h73 => ?_)
          refine e_aload0 dX9_begins_76 ?_
          refine e_getI fl_X9_237 la_134 rfl dX9_begins_77 ?_
          refine WW.ec (y := law) (h29) ?_
          refine e_if_eq (tgt := 89) dX9_begins_80 (by decide) (fun h => absurd h (by omega)) (fun h80 => ?_)
          refine e_aload0 dX9_begins_83 ?_
          refine e_iconst dX9_begins_84 rfl kc_5 ?_
          refine e_cVV (ct_X9_errs0 (d := d - 1) h19) cy_X9_errs cv_X9_errs ml_X9_212 la_134 rfl rfl rfl (rok (by omega) (by decide)) (Nat.le_of_ble_eq_true rfl) dX9_begins_85 ?_
          refine e_vret dX9_begins_88 ?_
          exact ⟨rfl, fs, er⟩
        · rw [if_neg y] at hf
          exact absurd hf hf0
  · have hs : M 134 17 ≠ 2 ∧ M 134 17 ≠ 1 ∧ ¬ (M 134 17 = 3 ∧ M 134 18 = 40) ∧ ¬ (M 134 17 = 3 ∧ M 134 18 = 45) := by
      rcases htk with q | q | q | q | q
      · omega
      · omega
      · omega
      · have := q.2; omega
      · have := q.2; omega
    clear htk
    refine MT.of [some (vR 134), none] ⟨by decide, rfl⟩ rfl (Nat.le_of_ble_eq_true rfl) (fun hA hM => ?_)
    refine e_aload0 dX9_begins_0 ?_
    refine e_getI fl_X9_180 la_134 rfl dX9_begins_1 ?_
    refine e_iconst dX9_begins_4 rfl kc_2 ?_
    refine e_icmp_ne (tgt := 46) dX9_begins_5 (by decide) (fun h5 => ?_) (fun h5 => ?_)
    · refine e_aload0 dX9_begins_46 ?_
      refine e_getI fl_X9_180 la_134 rfl dX9_begins_47 ?_
      refine e_iconst dX9_begins_50 rfl kc_1 ?_
      refine e_icmp_ne (tgt := 108) dX9_begins_51 (by decide) (fun h51 => ?_) (fun h51 => ?_)
      · refine e_aload0 dX9_begins_108 ?_
        refine e_bipush dX9_begins_109 rfl kb_40 ?_
        refine e_cVZ (ct_X9_isSign (d := d - 1)) cy_X9_isSign cv_X9_isSign ml_X9_240 la_134 rfl rfl rfl (rok (by omega) (by decide)) (Nat.le_of_ble_eq_true rfl) dX9_begins_111 (fun g111 => ?_) (fun g111 => ?_)
        · refine e_if_eq (tgt := 127) dX9_begins_114 (by decide) (fun h => absurd h (by decide)) (fun _ => ?_)
          exact absurd g111 hs.2.2.1
        · refine e_if_eq (tgt := 127) dX9_begins_114 (by decide) (fun _ => ?_) (fun h => absurd h (by decide))
          refine e_aload0 dX9_begins_127 ?_
          refine e_bipush dX9_begins_128 rfl kb_45 ?_
          refine e_cVZ (ct_X9_isSign (d := d - 1)) cy_X9_isSign cv_X9_isSign ml_X9_240 la_134 rfl rfl rfl (rok (by omega) (by decide)) (Nat.le_of_ble_eq_true rfl) dX9_begins_130 (fun g130 => ?_) (fun g130 => ?_)
          · refine e_if_eq (tgt := 146) dX9_begins_133 (by decide) (fun h => absurd h (by decide)) (fun _ => ?_)
            exact absurd g130 hs.2.2.2
          · refine e_if_eq (tgt := 146) dX9_begins_133 (by decide) (fun _ => ?_) (fun h => absurd h (by decide))
            refine e_aload0 dX9_begins_146 ?_
            refine e_iconst dX9_begins_147 rfl kc_1 ?_
            refine e_cVV (ct_X9_errs0 (d := d - 1) h19) cy_X9_errs cv_X9_errs ml_X9_212 la_134 rfl rfl rfl (rok (by omega) (by decide)) (Nat.le_of_ble_eq_true rfl) dX9_begins_148 ?_
            refine e_vret dX9_begins_151 ?_
            exact ⟨rfl, fs, er⟩
      · exact absurd h51 hs.2.1
    · exact absurd h5 hs.1
  · have hs : M 134 17 = 3 ∧ M 134 18 = tkK B L t := by
      rcases htk with q | q | q | q | q
      · omega
      · omega
      · omega
      · exact ⟨q.2.1, q.2.2⟩
      · omega
    clear htk
    have hop := fun f : Int => ct_opensSign_err (l := l) (w := w) (d := d - 1) (M := M) (f := f) (by omega) (by rw [h21, ho]; rfl) h19
    refine MT.of [some (vR 134), none] ⟨by decide, rfl⟩ rfl (Nat.le_of_ble_eq_true rfl) (fun hA hM => ?_)
    refine e_aload0 dX9_begins_0 ?_
    refine e_getI fl_X9_180 la_134 rfl dX9_begins_1 ?_
    refine WW.ec (y := 3) (hs.1) ?_
    refine e_iconst dX9_begins_4 rfl kc_2 ?_
    refine e_icmp_ne (tgt := 46) dX9_begins_5 (by decide) (fun h5 => ?_) (fun h => absurd h (by decide))
    refine e_aload0 dX9_begins_46 ?_
    refine e_getI fl_X9_180 la_134 rfl dX9_begins_47 ?_
    refine WW.ec (y := 3) (hs.1) ?_
    refine e_iconst dX9_begins_50 rfl kc_1 ?_
    refine e_icmp_ne (tgt := 108) dX9_begins_51 (by decide) (fun h51 => ?_) (fun h => absurd h (by decide))
    refine e_aload0 dX9_begins_108 ?_
    refine e_bipush dX9_begins_109 rfl kb_40 ?_
    refine e_cVZ (ct_X9_isSign (d := d - 1)) cy_X9_isSign cv_X9_isSign ml_X9_240 la_134 rfl rfl rfl (rok (by omega) (by decide)) (Nat.le_of_ble_eq_true rfl) dX9_begins_111 (fun g111 => ?_) (fun g111 => ?_)
    · refine e_if_eq (tgt := 127) dX9_begins_114 (by decide) (fun h => absurd h (by decide)) (fun _ => ?_)
      refine e_aload0 dX9_begins_117 ?_
      refine e_bipush dX9_begins_118 rfl kb_6 ?_
      refine e_cVGI (hop 6) cy_X9_opensSign cv_X9_opensSign ml_X9_243 la_134 rfl rfl rfl (rok (by omega) (by decide)) (Nat.le_of_ble_eq_true rfl) dX9_begins_120 (fun x N hx => ?_)
      refine e_istore1 dX9_begins_123 rfl ?_
      refine e_goto (tgt := 151) dX9_begins_124 (by decide) ?_
      refine e_vret dX9_begins_151 ?_
      subst hx; exact ⟨rfl, fs, er⟩
    · refine e_if_eq (tgt := 127) dX9_begins_114 (by decide) (fun _ => ?_) (fun h => absurd h (by decide))
      refine e_aload0 dX9_begins_127 ?_
      refine e_bipush dX9_begins_128 rfl kb_45 ?_
      refine e_cVZ (ct_X9_isSign (d := d - 1)) cy_X9_isSign cv_X9_isSign ml_X9_240 la_134 rfl rfl rfl (rok (by omega) (by decide)) (Nat.le_of_ble_eq_true rfl) dX9_begins_130 (fun g130 => ?_) (fun g130 => ?_)
      · refine e_if_eq (tgt := 146) dX9_begins_133 (by decide) (fun h => absurd h (by decide)) (fun _ => ?_)
        refine e_aload0 dX9_begins_136 ?_
        refine e_bipush dX9_begins_137 rfl kb_7 ?_
        refine e_cVGI (hop 7) cy_X9_opensSign cv_X9_opensSign ml_X9_243 la_134 rfl rfl rfl (rok (by omega) (by decide)) (Nat.le_of_ble_eq_true rfl) dX9_begins_139 (fun x N hx => ?_)
        refine e_istore1 dX9_begins_142 rfl ?_
        refine e_goto (tgt := 151) dX9_begins_143 (by decide) ?_
        refine e_vret dX9_begins_151 ?_
        subst hx; exact ⟨rfl, fs, er⟩
      · refine e_if_eq (tgt := 146) dX9_begins_133 (by decide) (fun _ => ?_) (fun h => absurd h (by decide))
        rcases hk with k | k; exact absurd ⟨hs.1, hs.2.trans k⟩ g111; exact absurd ⟨hs.1, hs.2.trans k⟩ g130
/-- an operator waits -/
theorem ct_waitsFor {k : Int} (hd : 5 ≤ d) (hL : L ≤ 300) (ht : t ≤ 300) (hm : MS B L M t fr (P ++ R) E o) (k0 : tkK B L t ≠ 0) (k3 : tkK B L t ≠ 3) (hP : ∀ x ∈ P, x.2 = (fr.length : Int) ∧ rk k ≤ rk x.1) (hR : ∀ x, R.head? = some x → ¬ (x.2 = fr.length ∧ rk k ≤ rk x.1)) (hp4 : P.length ≤ 4) (hr : R.length ≤ 70) :
    GV l w yX9_waitsFor cX9_waitsFor 2 d [vR 134, vI k] M (fun M1 => FS M M1 ∧ M1 134 27 = M 134 27 ∧ MS B L M1 (t + 1) fr ((k, (fr.length : Int)) :: R) (E ++ P.map (fun x => (x.1, 0))) o) := by
  obtain ⟨hct, hmb, hac⟩ := hm
  have hnx := hct.2.2 k0 k3
  have hlen : (P ++ R).length = P.length + R.length := List.length_append
  have hwk := ct_X9_works (l := l) (w := w) (d := d - 1) (M := M) (r := rk k) (D := fr.length) (n := E.length) (by omega) hR hr hP hp4 hmb.2.2.1.1 hmb.2.2.2.1.1 hmb.2.2.2.1.2 hmb.2.2.2.2.1 (by omega)
  have hb1 := MB.wk P M E hmb
  have e24 := hb1.2.2.2.1.1
  have e22 := hb1.2.2.1.1
  have hb2 : MB B L (up (up (up (wkM P M) 147 R.length k) 148 R.length (fr.length : Int)) 134 24 ((R.length : Int) + 1)) fr ((k, (fr.length : Int)) :: R) (E ++ P.map (fun x => (x.1, 0))) o := by
    obtain ⟨h1, h2, h3, h4, h5⟩ := hb1
    refine ⟨⟨by rw [up_k (by omega), up_o (by decide), up_o (by decide)]; exact h1.1, by rw [up_row (by decide), up_row (by decide), up_row (by decide)]; exact h1.2⟩, ⟨by rw [up_k (by omega), up_o (by decide), up_o (by decide)]; exact h2.1, by rw [up_k (by omega), up_o (by decide), up_o (by decide)]; exact h2.2.1, by rw [up_k (by omega), up_o (by decide), up_o (by decide)]; exact h2.2.2⟩, ⟨by rw [up_k (by omega), up_o (by decide), up_o (by decide)]; exact h3.1, frO_c (by rw [up_row (by decide), up_row (by decide), up_row (by decide)]) h3.2⟩, ⟨by rw [up_s]; rfl, ?_, ?_, ?_⟩, by rw [up_k (by omega), up_o (by decide), up_o (by decide)]; exact h5.1, fun i z hz => by rw [up_o (by decide), up_o (by decide), up_o (by decide), up_o (by decide), up_o (by decide), up_o (by decide)]; exact h5.2 i z hz⟩
    · rw [up_o (by decide), up_o (by decide), up_s]
    · rw [up_o (by decide), up_s]
    · exact wtO_c (M := up (up (wkM P M) 147 R.length k) 148 R.length (fr.length : Int)) (up_row (by decide)) (up_row (by decide)) (wtO_up8 (Nat.le_refl _) (wtO_up7 (Nat.le_refl _) h4.2))
  have kk : ∀ q, q ≠ 24 → q ≠ 35 → up (up (up (wkM P M) 147 R.length k) 148 R.length (fr.length : Int)) 134 24 ((R.length : Int) + 1) 134 q = M 134 q := fun q a b => by rw [up_k a, up_o (by decide), up_o (by decide), wkM_27 P M q a b]
  have hnxt := ct_X9_next (l := l) (w := w) (d := d - 1) (M := up (up (up (wkM P M) 147 R.length k) 148 R.length (fr.length : Int)) 134 24 ((R.length : Int) + 1)) (B := B) (L := L) (t := t + 1) (by omega) hL hb2.1.2 hb2.1.1 (by
    obtain ⟨a, n, q1, q2⟩ := hnx
    exact ⟨a, n, by rw [kk 15 (by decide) (by decide)]; exact q1, q2⟩)
  have hfs : FS M (up (up (up (wkM P M) 147 R.length k) 148 R.length (fr.length : Int)) 134 24 ((R.length : Int) + 1)) := (((FS.wk P M (FS.rf M)).uo (by omega)).uo (by omega)).u (by omega)
  refine MT.of [some (vR 134), some (vI k)] ⟨by decide, rfl⟩ rfl (Nat.le_of_ble_eq_true rfl) (fun hA hM => ?_)
  refine e_aload0 dX9_waitsFor_0 ?_
  refine e_iload1 dX9_waitsFor_1 ?_
  refine e_cSI (ct_X9_rank (d := d - 1)) cy_X9_rank cs_X9_rank ml_X9_224 rfl rfl (rok (by omega) (by decide)) (Nat.le_of_ble_eq_true rfl) dX9_waitsFor_2 ?_
  refine e_cVV (hwk) cy_X9_works cv_X9_works ml_X9_231 la_134 rfl rfl rfl (rok (by omega) (by decide)) (Nat.le_of_ble_eq_true rfl) dX9_waitsFor_5 ?_
  refine e_aload0 dX9_waitsFor_8 ?_
  refine e_getR fl_X9_54 la_134 rfl dX9_waitsFor_9 ?_
  refine e_aload0 dX9_waitsFor_12 ?_
  refine e_getI fl_X9_221 la_134 rfl dX9_waitsFor_13 ?_
  refine WW.ec (y := (R.length : Int)) (e24) ?_
  refine e_iload1 dX9_waitsFor_16 ?_
  refine e_iastK (k := R.length) la_147 (by omega) (by omega) dX9_waitsFor_17 ?_
  refine e_aload0 dX9_waitsFor_18 ?_
  refine e_getR fl_X9_57 la_134 rfl dX9_waitsFor_19 ?_
  refine e_aload0 dX9_waitsFor_22 ?_
  refine e_getI fl_X9_221 la_134 rfl dX9_waitsFor_23 ?_
  refine WW.ec (y := (R.length : Int)) (by rw [up_o (by decide)]; exact e24) ?_
  refine e_aload0 dX9_waitsFor_26 ?_
  refine e_getI fl_X9_206 la_134 rfl dX9_waitsFor_27 ?_
  refine WW.ec (y := (fr.length : Int)) (by rw [up_o (by decide)]; exact e22) ?_
  refine e_iastK (k := R.length) la_148 (by omega) (by omega) dX9_waitsFor_30 ?_
  refine e_aload0 dX9_waitsFor_31 ?_
  refine e_dup dX9_waitsFor_32 rfl ?_
  refine e_getI fl_X9_221 la_134 rfl dX9_waitsFor_33 ?_
  refine WW.ec (y := (R.length : Int)) (by rw [up_o (by decide), up_o (by decide)]; exact e24) ?_
  refine e_iconst dX9_waitsFor_36 rfl kc_1 ?_
  refine e_iadd dX9_waitsFor_37 (⟨by omega, by omega⟩) ?_
  refine e_putI fp_X9_221 la_134 rfl dX9_waitsFor_38 ?_
  refine e_aload0 dX9_waitsFor_41 ?_
  refine e_cVGV (hnxt) cy_X9_next cv_X9_next ml_X9_218 la_134 rfl rfl rfl (rok (by omega) (by decide)) (Nat.le_of_ble_eq_true rfl) dX9_waitsFor_42 (fun N hx => ?_)
  refine e_vret dX9_waitsFor_45 ?_
  refine ⟨rfl, hfs.tr hx.1.fs, by rw [hx.1.2 27 (by decide), kk 27 (by decide) (by decide)], hx.2, hb2.fn hx.1, ?_⟩
  rw [List.length_append, List.length_map, List.length_cons]
  omega
theorem ct_goesOn_op (hd : 6 ≤ d) (hL : L ≤ 300) (ht : t ≤ 300) (hm : MS B L M t (x :: fr) (P ++ R) E o) (hfl : fr.length < 39) (hk : tkK B L t = 43 ∨ tkK B L t = 45 ∨ tkK B L t = 42 ∨ tkK B L t = 47) (hP : ∀ y ∈ P, y.2 = ((x :: fr).length : Int) ∧ rk (tkK B L t) ≤ rk y.1) (hR : ∀ y, R.head? = some y → ¬ (y.2 = (x :: fr).length ∧ rk (tkK B L t) ≤ rk y.1)) (hp4 : P.length ≤ 4) (hr : R.length ≤ 70) :
    GV l w yX9_goesOn cX9_goesOn 2 d [vR 134] M (fun M1 => FS M M1 ∧ M1 134 27 = 1 ∧ MS B L M1 (t + 1) (x :: fr) ((tkK B L t, ((x :: fr).length : Int)) :: R) (E ++ P.map (fun x => (x.1, 0))) o) := by
  have htk := hm.1.2.1
  have hs : M 134 17 = 3 ∧ M 134 18 = tkK B L t := by
    rcases htk with q | q | q | q | q
    · omega
    · omega
    · omega
    · exact ⟨q.2.1, q.2.2⟩
    · omega
  clear htk
  have htop := ct_X9_top (l := l) (w := w) (d := d - 1) (M := M) hm.2.1.2.2.1.1 hm.2.1.2.2.1.2 (by omega)
  have hwf := ct_waitsFor (l := l) (w := w) (d := d - 1) (k := tkK B L t) (by omega) hL ht hm (by omega) (by omega) hP hR hp4 hr
  refine MT.of [some (vR 134), none] ⟨by decide, rfl⟩ rfl (Nat.le_of_ble_eq_true rfl) (fun hA hM => ?_)
  refine e_aload0 dX9_goesOn_0 ?_
  refine e_cVI (htop) cy_X9_top cv_X9_top ml_X9_246 la_134 rfl rfl rfl (rok (by omega) (by decide)) (Nat.le_of_ble_eq_true rfl) dX9_goesOn_1 ?_
  refine e_istore1 dX9_goesOn_4 rfl ?_
  refine e_aload0 dX9_goesOn_5 ?_
  refine e_getI fl_X9_180 la_134 rfl dX9_goesOn_6 ?_
  refine WW.ec (y := 3) (hs.1) ?_
  refine e_iconst dX9_goesOn_9 rfl kc_3 ?_
  refine e_icmp_ne (tgt := 65) dX9_goesOn_10 (by decide) (fun h => absurd h (fun z => z rfl)) (fun h10 => ?_)
  refine e_aload0 dX9_goesOn_13 ?_
  refine e_getI fl_X9_193 la_134 rfl dX9_goesOn_14 ?_
  refine WW.ec (y := tkK B L t) (hs.2) ?_
  refine e_bipush dX9_goesOn_17 rfl kb_43 ?_
  refine e_icmp_eq (tgt := 49) dX9_goesOn_19 (by decide) (fun h19 => ?_) (fun h19 => ?_)
  · refine e_aload0 dX9_goesOn_49 ?_
    refine e_aload0 dX9_goesOn_50 ?_
    refine e_getI fl_X9_193 la_134 rfl dX9_goesOn_51 ?_
    refine WW.ec (y := tkK B L t) (hs.2) ?_
    refine e_cVGV (hwf) cy_X9_waitsFor cv_X9_waitsFor ml_X9_253 la_134 rfl rfl rfl (rok (by omega) (by decide)) (Nat.le_of_ble_eq_true rfl) dX9_goesOn_54 (fun N hx => ?_)
    obtain ⟨a, b, c, e, f⟩ := hx
    refine e_aload0 dX9_goesOn_57 ?_
    refine e_iconst dX9_goesOn_58 rfl kc_1 ?_
    refine e_putI fp_X9_250 la_134 rfl dX9_goesOn_59 ?_
    refine e_goto (tgt := 142) dX9_goesOn_62 (by decide) ?_
    refine e_vret dX9_goesOn_142 ?_
    exact ⟨rfl, a.u (by omega), up_s _ _ _ _, c.fr (fun k p q => up_k (by omega)), e.u (by omega), f⟩
  · refine e_aload0 dX9_goesOn_22 ?_
    refine e_getI fl_X9_193 la_134 rfl dX9_goesOn_23 ?_
    refine WW.ec (y := tkK B L t) (hs.2) ?_
    refine e_bipush dX9_goesOn_26 rfl kb_45 ?_
    refine e_icmp_eq (tgt := 49) dX9_goesOn_28 (by decide) (fun h28 => ?_) (fun h28 => ?_)
    · refine e_aload0 dX9_goesOn_49 ?_
      refine e_aload0 dX9_goesOn_50 ?_
      refine e_getI fl_X9_193 la_134 rfl dX9_goesOn_51 ?_
      refine WW.ec (y := tkK B L t) (hs.2) ?_
      refine e_cVGV (hwf) cy_X9_waitsFor cv_X9_waitsFor ml_X9_253 la_134 rfl rfl rfl (rok (by omega) (by decide)) (Nat.le_of_ble_eq_true rfl) dX9_goesOn_54 (fun N hx => ?_)
      obtain ⟨a, b, c, e, f⟩ := hx
      refine e_aload0 dX9_goesOn_57 ?_
      refine e_iconst dX9_goesOn_58 rfl kc_1 ?_
      refine e_putI fp_X9_250 la_134 rfl dX9_goesOn_59 ?_
      refine e_goto (tgt := 142) dX9_goesOn_62 (by decide) ?_
      refine e_vret dX9_goesOn_142 ?_
      exact ⟨rfl, a.u (by omega), up_s _ _ _ _, c.fr (fun k p q => up_k (by omega)), e.u (by omega), f⟩
    · refine e_aload0 dX9_goesOn_31 ?_
      refine e_getI fl_X9_193 la_134 rfl dX9_goesOn_32 ?_
      refine WW.ec (y := tkK B L t) (hs.2) ?_
      refine e_bipush dX9_goesOn_35 rfl kb_42 ?_
      refine e_icmp_eq (tgt := 49) dX9_goesOn_37 (by decide) (fun h37 => ?_) (fun h37 => ?_)
      · refine e_aload0 dX9_goesOn_49 ?_
        refine e_aload0 dX9_goesOn_50 ?_
        refine e_getI fl_X9_193 la_134 rfl dX9_goesOn_51 ?_
        refine WW.ec (y := tkK B L t) (hs.2) ?_
        refine e_cVGV (hwf) cy_X9_waitsFor cv_X9_waitsFor ml_X9_253 la_134 rfl rfl rfl (rok (by omega) (by decide)) (Nat.le_of_ble_eq_true rfl) dX9_goesOn_54 (fun N hx => ?_)
        obtain ⟨a, b, c, e, f⟩ := hx
        refine e_aload0 dX9_goesOn_57 ?_
        refine e_iconst dX9_goesOn_58 rfl kc_1 ?_
        refine e_putI fp_X9_250 la_134 rfl dX9_goesOn_59 ?_
        refine e_goto (tgt := 142) dX9_goesOn_62 (by decide) ?_
        refine e_vret dX9_goesOn_142 ?_
        exact ⟨rfl, a.u (by omega), up_s _ _ _ _, c.fr (fun k p q => up_k (by omega)), e.u (by omega), f⟩
      · refine e_aload0 dX9_goesOn_40 ?_
        refine e_getI fl_X9_193 la_134 rfl dX9_goesOn_41 ?_
        refine WW.ec (y := tkK B L t) (hs.2) ?_
        refine e_bipush dX9_goesOn_44 rfl kb_47 ?_
        refine e_icmp_ne (tgt := 65) dX9_goesOn_46 (by decide) (fun h46 => ?_) (fun h46 => ?_)
        · exfalso; omega
        · refine e_aload0 dX9_goesOn_49 ?_
          refine e_aload0 dX9_goesOn_50 ?_
          refine e_getI fl_X9_193 la_134 rfl dX9_goesOn_51 ?_
          refine WW.ec (y := tkK B L t) (hs.2) ?_
          refine e_cVGV (hwf) cy_X9_waitsFor cv_X9_waitsFor ml_X9_253 la_134 rfl rfl rfl (rok (by omega) (by decide)) (Nat.le_of_ble_eq_true rfl) dX9_goesOn_54 (fun N hx => ?_)
          obtain ⟨a, b, c, e, f⟩ := hx
          refine e_aload0 dX9_goesOn_57 ?_
          refine e_iconst dX9_goesOn_58 rfl kc_1 ?_
          refine e_putI fp_X9_250 la_134 rfl dX9_goesOn_59 ?_
          refine e_goto (tgt := 142) dX9_goesOn_62 (by decide) ?_
          refine e_vret dX9_goesOn_142 ?_
          exact ⟨rfl, a.u (by omega), up_s _ _ _ _, c.fr (fun k p q => up_k (by omega)), e.u (by omega), f⟩
theorem ct_goesOn_close (hd : 6 ≤ d) (hL : L ≤ 300) (ht : t ≤ 300) (hm : MS B L M t (6 :: fr) (P ++ R) E (o + 1)) (hb : hasB fr) (hfl : fr.length = o + 1) (ho : o ≤ 8) (hk : tkK B L t = 41) (hP : ∀ y ∈ P, y.2 = ((6 :: fr).length : Int)) (hR : ∀ y, R.head? = some y → y.2 ≠ (6 :: fr).length) (hp4 : P.length ≤ 4) (hr : R.length ≤ 70) :
    GV l w yX9_goesOn cX9_goesOn 2 d [vR 134] M (fun M1 => ∃ N, FS M N ∧ MS B L N (t + 1) fr R (E ++ P.map (fun x => (x.1, 0))) o ∧ M1 = ovF fr N) := by
  obtain ⟨hct, hmb, hac⟩ := hm
  have htk := hct.2.1
  have hs : M 134 17 = 3 ∧ M 134 18 = 41 := by
    rcases htk with q | q | q | q | q
    · omega
    · omega
    · omega
    · exact ⟨q.2.1, q.2.2.trans hk⟩
    · omega
  clear htk
  have hnx := hct.2.2 (by omega) (by omega)
  have hlen : (P ++ R).length = P.length + R.length := List.length_append
  have e6 : (6 :: fr : List Int).length = fr.length + 1 := rfl
  have rk3 : ∀ z : Int, 3 ≤ rk z := fun z => by unfold rk; split <;> omega
  have htop := ct_X9_top (l := l) (w := w) (d := d - 1) (M := M) hmb.2.2.1.1 hmb.2.2.1.2 (by omega)
  have hwk := ct_X9_works (l := l) (w := w) (d := d - 1) (M := M) (r := 3) (D := (6 :: fr : List Int).length) (n := E.length) (by omega) (fun y hy z => hR y hy z.1) hr (fun y hy => ⟨hP y hy, rk3 _⟩) hp4 hmb.2.2.1.1 hmb.2.2.2.1.1 hmb.2.2.2.1.2 hmb.2.2.2.2.1 (by omega)
  have hb1 := MB.wk P M E hmb
  have e22 := hb1.2.2.1.1
  have e21 := hb1.2.1.2.2
  have hb2 : MB B L (up (up (wkM P M) 134 22 (((fr.length + 1 : Nat) : Int) - 1)) 134 21 (((o + 1 : Nat) : Int) - 1)) fr R (E ++ P.map (fun x => (x.1, 0))) o := (hb1.pf (by omega)).o (by omega)
  have kk : ∀ q, q ≠ 24 → q ≠ 35 → q ≠ 22 → q ≠ 21 → up (up (wkM P M) 134 22 (((fr.length + 1 : Nat) : Int) - 1)) 134 21 (((o + 1 : Nat) : Int) - 1) 134 q = M 134 q := fun q a b c e => by rw [up_k e, up_k c, wkM_27 P M q a b]
  have hnxt := ct_X9_next (l := l) (w := w) (d := d - 1) (M := up (up (wkM P M) 134 22 (((fr.length + 1 : Nat) : Int) - 1)) 134 21 (((o + 1 : Nat) : Int) - 1)) (B := B) (L := L) (t := t + 1) (by omega) hL hb2.1.2 hb2.1.1 (by
    obtain ⟨a, n, q1, q2⟩ := hnx
    exact ⟨a, n, by rw [kk 15 (by decide) (by decide) (by decide) (by decide)]; exact q1, q2⟩)
  have hfs : FS M (up (up (wkM P M) 134 22 (((fr.length + 1 : Nat) : Int) - 1)) 134 21 (((o + 1 : Nat) : Int) - 1)) := ((FS.wk P M (FS.rf M)).u (by omega)).u (by omega)
  have el : (E ++ P.map (fun x => (x.1, (0 : Int)))).length = E.length + P.length := by rw [List.length_append, List.length_map]
  refine MT.of [some (vR 134), none] ⟨by decide, rfl⟩ rfl (Nat.le_of_ble_eq_true rfl) (fun hA hM => ?_)
  refine e_aload0 dX9_goesOn_0 ?_
  refine e_cVI (htop) cy_X9_top cv_X9_top ml_X9_246 la_134 rfl rfl rfl (rok (by omega) (by decide)) (Nat.le_of_ble_eq_true rfl) dX9_goesOn_1 ?_
  refine e_istore1 dX9_goesOn_4 rfl ?_
  refine e_aload0 dX9_goesOn_5 ?_
  refine e_getI fl_X9_180 la_134 rfl dX9_goesOn_6 ?_
  refine WW.ec (y := 3) (hs.1) ?_
  refine e_iconst dX9_goesOn_9 rfl kc_3 ?_
  refine e_icmp_ne (tgt := 65) dX9_goesOn_10 (by decide) (fun h => absurd h (fun z => z rfl)) (fun h10 => ?_)
  refine e_aload0 dX9_goesOn_13 ?_
  refine e_getI fl_X9_193 la_134 rfl dX9_goesOn_14 ?_
  refine WW.ec (y := 41) (hs.2) ?_
  refine e_bipush dX9_goesOn_17 rfl kb_43 ?_
  refine e_icmp_eq (tgt := 49) dX9_goesOn_19 (by decide) (fun h => absurd h (by decide)) (fun h19 => ?_)
  refine e_aload0 dX9_goesOn_22 ?_
  refine e_getI fl_X9_193 la_134 rfl dX9_goesOn_23 ?_
  refine WW.ec (y := 41) (hs.2) ?_
  refine e_bipush dX9_goesOn_26 rfl kb_45 ?_
  refine e_icmp_eq (tgt := 49) dX9_goesOn_28 (by decide) (fun h => absurd h (by decide)) (fun h28 => ?_)
  refine e_aload0 dX9_goesOn_31 ?_
  refine e_getI fl_X9_193 la_134 rfl dX9_goesOn_32 ?_
  refine WW.ec (y := 41) (hs.2) ?_
  refine e_bipush dX9_goesOn_35 rfl kb_42 ?_
  refine e_icmp_eq (tgt := 49) dX9_goesOn_37 (by decide) (fun h => absurd h (by decide)) (fun h37 => ?_)
  refine e_aload0 dX9_goesOn_40 ?_
  refine e_getI fl_X9_193 la_134 rfl dX9_goesOn_41 ?_
  refine WW.ec (y := 41) (hs.2) ?_
  refine e_bipush dX9_goesOn_44 rfl kb_47 ?_
  refine e_icmp_ne (tgt := 65) dX9_goesOn_46 (by decide) (fun h46 => ?_) (fun h => absurd h (by decide))
  refine e_iload1 dX9_goesOn_65 ?_
  refine e_bipush dX9_goesOn_66 rfl kb_6 ?_
  refine e_icmp_ne (tgt := 116) dX9_goesOn_68 (by decide) (fun h => absurd h (fun z => z rfl)) (fun h68 => ?_)
  refine e_aload0 dX9_goesOn_71 ?_
  refine e_bipush dX9_goesOn_72 rfl kb_41 ?_
  refine e_cVZ (ct_X9_isSign (d := d - 1)) cy_X9_isSign cv_X9_isSign ml_X9_240 la_134 rfl rfl rfl (rok (by omega) (by decide)) (Nat.le_of_ble_eq_true rfl) dX9_goesOn_74 (fun g74 => ?_) (fun g74 => ?_)
  · refine e_if_eq (tgt := 116) dX9_goesOn_77 (by decide) (fun h => absurd h (by decide)) (fun _ => ?_)
    refine e_aload0 dX9_goesOn_80 ?_
    refine e_iconst dX9_goesOn_81 rfl kc_3 ?_
    refine e_cVV (hwk) cy_X9_works cv_X9_works ml_X9_231 la_134 rfl rfl rfl (rok (by omega) (by decide)) (Nat.le_of_ble_eq_true rfl) dX9_goesOn_82 ?_
    refine e_aload0 dX9_goesOn_85 ?_
    refine e_dup dX9_goesOn_86 rfl ?_
    refine e_getI fl_X9_206 la_134 rfl dX9_goesOn_87 ?_
    refine WW.ec (y := ((fr.length + 1 : Nat) : Int)) (e22) ?_
    refine e_iconst dX9_goesOn_90 rfl kc_1 ?_
    refine e_isub dX9_goesOn_91 (⟨by omega, by omega⟩) ?_
    refine e_putI fp_X9_206 la_134 rfl dX9_goesOn_92 ?_
    refine e_aload0 dX9_goesOn_95 ?_
    refine e_dup dX9_goesOn_96 rfl ?_
    refine e_getI fl_X9_209 la_134 rfl dX9_goesOn_97 ?_
    refine WW.ec (y := ((o + 1 : Nat) : Int)) (by rw [up_k (by decide)]; exact e21) ?_
    refine e_iconst dX9_goesOn_100 rfl kc_1 ?_
    refine e_isub dX9_goesOn_101 (⟨by omega, by omega⟩) ?_
    refine e_putI fp_X9_209 la_134 rfl dX9_goesOn_102 ?_
    refine e_aload0 dX9_goesOn_105 ?_
    refine e_cVGV (hnxt) cy_X9_next cv_X9_next ml_X9_218 la_134 rfl rfl rfl (rok (by omega) (by decide)) (Nat.le_of_ble_eq_true rfl) dX9_goesOn_106 (fun N hx => ?_)
    have hb3 := hb2.fn hx.1
    refine e_aload0 dX9_goesOn_109 ?_
    refine e_cVV (ct_X9_oneIsOver (d := d - 1) (n := (E ++ P.map (fun x => (x.1, (0 : Int)))).length) (o := o) (by omega) hb (by omega) hb3.2.2.1.1 hb3.2.2.1.2 hb3.2.1.2.2 (by omega) (by omega) hb3.2.2.2.2.1 (by omega)) cy_X9_oneIsOver cv_X9_oneIsOver ml_X9_234 la_134 rfl rfl rfl (rok (by omega) (by decide)) (Nat.le_of_ble_eq_true rfl) dX9_goesOn_110 ?_
    refine e_goto (tgt := 142) dX9_goesOn_113 (by decide) ?_
    refine e_vret dX9_goesOn_142 ?_
    exact ⟨rfl, N, hfs.tr hx.1.fs, ⟨hx.2, hb3, by omega⟩, rfl⟩
  · refine e_if_eq (tgt := 116) dX9_goesOn_77 (by decide) (fun _ => ?_) (fun h => absurd h (by decide))
    exact absurd hs g74
theorem ct_goesOn_err (hd : 6 ≤ d) (hm : MS B L M t (x :: fr) W E o) (hfl : fr.length < 39) (hk : ¬ (tkK B L t = 43 ∨ tkK B L t = 45 ∨ tkK B L t = 42 ∨ tkK B L t = 47)) (hk2 : ¬ (x = 6 ∧ tkK B L t = 41)) (hk3 : ¬ (x = 1 ∧ tkK B L t = 59)) :
    GV l w yX9_goesOn cX9_goesOn 2 d [vR 134] M (fun M1 => FS M M1 ∧ ER B L M1 1 t) := by
  have htk := hm.1.2.1
  have hw19 := hm.2.1.2.1.1
  have er := erM_er (f := 1) hm.1
  have fs : FS M (erM M 1) := (FS.rf M).er
  have hs : ¬ (M 134 17 = 3 ∧ (M 134 18 = 43 ∨ M 134 18 = 45 ∨ M 134 18 = 42 ∨ M 134 18 = 47)) ∧ (M 134 17 = 3 ∧ M 134 18 = 41 → tkK B L t = 41) ∧ (M 134 17 = 3 ∧ M 134 18 = 59 → tkK B L t = 59) := by
    rcases htk with q | q | q | q | q
    · omega
    · omega
    · omega
    · have := q.2; omega
    · have := q.2; omega
  clear htk
  have htop := ct_X9_top (l := l) (w := w) (d := d - 1) (M := M) hm.2.1.2.2.1.1 hm.2.1.2.2.1.2 (by omega)
  refine MT.of [some (vR 134), none] ⟨by decide, rfl⟩ rfl (Nat.le_of_ble_eq_true rfl) (fun hA hM => ?_)
  refine e_aload0 dX9_goesOn_0 ?_
  refine e_cVI (htop) cy_X9_top cv_X9_top ml_X9_246 la_134 rfl rfl rfl (rok (by omega) (by decide)) (Nat.le_of_ble_eq_true rfl) dX9_goesOn_1 ?_
  refine e_istore1 dX9_goesOn_4 rfl ?_
  refine e_aload0 dX9_goesOn_5 ?_
  refine e_getI fl_X9_180 la_134 rfl dX9_goesOn_6 ?_
  refine e_iconst dX9_goesOn_9 rfl kc_3 ?_
  refine e_icmp_ne (tgt := 65) dX9_goesOn_10 (by decide) (fun h10 => ?_) (fun h10 => ?_)
  · refine e_iload1 dX9_goesOn_65 ?_
    refine e_bipush dX9_goesOn_66 rfl kb_6 ?_
    refine e_icmp_ne (tgt := 116) dX9_goesOn_68 (by decide) (fun h68 => ?_) (fun h68 => ?_)
    · refine e_iload1 dX9_goesOn_116 ?_
      refine e_iconst dX9_goesOn_117 rfl kc_1 ?_
      refine e_icmp_ne (tgt := 137) dX9_goesOn_118 (by decide) (fun h118 => ?_) (fun h118 => ?_)
      · refine e_aload0 dX9_goesOn_137 ?_
        refine e_iconst dX9_goesOn_138 rfl kc_1 ?_
        refine e_cVV (ct_X9_errs0 (d := d - 1) hw19) cy_X9_errs cv_X9_errs ml_X9_212 la_134 rfl rfl rfl (rok (by omega) (by decide)) (Nat.le_of_ble_eq_true rfl) dX9_goesOn_139 ?_
        refine e_vret dX9_goesOn_142 ?_
        exact ⟨rfl, fs, er⟩
      · refine e_aload0 dX9_goesOn_121 ?_
        refine e_bipush dX9_goesOn_122 rfl kb_59 ?_
        refine e_cVZ (ct_X9_isSign (d := d - 1)) cy_X9_isSign cv_X9_isSign ml_X9_240 la_134 rfl rfl rfl (rok (by omega) (by decide)) (Nat.le_of_ble_eq_true rfl) dX9_goesOn_124 (fun g124 => ?_) (fun g124 => ?_)
        · refine e_if_eq (tgt := 137) dX9_goesOn_127 (by decide) (fun h => absurd h (by decide)) (fun _ => ?_)
          exact absurd ⟨h118, hs.2.2 g124⟩ hk3
        · refine e_if_eq (tgt := 137) dX9_goesOn_127 (by decide) (fun _ => ?_) (fun h => absurd h (by decide))
          refine e_aload0 dX9_goesOn_137 ?_
          refine e_iconst dX9_goesOn_138 rfl kc_1 ?_
          refine e_cVV (ct_X9_errs0 (d := d - 1) hw19) cy_X9_errs cv_X9_errs ml_X9_212 la_134 rfl rfl rfl (rok (by omega) (by decide)) (Nat.le_of_ble_eq_true rfl) dX9_goesOn_139 ?_
          refine e_vret dX9_goesOn_142 ?_
          exact ⟨rfl, fs, er⟩
    · refine e_aload0 dX9_goesOn_71 ?_
      refine e_bipush dX9_goesOn_72 rfl kb_41 ?_
      refine e_cVZ (ct_X9_isSign (d := d - 1)) cy_X9_isSign cv_X9_isSign ml_X9_240 la_134 rfl rfl rfl (rok (by omega) (by decide)) (Nat.le_of_ble_eq_true rfl) dX9_goesOn_74 (fun g74 => ?_) (fun g74 => ?_)
      · refine e_if_eq (tgt := 116) dX9_goesOn_77 (by decide) (fun h => absurd h (by decide)) (fun _ => ?_)
        exact absurd ⟨h68, hs.2.1 g74⟩ hk2
      · refine e_if_eq (tgt := 116) dX9_goesOn_77 (by decide) (fun _ => ?_) (fun h => absurd h (by decide))
        refine e_iload1 dX9_goesOn_116 ?_
        refine e_iconst dX9_goesOn_117 rfl kc_1 ?_
        refine e_icmp_ne (tgt := 137) dX9_goesOn_118 (by decide) (fun h118 => ?_) (fun h118 => ?_)
        · refine e_aload0 dX9_goesOn_137 ?_
          refine e_iconst dX9_goesOn_138 rfl kc_1 ?_
          refine e_cVV (ct_X9_errs0 (d := d - 1) hw19) cy_X9_errs cv_X9_errs ml_X9_212 la_134 rfl rfl rfl (rok (by omega) (by decide)) (Nat.le_of_ble_eq_true rfl) dX9_goesOn_139 ?_
          refine e_vret dX9_goesOn_142 ?_
          exact ⟨rfl, fs, er⟩
        · refine e_aload0 dX9_goesOn_121 ?_
          refine e_bipush dX9_goesOn_122 rfl kb_59 ?_
          refine e_cVZ (ct_X9_isSign (d := d - 1)) cy_X9_isSign cv_X9_isSign ml_X9_240 la_134 rfl rfl rfl (rok (by omega) (by decide)) (Nat.le_of_ble_eq_true rfl) dX9_goesOn_124 (fun g124 => ?_) (fun g124 => ?_)
          · refine e_if_eq (tgt := 137) dX9_goesOn_127 (by decide) (fun h => absurd h (by decide)) (fun _ => ?_)
            exact absurd ⟨h118, hs.2.2 g124⟩ hk3
          · refine e_if_eq (tgt := 137) dX9_goesOn_127 (by decide) (fun _ => ?_) (fun h => absurd h (by decide))
            refine e_aload0 dX9_goesOn_137 ?_
            refine e_iconst dX9_goesOn_138 rfl kc_1 ?_
            refine e_cVV (ct_X9_errs0 (d := d - 1) hw19) cy_X9_errs cv_X9_errs ml_X9_212 la_134 rfl rfl rfl (rok (by omega) (by decide)) (Nat.le_of_ble_eq_true rfl) dX9_goesOn_139 ?_
            refine e_vret dX9_goesOn_142 ?_
            exact ⟨rfl, fs, er⟩
  · refine e_aload0 dX9_goesOn_13 ?_
    refine e_getI fl_X9_193 la_134 rfl dX9_goesOn_14 ?_
    refine e_bipush dX9_goesOn_17 rfl kb_43 ?_
    refine e_icmp_eq (tgt := 49) dX9_goesOn_19 (by decide) (fun h19 => ?_) (fun h19 => ?_)
    · exact absurd ⟨h10, by omega⟩ hs.1
    · refine e_aload0 dX9_goesOn_22 ?_
      refine e_getI fl_X9_193 la_134 rfl dX9_goesOn_23 ?_
      refine e_bipush dX9_goesOn_26 rfl kb_45 ?_
      refine e_icmp_eq (tgt := 49) dX9_goesOn_28 (by decide) (fun h28 => ?_) (fun h28 => ?_)
      · exact absurd ⟨h10, by omega⟩ hs.1
      · refine e_aload0 dX9_goesOn_31 ?_
        refine e_getI fl_X9_193 la_134 rfl dX9_goesOn_32 ?_
        refine e_bipush dX9_goesOn_35 rfl kb_42 ?_
        refine e_icmp_eq (tgt := 49) dX9_goesOn_37 (by decide) (fun h37 => ?_) (fun h37 => ?_)
        · exact absurd ⟨h10, by omega⟩ hs.1
        · refine e_aload0 dX9_goesOn_40 ?_
          refine e_getI fl_X9_193 la_134 rfl dX9_goesOn_41 ?_
          refine e_bipush dX9_goesOn_44 rfl kb_47 ?_
          refine e_icmp_ne (tgt := 65) dX9_goesOn_46 (by decide) (fun h46 => ?_) (fun h46 => ?_)
          · refine e_iload1 dX9_goesOn_65 ?_
            refine e_bipush dX9_goesOn_66 rfl kb_6 ?_
            refine e_icmp_ne (tgt := 116) dX9_goesOn_68 (by decide) (fun h68 => ?_) (fun h68 => ?_)
            · refine e_iload1 dX9_goesOn_116 ?_
              refine e_iconst dX9_goesOn_117 rfl kc_1 ?_
              refine e_icmp_ne (tgt := 137) dX9_goesOn_118 (by decide) (fun h118 => ?_) (fun h118 => ?_)
              · refine e_aload0 dX9_goesOn_137 ?_
                refine e_iconst dX9_goesOn_138 rfl kc_1 ?_
                refine e_cVV (ct_X9_errs0 (d := d - 1) hw19) cy_X9_errs cv_X9_errs ml_X9_212 la_134 rfl rfl rfl (rok (by omega) (by decide)) (Nat.le_of_ble_eq_true rfl) dX9_goesOn_139 ?_
                refine e_vret dX9_goesOn_142 ?_
                exact ⟨rfl, fs, er⟩
              · refine e_aload0 dX9_goesOn_121 ?_
                refine e_bipush dX9_goesOn_122 rfl kb_59 ?_
                refine e_cVZ (ct_X9_isSign (d := d - 1)) cy_X9_isSign cv_X9_isSign ml_X9_240 la_134 rfl rfl rfl (rok (by omega) (by decide)) (Nat.le_of_ble_eq_true rfl) dX9_goesOn_124 (fun g124 => ?_) (fun g124 => ?_)
                · refine e_if_eq (tgt := 137) dX9_goesOn_127 (by decide) (fun h => absurd h (by decide)) (fun _ => ?_)
                  exact absurd ⟨h118, hs.2.2 g124⟩ hk3
                · refine e_if_eq (tgt := 137) dX9_goesOn_127 (by decide) (fun _ => ?_) (fun h => absurd h (by decide))
                  refine e_aload0 dX9_goesOn_137 ?_
                  refine e_iconst dX9_goesOn_138 rfl kc_1 ?_
                  refine e_cVV (ct_X9_errs0 (d := d - 1) hw19) cy_X9_errs cv_X9_errs ml_X9_212 la_134 rfl rfl rfl (rok (by omega) (by decide)) (Nat.le_of_ble_eq_true rfl) dX9_goesOn_139 ?_
                  refine e_vret dX9_goesOn_142 ?_
                  exact ⟨rfl, fs, er⟩
            · refine e_aload0 dX9_goesOn_71 ?_
              refine e_bipush dX9_goesOn_72 rfl kb_41 ?_
              refine e_cVZ (ct_X9_isSign (d := d - 1)) cy_X9_isSign cv_X9_isSign ml_X9_240 la_134 rfl rfl rfl (rok (by omega) (by decide)) (Nat.le_of_ble_eq_true rfl) dX9_goesOn_74 (fun g74 => ?_) (fun g74 => ?_)
              · refine e_if_eq (tgt := 116) dX9_goesOn_77 (by decide) (fun h => absurd h (by decide)) (fun _ => ?_)
                exact absurd ⟨h68, hs.2.1 g74⟩ hk2
              · refine e_if_eq (tgt := 116) dX9_goesOn_77 (by decide) (fun _ => ?_) (fun h => absurd h (by decide))
                refine e_iload1 dX9_goesOn_116 ?_
                refine e_iconst dX9_goesOn_117 rfl kc_1 ?_
                refine e_icmp_ne (tgt := 137) dX9_goesOn_118 (by decide) (fun h118 => ?_) (fun h118 => ?_)
                · refine e_aload0 dX9_goesOn_137 ?_
                  refine e_iconst dX9_goesOn_138 rfl kc_1 ?_
                  refine e_cVV (ct_X9_errs0 (d := d - 1) hw19) cy_X9_errs cv_X9_errs ml_X9_212 la_134 rfl rfl rfl (rok (by omega) (by decide)) (Nat.le_of_ble_eq_true rfl) dX9_goesOn_139 ?_
                  refine e_vret dX9_goesOn_142 ?_
                  exact ⟨rfl, fs, er⟩
                · refine e_aload0 dX9_goesOn_121 ?_
                  refine e_bipush dX9_goesOn_122 rfl kb_59 ?_
                  refine e_cVZ (ct_X9_isSign (d := d - 1)) cy_X9_isSign cv_X9_isSign ml_X9_240 la_134 rfl rfl rfl (rok (by omega) (by decide)) (Nat.le_of_ble_eq_true rfl) dX9_goesOn_124 (fun g124 => ?_) (fun g124 => ?_)
                  · refine e_if_eq (tgt := 137) dX9_goesOn_127 (by decide) (fun h => absurd h (by decide)) (fun _ => ?_)
                    exact absurd ⟨h118, hs.2.2 g124⟩ hk3
                  · refine e_if_eq (tgt := 137) dX9_goesOn_127 (by decide) (fun _ => ?_) (fun h => absurd h (by decide))
                    refine e_aload0 dX9_goesOn_137 ?_
                    refine e_iconst dX9_goesOn_138 rfl kc_1 ?_
                    refine e_cVV (ct_X9_errs0 (d := d - 1) hw19) cy_X9_errs cv_X9_errs ml_X9_212 la_134 rfl rfl rfl (rok (by omega) (by decide)) (Nat.le_of_ble_eq_true rfl) dX9_goesOn_139 ?_
                    refine e_vret dX9_goesOn_142 ?_
                    exact ⟨rfl, fs, er⟩
          · exact absurd ⟨h10, by omega⟩ hs.1
end MSUM3
