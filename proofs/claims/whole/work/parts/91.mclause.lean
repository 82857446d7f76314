/-! THE MODEL'S CLAUSES: pieces -/
section MCL
variable {l : Launch} {w : Wd} {d : Nat} {M : Mem} {Q : Option MV → Mem → Prop} {B : Nat → Int} {L t o : Nat} {x : Int} {fr : List Int} {W P R E : List (Int × Int)}
/-- what clauseIsOver leaves -/
def CIO (B : Nat → Int) (L : Nat) (M : Mem) (t : Nat) (E : List (Int × Int)) (o : Nat) (M1 : Mem) : Prop := (∀ o, o ≠ 134 → (o < 146 ∨ 148 < o) → o ≠ 154 → o ≠ 155 → M1 o = M o) ∧ (∀ k, (k < 15 ∨ 22 < k) → k ≠ 24 → k ≠ 27 → k ≠ 28 → k ≠ 35 → M1 134 k = M 134 k) ∧ M1 134 27 = 4 ∧ M1 134 28 = M 134 28 + 1 ∧ MS B L M1 t [] [] (E ++ [(408, 0)]) o
theorem ct_clauseIsOver (hd : 5 ≤ d) (hL : L ≤ 300) (ht : t ≤ 300) (hm : MS B L M t fr P E o) (hP : ∀ y ∈ P, y.2 = (fr.length : Int)) (hp4 : P.length ≤ 4) (k0 : tkK B L t ≠ 0) (k3 : tkK B L t ≠ 3) (h28 : 0 ≤ M 134 28 ∧ M 134 28 ≤ 24) :
    GV l w yX9_clauseIsOver cX9_clauseIsOver 1 d [vR 134] M (fun M1 => CIO B L M (t + 1) (E ++ cds P) o M1) := by
  obtain ⟨hct, hmb, hac⟩ := hm
  have hnx := hct.2.2 k0 k3
  have rk3 : ∀ z : Int, 1 ≤ rk z := fun z => by unfold rk; split <;> omega
  have hmb' : MB B L M fr (P ++ []) E o := by rw [List.append_nil]; exact hmb
  have hwk := ct_X9_works (l := l) (w := w) (d := d - 1) (M := M) (r := 1) (D := fr.length) (n := E.length) (P := P) (W := []) (by omega) (fun y hy => by cases hy) (by decide) (fun y hy => ⟨hP y hy, rk3 _⟩) hp4 hmb.2.2.1.1 hmb'.2.2.2.1.1 hmb'.2.2.2.1.2 hmb.2.2.2.2.1 (by omega)
  have hb1 := MB.wk P M E hmb'
  have el : (E ++ cds P).length = E.length + P.length := by rw [List.length_append, List.length_map]
  have hb2 : MB B L (up (wkM P M) 134 22 0) [] [] (E ++ cds P) o := by
    obtain ⟨h1, h2, h3, h4, h5⟩ := hb1
    exact ⟨⟨by rw [up_k (by omega)]; exact h1.1, by rw [up_row (by decide)]; exact h1.2⟩, by rw [up_k (by omega), up_k (by omega), up_k (by omega)]; exact h2, ⟨by rw [up_s]; rfl, trivial⟩, ⟨by rw [up_k (by omega)]; exact h4.1, trivial⟩, by rw [up_k (by omega)]; exact h5.1, fun i z hz => by rw [up_o (by decide), up_o (by decide)]; exact h5.2 i z hz⟩
  have e35 : up (wkM P M) 134 22 0 134 35 = ((E.length + P.length : Nat) : Int) := by rw [hb2.2.2.2.2.1, el]
  have hb3 := hb2.em (x := 408) (y := 0)
  have k28 : emM (up (wkM P M) 134 22 0) 408 0 134 28 = M 134 28 := by unfold emM; rw [up_k (by decide), up_o (by decide), up_o (by decide), up_k (by decide), wkM_27 P M 28 (by decide) (by decide)]
  have hb4 : MB B L (up (emM (up (wkM P M) 134 22 0) 408 0) 134 28 (M 134 28 + 1)) [] [] (E ++ cds P ++ [(408, 0)]) o := hb3.u (by omega)
  have kk : ∀ q, (q < 15 ∨ 22 < q ∨ q = 15) → q ≠ 24 → q ≠ 28 → q ≠ 35 → up (emM (up (wkM P M) 134 22 0) 408 0) 134 28 (M 134 28 + 1) 134 q = M 134 q := fun q a b c e => by unfold emM; rw [up_k c, up_k e, up_o (by decide), up_o (by decide), up_k (by omega), wkM_27 P M q b e]
  have hfs : FS M (emM (up (wkM P M) 134 22 0) 408 0) := ((FS.wk P M (FS.rf M)).u (by omega)).em
  have hnxt := ct_X9_next (l := l) (w := w) (d := d - 1) (M := up (emM (up (wkM P M) 134 22 0) 408 0) 134 28 (M 134 28 + 1)) (B := B) (L := L) (t := t + 1) (by omega) hL hb4.1.2 hb4.1.1 (by
    obtain ⟨a, n, q1, q2⟩ := hnx
    exact ⟨a, n, by rw [kk 15 (by decide) (by decide) (by decide) (by decide)]; exact q1, q2⟩)
  refine MT.of [some (vR 134)] ⟨by decide, rfl⟩ rfl (Nat.le_of_ble_eq_true rfl) (fun hA hM => ?_)
  refine e_aload0 dX9_clauseIsOver_0 ?_
  refine e_iconst dX9_clauseIsOver_1 rfl kc_1 ?_
  refine e_cVV (hwk) cy_X9_works cv_X9_works ml_X9_231 la_134 rfl rfl rfl (rok (by omega) (by decide)) (Nat.le_of_ble_eq_true rfl) dX9_clauseIsOver_2 ?_
  refine e_aload0 dX9_clauseIsOver_5 ?_
  refine e_iconst dX9_clauseIsOver_6 rfl kc_0 ?_
  refine e_putI fp_X9_206 la_134 rfl dX9_clauseIsOver_7 ?_
  refine e_aload0 dX9_clauseIsOver_10 ?_
  refine e_sipush dX9_clauseIsOver_11 rfl ks_408 ?_
  refine e_iconst dX9_clauseIsOver_14 rfl kc_0 ?_
  refine e_cVV (ct_X9_emits (d := d - 1) e35 (by omega)) cy_X9_emits cv_X9_emits ml_X9_228 la_134 rfl rfl rfl (rok (by omega) (by decide)) (Nat.le_of_ble_eq_true rfl) dX9_clauseIsOver_15 ?_
  refine e_aload0 dX9_clauseIsOver_18 ?_
  refine e_dup dX9_clauseIsOver_19 rfl ?_
  refine e_getI fl_X9_259 la_134 rfl dX9_clauseIsOver_20 ?_
  refine WW.ec (y := M 134 28) (k28) ?_
  refine e_iconst dX9_clauseIsOver_23 rfl kc_1 ?_
  refine e_iadd dX9_clauseIsOver_24 (⟨by omega, by omega⟩) ?_
  refine e_putI fp_X9_259 la_134 rfl dX9_clauseIsOver_25 ?_
  refine e_aload0 dX9_clauseIsOver_28 ?_
  refine e_cVGV (hnxt) cy_X9_next cv_X9_next ml_X9_218 la_134 rfl rfl rfl (rok (by omega) (by decide)) (Nat.le_of_ble_eq_true rfl) dX9_clauseIsOver_29 (fun N hx => ?_)
  obtain ⟨f1, f2⟩ := hx
  refine e_aload0 dX9_clauseIsOver_32 ?_
  refine e_iconst dX9_clauseIsOver_33 rfl kc_4 ?_
  refine e_putI fp_X9_250 la_134 rfl dX9_clauseIsOver_34 ?_
  refine e_vret dX9_clauseIsOver_37 ?_
  refine ⟨rfl, fun q a b c e => ?_, fun q a b c e g => ?_, up_s _ _ _ _, ?_, f2.fr (fun k a b => up_k (by omega)), (hb4.fn f1).u (by omega), ?_⟩
  · rw [up_row a, f1.1 q a, up_row a]; exact hfs.1 q a b c e
  · rw [up_k c, f1.2 q (by omega), kk q (by omega) b e g]
  · rw [up_k (by decide), f1.2 28 (by decide), up_s]
  · rw [List.length_append, el]
    show E.length + P.length + 1 + 0 + 0 ≤ t + 1
    omega
theorem ct_goesOn_end (hd : 6 ≤ d) (hL : L ≤ 300) (ht : t ≤ 300) (hm : MS B L M t [1] P E o) (hk : tkK B L t = 59) (hP : ∀ y ∈ P, y.2 = (([1] : List Int).length : Int)) (hp4 : P.length ≤ 4) (h28 : 0 ≤ M 134 28 ∧ M 134 28 ≤ 24) :
    GV l w yX9_goesOn cX9_goesOn 2 d [vR 134] M (fun M1 => CIO B L M (t + 1) (E ++ cds P) o M1) := by
  have htk := hm.1.2.1
  have hs : M 134 17 = 3 ∧ M 134 18 = 59 := by
    rcases htk with q | q | q | q | q
    · omega
    · omega
    · omega
    · exact ⟨q.2.1, q.2.2.trans hk⟩
    · omega
  clear htk
  have htop := ct_X9_top (l := l) (w := w) (d := d - 1) (M := M) hm.2.1.2.2.1.1 hm.2.1.2.2.1.2 (by decide)
  have hci := ct_clauseIsOver (l := l) (w := w) (d := d - 1) (by omega) hL ht hm hP hp4 (by omega) (by omega) h28
  refine MT.of [some (vR 134), none] ⟨by decide, rfl⟩ rfl (Nat.le_of_ble_eq_true rfl) (fun hA hM => ?_)
  refine e_aload0 dX9_goesOn_0 ?_
  refine e_cVI (htop) cy_X9_top cv_X9_top ml_X9_246 la_134 rfl rfl rfl (rok (by omega) (by decide)) (Nat.le_of_ble_eq_true rfl) dX9_goesOn_1 ?_
  refine e_istore1 dX9_goesOn_4 rfl ?_
  refine e_aload0 dX9_goesOn_5 ?_
  refine e_getI fl_X9_180 la_134 rfl dX9_goesOn_6 ?_
  refine WW.ec (y := 3) (hs.1) ?_
  refine e_iconst dX9_goesOn_9 rfl kc_3 ?_
  refine e_icmp_ne (tgt := 65) dX9_goesOn_10 (by decide) (fun h => absurd h (fun z => z rfl)) (fun h10 => ?_)
  refine e_aload0 dX9_goesOn_13 ?_
  refine e_getI fl_X9_193 la_134 rfl dX9_goesOn_14 ?_
  refine WW.ec (y := 59) (hs.2) ?_
  refine e_bipush dX9_goesOn_17 rfl kb_43 ?_
  refine e_icmp_eq (tgt := 49) dX9_goesOn_19 (by decide) (fun h => absurd h (by decide)) (fun h19 => ?_)
  refine e_aload0 dX9_goesOn_22 ?_
  refine e_getI fl_X9_193 la_134 rfl dX9_goesOn_23 ?_
  refine WW.ec (y := 59) (hs.2) ?_
  refine e_bipush dX9_goesOn_26 rfl kb_45 ?_
  refine e_icmp_eq (tgt := 49) dX9_goesOn_28 (by decide) (fun h => absurd h (by decide)) (fun h28 => ?_)
  refine e_aload0 dX9_goesOn_31 ?_
  refine e_getI fl_X9_193 la_134 rfl dX9_goesOn_32 ?_
  refine WW.ec (y := 59) (hs.2) ?_
  refine e_bipush dX9_goesOn_35 rfl kb_42 ?_
  refine e_icmp_eq (tgt := 49) dX9_goesOn_37 (by decide) (fun h => absurd h (by decide)) (fun h37 => ?_)
  refine e_aload0 dX9_goesOn_40 ?_
  refine e_getI fl_X9_193 la_134 rfl dX9_goesOn_41 ?_
  refine WW.ec (y := 59) (hs.2) ?_
  refine e_bipush dX9_goesOn_44 rfl kb_47 ?_
  refine e_icmp_ne (tgt := 65) dX9_goesOn_46 (by decide) (fun h46 => ?_) (fun h => absurd h (by decide))
  refine e_iload1 dX9_goesOn_65 ?_
  refine e_bipush dX9_goesOn_66 rfl kb_6 ?_
  refine e_icmp_ne (tgt := 116) dX9_goesOn_68 (by decide) (fun h68 => ?_) (fun h => absurd h (by decide))
  refine e_iload1 dX9_goesOn_116 ?_
  refine e_iconst dX9_goesOn_117 rfl kc_1 ?_
  refine e_icmp_ne (tgt := 137) dX9_goesOn_118 (by decide) (fun h => absurd h (fun z => z rfl)) (fun h118 => ?_)
  refine e_aload0 dX9_goesOn_121 ?_
  refine e_bipush dX9_goesOn_122 rfl kb_59 ?_
  refine e_cVZ (ct_X9_isSign (d := d - 1)) cy_X9_isSign cv_X9_isSign ml_X9_240 la_134 rfl rfl rfl (rok (by omega) (by decide)) (Nat.le_of_ble_eq_true rfl) dX9_goesOn_124 (fun g124 => ?_) (fun g124 => ?_)
  · refine e_if_eq (tgt := 137) dX9_goesOn_127 (by decide) (fun h => absurd h (by decide)) (fun _ => ?_)
    refine e_aload0 dX9_goesOn_130 ?_
    refine e_cVGV (hci) cy_X9_clauseIsOver cv_X9_clauseIsOver ml_X9_256 la_134 rfl rfl rfl (rok (by omega) (by decide)) (Nat.le_of_ble_eq_true rfl) dX9_goesOn_131 (fun N hx => ?_)
    refine e_goto (tgt := 142) dX9_goesOn_134 (by decide) ?_
    refine e_vret dX9_goesOn_142 ?_
    exact ⟨rfl, hx⟩
  · refine e_if_eq (tgt := 137) dX9_goesOn_127 (by decide) (fun _ => ?_) (fun h => absurd h (by decide))
    exact absurd hs g124
/-- a number is wanted -/
theorem ct_number_w {a b : Int} (hd : 1 ≤ d) (h : M 134 19 ≠ 0) (h0 : 0 ≤ M 134 19) : PI l w yX9_number cX9_number 4 d [vR 134, vI a, vI b] M a M := by
  refine MT.of [some (vR 134), some (vI a), some (vI b), none] ⟨by decide, rfl⟩ rfl (Nat.le_of_ble_eq_true rfl) (fun hA hM => ?_)
  refine e_aload0 dX9_number_0 ?_
  refine e_getI fl_X9_197 la_134 rfl dX9_number_1 ?_
  refine e_if_gt (tgt := 15) dX9_number_4 (by decide) (fun h4 => ?_) (fun h4 => ?_)
  · refine e_aload0 dX9_number_15 ?_
    refine e_iconst dX9_number_16 rfl kc_1 ?_
    refine e_cVV (ct_X9_errs1 (d := d - 1) h) cy_X9_errs cv_X9_errs ml_X9_212 la_134 rfl rfl rfl (rok (by omega) (by decide)) (Nat.le_of_ble_eq_true rfl) dX9_number_17 ?_
    refine e_iload1 dX9_number_20 ?_
    refine e_iret dX9_number_21 ?_
    exact ⟨rfl, rfl⟩
  · omega
theorem ct_number {a b : Int} (hd : 4 ≤ d) (hL : L ≤ 300) (hm : MS B L M t fr W E o) (hab : 0 ≤ a ∧ b ≤ 30) : GI l w yX9_number cX9_number 4 .int d [vR 134, vI a, vI b] M (fun x M1 => (nbF (tkK B L) (tkV B L) a b t = 0 ∧ x = tkV B L t ∧ FN M M1 ∧ CT B L M1 (t + 1)) ∨ (nbF (tkK B L) (tkV B L) a b t ≠ 0 ∧ M1 = erM M (nbF (tkK B L) (tkV B L) a b t))) := by
  obtain ⟨hct, hmb, hac⟩ := hm
  have hw19 := hmb.2.1.1
  have htk := hct.2.1
  refine MT.of [some (vR 134), some (vI a), some (vI b), none] ⟨by decide, rfl⟩ rfl (Nat.le_of_ble_eq_true rfl) (fun hA hM => ?_)
  by_cases k1 : tkK B L t = 1
  · have hs : M 134 17 = 2 ∧ NV (tkV B L t) (M 134 18) := by
      rcases htk with q | q | q | q | q
      · omega
      · exact ⟨q.2.1, q.2.2⟩
      · omega
      · have := q.1; omega
      · omega
    clear htk
    have hnx := hct.2.2 (by omega) (by omega)
    by_cases ok : a ≤ tkV B L t ∧ tkV B L t ≤ b
    · have e : nbF (tkK B L) (tkV B L) a b t = 0 := by unfold nbF; rw [if_pos k1, if_pos ok]
      have e18 : M 134 18 = tkV B L t := by have := hs.2; omega
      refine e_aload0 dX9_number_0 ?_
      refine e_getI fl_X9_197 la_134 rfl dX9_number_1 ?_
      refine e_if_gt (tgt := 15) dX9_number_4 (by decide) (fun h4 => ?_) (fun h4 => ?_)
      · omega
      · refine e_aload0 dX9_number_7 ?_
        refine e_getI fl_X9_180 la_134 rfl dX9_number_8 ?_
        refine e_iconst dX9_number_11 rfl kc_2 ?_
        refine e_icmp_eq (tgt := 22) dX9_number_12 (by decide) (fun h12 => ?_) (fun h12 => ?_)
        · refine e_aload0 dX9_number_22 ?_
          refine e_getI fl_X9_193 la_134 rfl dX9_number_23 ?_
          refine WW.ec (y := tkV B L t) (e18) ?_
          refine e_iload1 dX9_number_26 ?_
          refine e_iload2 dX9_number_27 ?_
          refine e_cSZ (ct_X9_in (d := d - 1)) cy_X9_in cs_X9_in ml_X9_120 rfl rfl (rok (by omega) (by decide)) (Nat.le_of_ble_eq_true rfl) dX9_number_28 (fun g28 => ?_) (fun g28 => ?_)
          · refine e_if_ne (tgt := 41) dX9_number_31 (by decide) (fun _ => ?_) (fun h => absurd h (by decide))
            refine e_aload0 dX9_number_41 ?_
            refine e_getI fl_X9_193 la_134 rfl dX9_number_42 ?_
            refine WW.ec (y := tkV B L t) (e18) ?_
            refine e_istore3 dX9_number_45 rfl ?_
            refine e_aload0 dX9_number_46 ?_
            refine e_cVGV (ct_X9_next (d := d - 1) (by omega) hL hmb.1.2 hmb.1.1 hnx) cy_X9_next cv_X9_next ml_X9_218 la_134 rfl rfl rfl (rok (by omega) (by decide)) (Nat.le_of_ble_eq_true rfl) dX9_number_47 (fun N hx => ?_)
            refine e_iload3 dX9_number_50 ?_
            refine e_iret dX9_number_51 ?_
            exact ⟨_, rfl, Or.inl ⟨e, rfl, hx⟩⟩
          · refine e_if_ne (tgt := 41) dX9_number_31 (by decide) (fun h => absurd h (by decide)) (fun _ => ?_)
            exact absurd ok g28
        · omega
    · have e : nbF (tkK B L) (tkV B L) a b t = 2 := by unfold nbF; rw [if_pos k1, if_neg ok]
      have h2 := hs.2
      have b1 := tkV_1 t k1
      refine e_aload0 dX9_number_0 ?_
      refine e_getI fl_X9_197 la_134 rfl dX9_number_1 ?_
      refine e_if_gt (tgt := 15) dX9_number_4 (by decide) (fun h4 => ?_) (fun h4 => ?_)
      · omega
      · refine e_aload0 dX9_number_7 ?_
        refine e_getI fl_X9_180 la_134 rfl dX9_number_8 ?_
        refine e_iconst dX9_number_11 rfl kc_2 ?_
        refine e_icmp_eq (tgt := 22) dX9_number_12 (by decide) (fun h12 => ?_) (fun h12 => ?_)
        · refine e_aload0 dX9_number_22 ?_
          refine e_getI fl_X9_193 la_134 rfl dX9_number_23 ?_
          refine e_iload1 dX9_number_26 ?_
          refine e_iload2 dX9_number_27 ?_
          refine e_cSZ (ct_X9_in (d := d - 1)) cy_X9_in cs_X9_in ml_X9_120 rfl rfl (rok (by omega) (by decide)) (Nat.le_of_ble_eq_true rfl) dX9_number_28 (fun g28 => ?_) (fun g28 => ?_)
          · refine e_if_ne (tgt := 41) dX9_number_31 (by decide) (fun _ => ?_) (fun h => absurd h (by decide))
            exfalso; omega
          · refine e_if_ne (tgt := 41) dX9_number_31 (by decide) (fun h => absurd h (by decide)) (fun _ => ?_)
            refine e_aload0 dX9_number_34 ?_
            refine e_iconst dX9_number_35 rfl kc_2 ?_
            refine e_cVV (ct_X9_errs0 (d := d - 1) hw19) cy_X9_errs cv_X9_errs ml_X9_212 la_134 rfl rfl rfl (rok (by omega) (by decide)) (Nat.le_of_ble_eq_true rfl) dX9_number_36 ?_
            refine e_iload1 dX9_number_39 ?_
            refine e_iret dX9_number_40 ?_
            exact ⟨_, rfl, Or.inr ⟨by rw [e]; decide, by rw [e]⟩⟩
        · omega
  · have e : nbF (tkK B L) (tkV B L) a b t = 1 := by unfold nbF; rw [if_neg k1]
    have hs : M 134 17 ≠ 2 := by
      rcases htk with q | q | q | q | q
      · omega
      · omega
      · omega
      · have := q.2; omega
      · have := q.2; omega
    clear htk
    refine e_aload0 dX9_number_0 ?_
    refine e_getI fl_X9_197 la_134 rfl dX9_number_1 ?_
    refine e_if_gt (tgt := 15) dX9_number_4 (by decide) (fun h4 => ?_) (fun h4 => ?_)
    · refine e_aload0 dX9_number_15 ?_
      refine e_iconst dX9_number_16 rfl kc_1 ?_
      refine e_cVV (ct_X9_errs0 (d := d - 1) hw19) cy_X9_errs cv_X9_errs ml_X9_212 la_134 rfl rfl rfl (rok (by omega) (by decide)) (Nat.le_of_ble_eq_true rfl) dX9_number_17 ?_
      refine e_iload1 dX9_number_20 ?_
      refine e_iret dX9_number_21 ?_
      exact ⟨_, rfl, Or.inr ⟨by rw [e]; decide, by rw [e]⟩⟩
    · refine e_aload0 dX9_number_7 ?_
      refine e_getI fl_X9_180 la_134 rfl dX9_number_8 ?_
      refine e_iconst dX9_number_11 rfl kc_2 ?_
      refine e_icmp_eq (tgt := 22) dX9_number_12 (by decide) (fun h12 => ?_) (fun h12 => ?_)
      · exact absurd h12 hs
      · refine e_aload0 dX9_number_15 ?_
        refine e_iconst dX9_number_16 rfl kc_1 ?_
        refine e_cVV (ct_X9_errs0 (d := d - 1) hw19) cy_X9_errs cv_X9_errs ml_X9_212 la_134 rfl rfl rfl (rok (by omega) (by decide)) (Nat.le_of_ble_eq_true rfl) dX9_number_17 ?_
        refine e_iload1 dX9_number_20 ?_
        refine e_iret dX9_number_21 ?_
        exact ⟨_, rfl, Or.inr ⟨by rw [e]; decide, by rw [e]⟩⟩
/-- a word is wanted -/
theorem ct_wants_w {k : Int} (h : M 134 19 ≠ 0) : PV l w yX9_wants cX9_wants 2 d [vR 134, vI k] M M := by
  refine MT.of [some (vR 134), some (vI k)] ⟨by decide, rfl⟩ rfl (Nat.le_of_ble_eq_true rfl) (fun hA hM => ?_)
  refine e_aload0 dX9_wants_0 ?_
  refine e_getI fl_X9_197 la_134 rfl dX9_wants_1 ?_
  refine e_if_ne (tgt := 20) dX9_wants_4 (by decide) (fun h4 => ?_) (fun h => absurd h (by omega))
  refine e_aload0 dX9_wants_20 ?_
  refine e_getI fl_X9_197 la_134 rfl dX9_wants_21 ?_
  refine e_if_ne (tgt := 31) dX9_wants_24 (by decide) (fun h24 => ?_) (fun h => absurd h (by omega))
  refine e_vret dX9_wants_31 ?_
  exact ⟨rfl, rfl⟩
theorem ct_wants {k : Int} (hd : 4 ≤ d) (hL : L ≤ 300) (hm : MS B L M t fr W E o) (hk : 0 ≤ k) : GV l w yX9_wants cX9_wants 2 d [vR 134, vI k] M (fun M1 => (wdF (tkK B L) (tkV B L) k t = 0 ∧ FN M M1 ∧ CT B L M1 (t + 1)) ∨ (wdF (tkK B L) (tkV B L) k t ≠ 0 ∧ M1 = erM M (wdF (tkK B L) (tkV B L) k t))) := by
  obtain ⟨hct, hmb, hac⟩ := hm
  have hw19 := hmb.2.1.1
  have htk := hct.2.1
  by_cases k2 : tkK B L t = 2 ∧ tkV B L t = k
  · have e : wdF (tkK B L) (tkV B L) k t = 0 := by unfold wdF; rw [if_pos k2]
    have hs : M 134 17 = 1 ∧ M 134 18 = k := by
      rcases htk with q | q | q | q | q
      · omega
      · omega
      · omega
      · have := q.1; omega
      · omega
    clear htk
    have hnx := hct.2.2 (by omega) (by omega)
    refine MT.of [some (vR 134), some (vI k)] ⟨by decide, rfl⟩ rfl (Nat.le_of_ble_eq_true rfl) (fun hA hM => ?_)
    refine e_aload0 dX9_wants_0 ?_
    refine e_getI fl_X9_197 la_134 rfl dX9_wants_1 ?_
    refine e_if_ne (tgt := 20) dX9_wants_4 (by decide) (fun h => absurd h (by omega)) (fun h4 => ?_)
    refine e_aload0 dX9_wants_7 ?_
    refine e_iload1 dX9_wants_8 ?_
    refine e_cVZ (ct_X9_isWord (d := d - 1)) cy_X9_isWord cv_X9_isWord ml_X9_262 la_134 rfl rfl rfl (rok (by omega) (by decide)) (Nat.le_of_ble_eq_true rfl) dX9_wants_9 (fun g9 => ?_) (fun g9 => ?_)
    · refine e_if_ne (tgt := 20) dX9_wants_12 (by decide) (fun _ => ?_) (fun h => absurd h (by decide))
      refine e_aload0 dX9_wants_20 ?_
      refine e_getI fl_X9_197 la_134 rfl dX9_wants_21 ?_
      refine e_if_ne (tgt := 31) dX9_wants_24 (by decide) (fun h => absurd h (by omega)) (fun h24 => ?_)
      refine e_aload0 dX9_wants_27 ?_
      refine e_cVGV (ct_X9_next (d := d - 1) (by omega) hL hmb.1.2 hmb.1.1 hnx) cy_X9_next cv_X9_next ml_X9_218 la_134 rfl rfl rfl (rok (by omega) (by decide)) (Nat.le_of_ble_eq_true rfl) dX9_wants_28 (fun N hx => ?_)
      refine e_vret dX9_wants_31 ?_
      exact ⟨rfl, Or.inl ⟨e, hx⟩⟩
    · refine e_if_ne (tgt := 20) dX9_wants_12 (by decide) (fun h => absurd h (by decide)) (fun _ => ?_)
      exact absurd hs g9
  · have e : wdF (tkK B L) (tkV B L) k t = 1 := by unfold wdF; rw [if_neg k2]
    have hs : ¬ (M 134 17 = 1 ∧ M 134 18 = k) := by
      rcases htk with q | q | q | q | q
      · omega
      · omega
      · omega
      · have := q.2; omega
      · have := q.2; omega
    clear htk
    have e19 : erM M 1 134 19 ≠ 0 := by unfold erM; rw [up_k (by decide), up_s]; decide
    have h20 : WM l w RX9 cX9_wants 2 none d (fun r M1 => r = none ∧ ((wdF (tkK B L) (tkV B L) k t = 0 ∧ FN M M1 ∧ CT B L M1 (t + 1)) ∨ (wdF (tkK B L) (tkV B L) k t ≠ 0 ∧ M1 = erM M (wdF (tkK B L) (tkV B L) k t)))) 20 [some (vR 134), some (vI k)] [] (erM M 1) := by
      refine e_aload0 dX9_wants_20 ?_
      refine e_getI fl_X9_197 la_134 rfl dX9_wants_21 ?_
      refine e_if_ne (tgt := 31) dX9_wants_24 (by decide) (fun h24 => ?_) (fun h => absurd h (by omega))
      refine e_vret dX9_wants_31 ?_
      exact ⟨rfl, Or.inr ⟨by rw [e]; decide, by rw [e]⟩⟩
    refine MT.of [some (vR 134), some (vI k)] ⟨by decide, rfl⟩ rfl (Nat.le_of_ble_eq_true rfl) (fun hA hM => ?_)
    refine e_aload0 dX9_wants_0 ?_
    refine e_getI fl_X9_197 la_134 rfl dX9_wants_1 ?_
    refine e_if_ne (tgt := 20) dX9_wants_4 (by decide) (fun h => absurd h (by omega)) (fun h4 => ?_)
    refine e_aload0 dX9_wants_7 ?_
    refine e_iload1 dX9_wants_8 ?_
    refine e_cVZ (ct_X9_isWord (d := d - 1)) cy_X9_isWord cv_X9_isWord ml_X9_262 la_134 rfl rfl rfl (rok (by omega) (by decide)) (Nat.le_of_ble_eq_true rfl) dX9_wants_9 (fun g9 => ?_) (fun g9 => ?_)
    · refine e_if_ne (tgt := 20) dX9_wants_12 (by decide) (fun _ => ?_) (fun h => absurd h (by decide))
      first | exact absurd g9 hs | exact h20
    · refine e_if_ne (tgt := 20) dX9_wants_12 (by decide) (fun h => absurd h (by decide)) (fun _ => ?_)
      refine e_aload0 dX9_wants_15 ?_
      refine e_iconst dX9_wants_16 rfl kc_1 ?_
      refine e_cVV (ct_X9_errs0 (d := d - 1) hw19) cy_X9_errs cv_X9_errs ml_X9_212 la_134 rfl rfl rfl (rok (by omega) (by decide)) (Nat.le_of_ble_eq_true rfl) dX9_wants_17 ?_
      first | exact absurd g9 hs | exact h20
/-- was a law told -/
theorem wt_loop {k : Int} {c : Nat} (hc : c ≤ 24) (h28 : M 134 28 = c) : ∀ (q i : Nat) (b : Int), i + q = c → (b = 0 ∨ b = 1) → (b = 1 ↔ ∃ j, j < i ∧ M 149 j = k) → ((∃ j, j < c ∧ M 149 j = k) → Q (some (vI 1)) M) → (¬ (∃ j, j < c ∧ M 149 j = k) → Q (some (vI 0)) M) → WM l w RX9 cX9_wasTold 4 (some .boolean) d Q 4 [some (vR 134), some (vI k), some (vI b), some (vI (i : Int))] [] M
  | 0, i, b, hi, hb, hbi, q1, q0 => by
    obtain rfl : i = c := by omega
    have hq : Q (some (vI b)) M := by
      rcases hb with z | z
      · rw [z]; exact q0 (fun y => by have := hbi.mpr y; omega)
      · rw [z]; exact q1 (hbi.mp z)
    refine e_iload3 dX9_wasTold_4 ?_
    refine e_aload0 dX9_wasTold_5 ?_
    refine e_getI fl_X9_259 la_134 rfl dX9_wasTold_6 ?_
    refine WW.ec (y := (i : Int)) (h28) ?_
    refine e_icmp_ge (tgt := 38) dX9_wasTold_9 (by decide) (fun h9 => ?_) (fun h9 => ?_)
    · refine e_iload2 dX9_wasTold_38 ?_
      refine e_zret dX9_wasTold_39 (by omega) ?_
      exact hq
    · omega
  | q + 1, i, b, hi, hb, hbi, q1, q0 => by
    have ih1 : (b = 1 ∨ M 149 i = k) → WM l w RX9 cX9_wasTold 4 (some .boolean) d Q 4 [some (vR 134), some (vI k), some (vI 1), some (vI ((i + 1 : Nat) : Int))] [] M := fun z => wt_loop hc h28 q (i + 1) 1 (by omega) (Or.inr rfl) ⟨fun _ => by
      rcases z with z | z
      · obtain ⟨j, a1, a2⟩ := hbi.mp z
        exact ⟨j, by omega, a2⟩
      · exact ⟨i, by omega, z⟩, fun _ => rfl⟩ q1 q0
    have ih0 : b = 0 → M 149 i ≠ k → WM l w RX9 cX9_wasTold 4 (some .boolean) d Q 4 [some (vR 134), some (vI k), some (vI 0), some (vI ((i + 1 : Nat) : Int))] [] M := fun z z2 => wt_loop hc h28 q (i + 1) 0 (by omega) (Or.inl rfl) ⟨fun y => absurd y (by decide), fun ⟨j, a1, a2⟩ => by
      rcases Nat.lt_succ_iff_lt_or_eq.mp a1 with y | y
      · exact absurd (hbi.mpr ⟨j, y, a2⟩) (by rw [z]; decide)
      · rw [y] at a2; exact absurd a2 z2⟩ q1 q0
    clear hbi q1 q0
    refine e_iload3 dX9_wasTold_4 ?_
    refine e_aload0 dX9_wasTold_5 ?_
    refine e_getI fl_X9_259 la_134 rfl dX9_wasTold_6 ?_
    refine WW.ec (y := (c : Int)) (h28) ?_
    refine e_icmp_ge (tgt := 38) dX9_wasTold_9 (by decide) (fun h9 => ?_) (fun h9 => ?_)
    · omega
    · refine e_iload2 dX9_wasTold_12 ?_
      refine e_if_ne (tgt := 26) dX9_wasTold_13 (by decide) (fun h13 => ?_) (fun h13 => ?_)
      · refine e_iconst dX9_wasTold_26 rfl kc_1 ?_
        refine e_goto (tgt := 31) dX9_wasTold_27 (by decide) ?_
        refine e_istore2 dX9_wasTold_31 rfl ?_
        refine e_iinc3 dX9_wasTold_32 rfl (⟨by omega, by omega⟩) rfl ?_
        refine e_goto (tgt := 4) dX9_wasTold_35 (by decide) ?_
        first | exact ih1 (Or.inr h23) | exact ih0 (by omega) h23 | exact ih1 (Or.inl (by omega))
      · refine e_aload0 dX9_wasTold_16 ?_
        refine e_getR fl_X9_60 la_134 rfl dX9_wasTold_17 ?_
        refine e_iload3 dX9_wasTold_20 ?_
        refine e_ialdK (k := i) la_149 (by omega) (by omega) dX9_wasTold_21 ?_
        refine e_iload1 dX9_wasTold_22 ?_
        refine e_icmp_ne (tgt := 30) dX9_wasTold_23 (by decide) (fun h23 => ?_) (fun h23 => ?_)
        · refine e_iconst dX9_wasTold_30 rfl kc_0 ?_
          refine e_istore2 dX9_wasTold_31 rfl ?_
          refine e_iinc3 dX9_wasTold_32 rfl (⟨by omega, by omega⟩) rfl ?_
          refine e_goto (tgt := 4) dX9_wasTold_35 (by decide) ?_
          first | exact ih1 (Or.inr h23) | exact ih0 (by omega) h23 | exact ih1 (Or.inl (by omega))
        · refine e_iconst dX9_wasTold_26 rfl kc_1 ?_
          refine e_goto (tgt := 31) dX9_wasTold_27 (by decide) ?_
          refine e_istore2 dX9_wasTold_31 rfl ?_
          refine e_iinc3 dX9_wasTold_32 rfl (⟨by omega, by omega⟩) rfl ?_
          refine e_goto (tgt := 4) dX9_wasTold_35 (by decide) ?_
          first | exact ih1 (Or.inr h23) | exact ih0 (by omega) h23 | exact ih1 (Or.inl (by omega))
theorem ct_wasTold {k : Int} {c : Nat} (hc : c ≤ 24) (h28 : M 134 28 = c) : PZ l w yX9_wasTold cX9_wasTold 4 d [vR 134, vI k] M (∃ j, j < c ∧ M 149 j = k) := by
  have h := wt_loop (l := l) (w := w) (d := d) (M := M) (Q := fun r M' => M' = M ∧ ((r = some (vI 1) ∧ ∃ j, j < c ∧ M 149 j = k) ∨ (r = some (vI 0) ∧ ¬ ∃ j, j < c ∧ M 149 j = k))) hc h28 c 0 0 (by omega) (Or.inl rfl) ⟨fun z => absurd z (by decide), fun ⟨j, a, _⟩ => absurd a (Nat.not_lt_zero j)⟩ (fun z => ⟨rfl, Or.inl ⟨rfl, z⟩⟩) (fun z => ⟨rfl, Or.inr ⟨rfl, z⟩⟩)
  refine MT.of [some (vR 134), some (vI k), none, none] ⟨by decide, rfl⟩ rfl (Nat.le_of_ble_eq_true rfl) (fun hA hM => ?_)
  refine e_iconst dX9_wasTold_0 rfl kc_0 ?_
  refine e_istore2 dX9_wasTold_1 rfl ?_
  refine e_iconst dX9_wasTold_2 rfl kc_0 ?_
  refine e_istore3 dX9_wasTold_3 rfl ?_
  exact h
end MCL
