/-! DEEDS -/
def setN (g : Nat → Int) (i : Nat) (v : Int) : Nat → Int := fun k => if k = i then v else g k
theorem up_set (M : Mem) (o i : Nat) (v : Int) : up M o i v o = setN (M o) i v := by
  funext k
  simp [up, setN]
def nbF (K V : Nat → Int) (a b : Int) (t : Nat) : Int := if K t = 1 then (if a ≤ V t ∧ V t ≤ b then 0 else 2) else 1
def wdF (K V : Nat → Int) (x : Int) (t : Nat) : Int := if K t = 2 ∧ V t = x then 0 else 1
def ddF (K V : Nat → Int) (k : Int) (t : Nat) : Int × Nat :=
  if k = 4 then (if nbF K V 0 11 t ≠ 0 then (nbF K V 0 11 t, t) else if wdF K V 8 (t + 1) ≠ 0 then (wdF K V 8 (t + 1), t + 1) else if nbF K V 0 5 (t + 2) ≠ 0 then (nbF K V 0 5 (t + 2), t + 2) else if wdF K V 9 (t + 3) ≠ 0 then (wdF K V 9 (t + 3), t + 3) else if nbF K V 0 7 (t + 4) ≠ 0 then (nbF K V 0 7 (t + 4), t + 4) else (0, t + 5))
  else if k = 7 then (if nbF K V 1 30 t ≠ 0 then (nbF K V 1 30 t, t) else (0, t + 1))
  else (if nbF K V 0 5 t ≠ 0 then (nbF K V 0 5 t, t) else (0, t + 1))
def nbR (V : Nat → Int) (k : Int) (c t : Nat) (g : Nat → Int) : Nat → Int := if k = 4 then setN (setN (setN g (c * 3) (V t)) (c * 3 + 1) (V (t + 2))) (c * 3 + 2) (V (t + 4)) else setN g (c * 3) (V t)
def ST1 (K V : Nat → Int) (j : Nat) (M M1 : Mem) (t : Nat) (nb : Nat → Int) : Prop := (∀ o, o ≠ 114 → o ≠ 95 + 6 * j → M1 o = M o) ∧ (∀ k, k ≠ 6 → k ≠ 7 → k ≠ 8 → M1 114 k = M 114 k) ∧ M1 (95 + 6 * j) = nb ∧ CR K V M1 t
def FB (Pl : Nat → Int) (j : Nat) (M M1 : Mem) (f : Int) (t : Nat) : Prop := (∀ o, o ≠ 114 → o ≠ 95 + 6 * j → M1 o = M o) ∧ (∀ k, k ≠ 6 → k ≠ 7 → k ≠ 8 → k ≠ 11 → k ≠ 12 → M1 114 k = M 114 k) ∧ M1 114 11 = f ∧ M1 114 12 = Pl t
theorem ST1.tr {K V : Nat → Int} {j : Nat} {M M1 M2 : Mem} {t1 t2 : Nat} {g1 g2 : Nat → Int} (h : ST1 K V j M M1 t1 g1) (h2 : ST1 K V j M1 M2 t2 g2) : ST1 K V j M M2 t2 g2 := ⟨fun o a b => (h2.1 o a b).trans (h.1 o a b), fun k a b c => (h2.2.1 k a b c).trans (h.2.1 k a b c), h2.2.2⟩
theorem ST1.fb {K V Pl : Nat → Int} {j : Nat} {M M1 M2 : Mem} {t1 t2 : Nat} {g1 : Nat → Int} {f : Int} (h : ST1 K V j M M1 t1 g1) (h2 : FB Pl j M1 M2 f t2) : FB Pl j M M2 f t2 := ⟨fun o a b => (h2.1 o a b).trans (h.1 o a b), fun k a b c e e2 => (h2.2.1 k a b c e e2).trans (h.2.1 k a b c), h2.2.2⟩
theorem ST1.tk {K V Pl : Nat → Int} {j : Nat} (hj : j < 4) {M M1 : Mem} {t1 : Nat} {g1 : Nat → Int} (h : ST1 K V j M M1 t1 g1) (hT : TK K V Pl M) : TK K V Pl M1 := by
  unfold TK tIn at hT ⊢
  rw [h.1 116 (by omega) (by omega), h.1 117 (by omega) (by omega), h.1 118 (by omega) (by omega), h.2.1 5 (by decide) (by decide) (by decide)]
  exact hT
theorem adv_st {K V Pl : Nat → Int} {j : Nat} (hj : j < 4) {M : Mem} {t : Nat} (hT : TK K V Pl M) (h : CR K V M t) : ST1 K V j M (advM M) (t + 1) (M (95 + 6 * j)) := by
  have a := adv_rs (j := 3) (by decide) hT h
  have b : ∀ o, o ≠ 114 → advM M o = M o := fun o ho => by unfold advM; rw [up_row ho, up_row ho, up_row ho]
  exact ⟨fun o h1 _ => b o h1, fun k h6 h7 h8 => by unfold advM; rw [up_k h8, up_k h7, up_k h6], b _ (by omega), a.2⟩
theorem num_st {K V Pl : Nat → Int} {j : Nat} (hj : j < 4) {M : Mem} {t : Nat} (hT : TK K V Pl M) (h : CR K V M t) {i : Nat} {v : Int} : ST1 K V j M (advM (up M (95 + 6 * j) i v)) (t + 1) (setN (M (95 + 6 * j)) i v) := by
  have h0 : ST1 K V j M (up M (95 + 6 * j) i v) t (setN (M (95 + 6 * j)) i v) := ⟨fun o _ b => up_row b, fun k _ _ _ => up_o (by omega), up_set _ _ _ _, by unfold CR; rw [up_row (by omega)]; exact h⟩
  have h1 := adv_st hj (h0.tk hj hT) h0.2.2.2
  rw [h0.2.2.1] at h1
  exact h0.tr h1
theorem ref_fb {K V Pl : Nat → Int} {j : Nat} (hj : j < 4) {M : Mem} {t : Nat} {f : Int} (ht : t ≤ 300) (hT : TK K V Pl M) (h : CR K V M t) : FB Pl j M (refM M f) f t := by
  have a := ref_rf (j := j) (f := f) hj ht hT h
  have b : ∀ o, o ≠ 114 → refM M f o = M o := fun o ho => by unfold refM; rw [up_row ho, up_row ho]
  exact ⟨fun o h1 _ => b o h1, a.1.2.1, a.2⟩
section DEED
variable {l : Launch} {w : Wd} {d : Nat} {M : Mem} {Q : Option MV → Mem → Prop} {K V Pl : Nat → Int} {j : Nat}
/-- a number read, in these words -/
theorem num_w (hj : j < 4) (hT : TK K V Pl M) {t : Nat} (ht : t ≤ 300) (hC : CR K V M t) {i : Nat} {a b x : Int} {M1 : Mem} (hx : (M 114 7 = 1 ∧ (a ≤ M 114 8 ∧ M 114 8 ≤ b) ∧ x = 1 ∧ M1 = advM (up M (95 + 6 * j) i (M 114 8))) ∨ (M 114 7 = 1 ∧ ¬ (a ≤ M 114 8 ∧ M 114 8 ≤ b) ∧ x = 0 ∧ M1 = refM M 2) ∨ (M 114 7 ≠ 1 ∧ x = 0 ∧ M1 = refM M 1)) : (nbF K V a b t = 0 ∧ x = 1 ∧ ST1 K V j M M1 (t + 1) (setN (M (95 + 6 * j)) i (V t))) ∨ (nbF K V a b t ≠ 0 ∧ x = 0 ∧ FB Pl j M M1 (nbF K V a b t) t) := by
  unfold nbF
  rw [hC.2.1, hC.2.2] at hx
  rcases hx with ⟨h1, h2, h3, h4⟩ | ⟨h1, h2, h3, h4⟩ | ⟨h1, h3, h4⟩
  · rw [if_pos h1, if_pos h2, h4]
    exact Or.inl ⟨rfl, h3, num_st hj hT hC⟩
  · rw [if_pos h1, if_neg h2, h4]
    exact Or.inr ⟨by decide, h3, ref_fb hj ht hT hC⟩
  · rw [if_neg h1, h4]
    exact Or.inr ⟨by decide, h3, ref_fb hj ht hT hC⟩
theorem word_w (hj : j < 4) (hT : TK K V Pl M) {t : Nat} (ht : t ≤ 300) (hC : CR K V M t) {k x : Int} {M1 : Mem} (hx : ((M 114 7 = 2 ∧ M 114 8 = k) ∧ x = 1 ∧ M1 = advM M) ∨ (¬ (M 114 7 = 2 ∧ M 114 8 = k) ∧ x = 0 ∧ M1 = refM M 1)) : (wdF K V k t = 0 ∧ x = 1 ∧ ST1 K V j M M1 (t + 1) (M (95 + 6 * j))) ∨ (wdF K V k t ≠ 0 ∧ x = 0 ∧ FB Pl j M M1 (wdF K V k t) t) := by
  unfold wdF
  rw [hC.2.1, hC.2.2] at hx
  rcases hx with ⟨h1, h3, h4⟩ | ⟨h1, h3, h4⟩
  · rw [if_pos h1, h4]
    exact Or.inl ⟨rfl, h3, adv_st hj hT hC⟩
  · rw [if_neg h1, h4]
    exact Or.inr ⟨by decide, h3, ref_fb hj ht hT hC⟩
theorem nb_lt {N : Nat} (hK : ∀ t, N ≤ t → K t = 0) {a b : Int} {t : Nat} (h : nbF K V a b t = 0) : t + 1 ≤ N := by
  have : ¬ N ≤ t := fun z => by
    unfold nbF at h
    rw [hK t z, if_neg (by decide)] at h
    exact absurd h (by decide)
  omega
theorem wd_lt {N : Nat} (hK : ∀ t, N ≤ t → K t = 0) {a : Int} {t : Nat} (h : wdF K V a t = 0) : t + 1 ≤ N := by
  have : ¬ N ≤ t := fun z => by
    unfold wdF at h
    rw [hK t z, if_neg (fun z => absurd z.1 (by decide))] at h
    exact absurd h (by decide)
  omega
theorem ct_X2_readDeed (hd : 3 ≤ d) (hj : j < 4) {N c t : Nat} (hN : N ≤ 300) (hK : ∀ t, N ≤ t → K t = 0) (hc : c < 24) (hT : TK K V Pl M) (hC : CR K V M t) (ht : t ≤ N) (hs : M (90 + 6 * j) 6 = c) {k : Int} : GI l w yX2_readDeed cX2_readDeed 3 .boolean d [vR 114, vR (90 + 6 * j), vI k] M (fun x M1 => ((ddF K V k t).1 = 0 ∧ x = 1 ∧ ST1 K V j M M1 (ddF K V k t).2 (nbR V k c t (M (95 + 6 * j)))) ∨ ((ddF K V k t).1 ≠ 0 ∧ x = 0 ∧ FB Pl j M M1 (ddF K V k t).1 (ddF K V k t).2)) := by
  have c6 := hC.1
  by_cases hk : k = 4
  · have er : ddF K V k t = (if nbF K V 0 11 t ≠ 0 then (nbF K V 0 11 t, t) else if wdF K V 8 (t + 1) ≠ 0 then (wdF K V 8 (t + 1), t + 1) else if nbF K V 0 5 (t + 2) ≠ 0 then (nbF K V 0 5 (t + 2), t + 2) else if wdF K V 9 (t + 3) ≠ 0 then (wdF K V 9 (t + 3), t + 3) else if nbF K V 0 7 (t + 4) ≠ 0 then (nbF K V 0 7 (t + 4), t + 4) else (0, t + 5)) := by unfold ddF; rw [if_pos hk]
    have en : nbR V k c t (M (95 + 6 * j)) = setN (setN (setN (M (95 + 6 * j)) (c * 3) (V t)) (c * 3 + 1) (V (t + 2))) (c * 3 + 2) (V (t + 4)) := by unfold nbR; rw [if_pos hk]
    rw [er, en]
    generalize hR : (if nbF K V 0 11 t ≠ 0 then (nbF K V 0 11 t, t) else if wdF K V 8 (t + 1) ≠ 0 then (wdF K V 8 (t + 1), t + 1) else if nbF K V 0 5 (t + 2) ≠ 0 then (nbF K V 0 5 (t + 2), t + 2) else if wdF K V 9 (t + 3) ≠ 0 then (wdF K V 9 (t + 3), t + 3) else if nbF K V 0 7 (t + 4) ≠ 0 then (nbF K V 0 7 (t + 4), t + 4) else (0, t + 5)) = r
    have h63 : ∀ (x : Int) (M1 : Mem), ((r.1 = 0 ∧ x = 1 ∧ ST1 K V j M M1 r.2 (setN (setN (setN (M (95 + 6 * j)) (c * 3) (V t)) (c * 3 + 1) (V (t + 2))) (c * 3 + 2) (V (t + 4)))) ∨ (r.1 ≠ 0 ∧ x = 0 ∧ FB Pl j M M1 r.1 r.2)) → ∃ y, some (vI x) = some (vI y) ∧ ((r.1 = 0 ∧ y = 1 ∧ ST1 K V j M M1 r.2 (setN (setN (setN (M (95 + 6 * j)) (c * 3) (V t)) (c * 3 + 1) (V (t + 2))) (c * 3 + 2) (V (t + 4)))) ∨ (r.1 ≠ 0 ∧ y = 0 ∧ FB Pl j M M1 r.1 r.2)) := fun x M1 h => ⟨x, rfl, h⟩
    refine MT.of [some (vR 114), some (vR (90 + 6 * j)), some (vI k)] ⟨by decide, rfl⟩ rfl (Nat.le_of_ble_eq_true rfl) (fun hA hM => ?_)
    refine e_iload2 dX2_readDeed_0 ?_
    refine e_iconst dX2_readDeed_1 rfl kc_4 ?_
    refine e_icmp_ne (tgt := 64) dX2_readDeed_2 (by decide) (fun h2 => ?_) (fun h2 => ?_)
    · omega
    · refine e_aload0 dX2_readDeed_5 ?_
      refine e_aload1 dX2_readDeed_6 ?_
      refine e_iconst dX2_readDeed_7 rfl kc_0 ?_
      refine e_iconst dX2_readDeed_8 rfl kc_0 ?_
      refine e_bipush dX2_readDeed_9 rfl kb_11 ?_
      refine e_cVGI (ct_X2_readNumber (d := d - 1) (by omega) (by omega) hj (by omega) (by omega)) cy_X2_readNumber cv_X2_readNumber ml_X2_178 la_114 rfl rfl rfl (rok (by omega) (by decide)) (Nat.le_of_ble_eq_true rfl) dX2_readDeed_11 (fun x1 M1 hx1 => ?_)
      rw [show (M (90 + 6 * j) 6 * 3 + 0).toNat = c * 3 by omega] at hx1
      rcases num_w hj hT (by omega) hC hx1 with ⟨n1, b1, s1⟩ | ⟨n1, b1, s1⟩
      rotate_left
      · subst b1
        rw [if_pos n1] at hR
        subst hR
        refine e_if_eq (tgt := 62) dX2_readDeed_14 (by decide) (fun _ => ?_) (fun h => absurd h (by decide))
        refine e_iconst dX2_readDeed_62 rfl kc_0 ?_
        refine e_zret dX2_readDeed_63 (by decide) ?_
        exact h63 _ _ (Or.inr ⟨n1, rfl, s1⟩)
      subst b1
      rw [if_neg (fun z => z n1)] at hR
      have t1 := nb_lt hK n1
      have T1 := s1.tk hj hT
      have C1 := s1.2.2.2
      have d6 := C1.1
      refine e_if_eq (tgt := 62) dX2_readDeed_14 (by decide) (fun h => absurd h (by decide)) (fun _ => ?_)
      refine e_aload0 dX2_readDeed_17 ?_
      refine e_bipush dX2_readDeed_18 rfl kb_8 ?_
      refine e_cVGI (ct_X2_readWord (d := d - 1) (by omega) (by omega)) cy_X2_readWord cv_X2_readWord ml_X2_182 la_114 rfl rfl rfl (rok (by omega) (by decide)) (Nat.le_of_ble_eq_true rfl) dX2_readDeed_20 (fun x2 M2 hx2 => ?_)
      rcases word_w hj T1 (by omega) C1 hx2 with ⟨n2, b2, s2⟩ | ⟨n2, b2, s2⟩
      rotate_left
      · subst b2
        rw [if_pos n2] at hR
        subst hR
        refine e_if_eq (tgt := 62) dX2_readDeed_23 (by decide) (fun _ => ?_) (fun h => absurd h (by decide))
        refine e_iconst dX2_readDeed_62 rfl kc_0 ?_
        refine e_zret dX2_readDeed_63 (by decide) ?_
        exact h63 _ _ (Or.inr ⟨n2, rfl, s1.fb s2⟩)
      subst b2
      rw [if_neg (fun z => z n2)] at hR
      have t2 := wd_lt hK n2
      have S2 := s1.tr s2
      rw [s1.2.2.1] at S2
      have T2 := S2.tk hj hT
      have C2' := S2.2.2.2
      have f6 := C2'.1
      have hs2 : M2 (90 + 6 * j) 6 = c := by rw [S2.1 _ (by omega) (by omega)]; exact hs
      refine e_if_eq (tgt := 62) dX2_readDeed_23 (by decide) (fun h => absurd h (by decide)) (fun _ => ?_)
      refine e_aload0 dX2_readDeed_26 ?_
      refine e_aload1 dX2_readDeed_27 ?_
      refine e_iconst dX2_readDeed_28 rfl kc_1 ?_
      refine e_iconst dX2_readDeed_29 rfl kc_0 ?_
      refine e_iconst dX2_readDeed_30 rfl kc_5 ?_
      refine e_cVGI (ct_X2_readNumber (d := d - 1) (by omega) (by omega) hj (by omega) (by omega)) cy_X2_readNumber cv_X2_readNumber ml_X2_178 la_114 rfl rfl rfl (rok (by omega) (by decide)) (Nat.le_of_ble_eq_true rfl) dX2_readDeed_31 (fun x3 M3 hx3 => ?_)
      rw [show (M2 (90 + 6 * j) 6 * 3 + 1).toNat = c * 3 + 1 by omega] at hx3
      rcases num_w hj T2 (by omega) C2' hx3 with ⟨n3, b3, s3⟩ | ⟨n3, b3, s3⟩
      rotate_left
      · subst b3
        rw [if_pos n3] at hR
        subst hR
        refine e_if_eq (tgt := 62) dX2_readDeed_34 (by decide) (fun _ => ?_) (fun h => absurd h (by decide))
        refine e_iconst dX2_readDeed_62 rfl kc_0 ?_
        refine e_zret dX2_readDeed_63 (by decide) ?_
        exact h63 _ _ (Or.inr ⟨n3, rfl, S2.fb s3⟩)
      subst b3
      rw [if_neg (fun z => z n3)] at hR
      have t3 := nb_lt hK n3
      rw [S2.2.2.1] at s3
      have S3 := S2.tr s3
      have T3 := S3.tk hj hT
      have C3' := S3.2.2.2
      have k6 := C3'.1
      refine e_if_eq (tgt := 62) dX2_readDeed_34 (by decide) (fun h => absurd h (by decide)) (fun _ => ?_)
      refine e_aload0 dX2_readDeed_37 ?_
      refine e_bipush dX2_readDeed_38 rfl kb_9 ?_
      refine e_cVGI (ct_X2_readWord (d := d - 1) (by omega) (by omega)) cy_X2_readWord cv_X2_readWord ml_X2_182 la_114 rfl rfl rfl (rok (by omega) (by decide)) (Nat.le_of_ble_eq_true rfl) dX2_readDeed_40 (fun x4 M4 hx4 => ?_)
      rcases word_w hj T3 (by omega) C3' hx4 with ⟨n4, b4, s4⟩ | ⟨n4, b4, s4⟩
      rotate_left
      · subst b4
        rw [if_pos n4] at hR
        subst hR
        refine e_if_eq (tgt := 62) dX2_readDeed_43 (by decide) (fun _ => ?_) (fun h => absurd h (by decide))
        refine e_iconst dX2_readDeed_62 rfl kc_0 ?_
        refine e_zret dX2_readDeed_63 (by decide) ?_
        exact h63 _ _ (Or.inr ⟨n4, rfl, S3.fb s4⟩)
      subst b4
      rw [if_neg (fun z => z n4)] at hR
      have t4 := wd_lt hK n4
      have S4 := S3.tr s4
      rw [S3.2.2.1] at S4
      have T4 := S4.tk hj hT
      have C4' := S4.2.2.2
      have m6 := C4'.1
      have hs4 : M4 (90 + 6 * j) 6 = c := by rw [S4.1 _ (by omega) (by omega)]; exact hs
      refine e_if_eq (tgt := 62) dX2_readDeed_43 (by decide) (fun h => absurd h (by decide)) (fun _ => ?_)
      refine e_aload0 dX2_readDeed_46 ?_
      refine e_aload1 dX2_readDeed_47 ?_
      refine e_iconst dX2_readDeed_48 rfl kc_2 ?_
      refine e_iconst dX2_readDeed_49 rfl kc_0 ?_
      refine e_bipush dX2_readDeed_50 rfl kb_7 ?_
      refine e_cVGI (ct_X2_readNumber (d := d - 1) (by omega) (by omega) hj (by omega) (by omega)) cy_X2_readNumber cv_X2_readNumber ml_X2_178 la_114 rfl rfl rfl (rok (by omega) (by decide)) (Nat.le_of_ble_eq_true rfl) dX2_readDeed_52 (fun x5 M5 hx5 => ?_)
      rw [show (M4 (90 + 6 * j) 6 * 3 + 2).toNat = c * 3 + 2 by omega] at hx5
      rcases num_w hj T4 (by omega) C4' hx5 with ⟨n5, b5, s5⟩ | ⟨n5, b5, s5⟩
      · subst b5
        rw [if_neg (fun z => z n5)] at hR
        subst hR
        rw [S4.2.2.1] at s5
        refine e_if_eq (tgt := 62) dX2_readDeed_55 (by decide) (fun h => absurd h (by decide)) (fun _ => ?_)
        refine e_iconst dX2_readDeed_58 rfl kc_1 ?_
        refine e_goto (tgt := 63) dX2_readDeed_59 (by decide) ?_
        refine e_zret dX2_readDeed_63 (by decide) ?_
        exact h63 _ _ (Or.inl ⟨rfl, rfl, S4.tr s5⟩)
      · subst b5
        rw [if_pos n5] at hR
        subst hR
        refine e_if_eq (tgt := 62) dX2_readDeed_55 (by decide) (fun _ => ?_) (fun h => absurd h (by decide))
        refine e_iconst dX2_readDeed_62 rfl kc_0 ?_
        refine e_zret dX2_readDeed_63 (by decide) ?_
        exact h63 _ _ (Or.inr ⟨n5, rfl, S4.fb s5⟩)
  · have en : nbR V k c t (M (95 + 6 * j)) = setN (M (95 + 6 * j)) (c * 3) (V t) := by unfold nbR; rw [if_neg hk]
    have er : ∀ a b, (if k = 7 then (1 : Int) else 0) = a → (if k = 7 then (30 : Int) else 5) = b → ddF K V k t = if nbF K V a b t ≠ 0 then (nbF K V a b t, t) else (0, t + 1) := by
      intro a b ha hb
      unfold ddF
      rw [if_neg hk]
      by_cases h7 : k = 7
      · rw [if_pos h7] at ha hb ⊢; subst ha; subst hb; rfl
      · rw [if_neg h7] at ha hb ⊢; subst ha; subst hb; rfl
    rw [en]
    have fin : ∀ (a b x : Int) (M1 : Mem), (if k = 7 then (1 : Int) else 0) = a → (if k = 7 then (30 : Int) else 5) = b → ((nbF K V a b t = 0 ∧ x = 1 ∧ ST1 K V j M M1 (t + 1) (setN (M (95 + 6 * j)) (c * 3) (V t))) ∨ (nbF K V a b t ≠ 0 ∧ x = 0 ∧ FB Pl j M M1 (nbF K V a b t) t)) → (x = 0 ∨ x = 1) ∧ (((ddF K V k t).1 = 0 ∧ x = 1 ∧ ST1 K V j M M1 (ddF K V k t).2 (setN (M (95 + 6 * j)) (c * 3) (V t))) ∨ ((ddF K V k t).1 ≠ 0 ∧ x = 0 ∧ FB Pl j M M1 (ddF K V k t).1 (ddF K V k t).2)) := by
      intro a b x M1 ha hb h
      rw [er a b ha hb]
      rcases h with ⟨n1, b1, s1⟩ | ⟨n1, b1, s1⟩
      · rw [if_neg (fun z => z n1)]
        exact ⟨Or.inr b1, Or.inl ⟨rfl, b1, s1⟩⟩
      · rw [if_pos n1]
        exact ⟨Or.inl b1, Or.inr ⟨n1, b1, s1⟩⟩
    refine MT.of [some (vR 114), some (vR (90 + 6 * j)), some (vI k)] ⟨by decide, rfl⟩ rfl (Nat.le_of_ble_eq_true rfl) (fun hA hM => ?_)
    refine e_iload2 dX2_readDeed_0 ?_
    refine e_iconst dX2_readDeed_1 rfl kc_4 ?_
    refine e_icmp_ne (tgt := 64) dX2_readDeed_2 (by decide) (fun h2 => ?_) (fun h2 => ?_)
    · refine e_iload2 dX2_readDeed_64 ?_
      refine e_bipush dX2_readDeed_65 rfl kb_7 ?_
      refine e_icmp_ne (tgt := 80) dX2_readDeed_67 (by decide) (fun h67 => ?_) (fun h67 => ?_)
      · refine e_aload0 dX2_readDeed_80 ?_
        refine e_aload1 dX2_readDeed_81 ?_
        refine e_iconst dX2_readDeed_82 rfl kc_0 ?_
        refine e_iconst dX2_readDeed_83 rfl kc_0 ?_
        refine e_iconst dX2_readDeed_84 rfl kc_5 ?_
        refine e_cVGI (ct_X2_readNumber (d := d - 1) (by omega) (by omega) hj (by omega) (by omega)) cy_X2_readNumber cv_X2_readNumber ml_X2_178 la_114 rfl rfl rfl (rok (by omega) (by decide)) (Nat.le_of_ble_eq_true rfl) dX2_readDeed_85 (fun x1 M1 hx1 => ?_)
        rw [show (M (90 + 6 * j) 6 * 3 + 0).toNat = c * 3 by omega] at hx1
        have hf := fin _ _ _ _ (by rw [if_neg (by omega)]) (by rw [if_neg (by omega)]) (num_w hj hT (by omega) hC hx1)
        have hf1 := hf.1
        refine e_zret dX2_readDeed_88 (by omega) ?_
        exact ⟨_, rfl, hf.2⟩
      · refine e_aload0 dX2_readDeed_70 ?_
        refine e_aload1 dX2_readDeed_71 ?_
        refine e_iconst dX2_readDeed_72 rfl kc_0 ?_
        refine e_iconst dX2_readDeed_73 rfl kc_1 ?_
        refine e_bipush dX2_readDeed_74 rfl kb_30 ?_
        refine e_cVGI (ct_X2_readNumber (d := d - 1) (by omega) (by omega) hj (by omega) (by omega)) cy_X2_readNumber cv_X2_readNumber ml_X2_178 la_114 rfl rfl rfl (rok (by omega) (by decide)) (Nat.le_of_ble_eq_true rfl) dX2_readDeed_76 (fun x1 M1 hx1 => ?_)
        rw [show (M (90 + 6 * j) 6 * 3 + 0).toNat = c * 3 by omega] at hx1
        have hf := fin _ _ _ _ (by rw [if_pos (by omega)]) (by rw [if_pos (by omega)]) (num_w hj hT (by omega) hC hx1)
        have hf1 := hf.1
        refine e_zret dX2_readDeed_79 (by omega) ?_
        exact ⟨_, rfl, hf.2⟩
    · omega
end DEED
