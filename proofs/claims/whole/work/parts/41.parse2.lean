/-! THE READER AND THE LANGUAGE -/
def RF (j : Nat) (M M1 : Mem) : Prop := (∀ o, o ≠ 114 → o ≠ 90 + 6 * j → o ≠ 91 + 6 * j → M1 o = M o) ∧ (∀ k, k ≠ 6 → k ≠ 7 → k ≠ 8 → k ≠ 11 → k ≠ 12 → M1 114 k = M 114 k) ∧ (∀ k, k ≠ 1 → M1 (90 + 6 * j) k = M (90 + 6 * j) k)
def RS (j : Nat) (M M1 : Mem) (cs : List Int) : Prop := RF j M M1 ∧ M1 (90 + 6 * j) 1 = M (90 + 6 * j) 1 + cs.length ∧ (∀ k : Nat, (k : Int) < M (90 + 6 * j) 1 → M1 (91 + 6 * j) k = M (91 + 6 * j) k) ∧ seg (M1 (91 + 6 * j)) (M (90 + 6 * j) 1).toNat cs.length = cs ∧ M1 114 11 = M 114 11 ∧ M1 114 12 = M 114 12
def TK (K V Pl : Nat → Int) (M : Mem) : Prop := (∀ t : Nat, (if tIn M t then M 116 t else 0) = K t) ∧ (∀ t : Nat, (if tIn M t then M 118 t else 0) = V t) ∧ (∀ t : Nat, t ≤ 300 → M 117 t = Pl t)
def CR (K V : Nat → Int) (M : Mem) (t : Nat) : Prop := M 114 6 = t ∧ M 114 7 = K t ∧ M 114 8 = V t
def OUTR (j : Nat) (K V Pl : Nat → Int) (M : Mem) (r : Int × Nat × List Int) (x : Int) (M1 : Mem) : Prop := (r.1 = 0 ∧ x = 1 ∧ RS j M M1 r.2.2 ∧ CR K V M1 r.2.1) ∨ (r.1 ≠ 0 ∧ x = 0 ∧ RF j M M1 ∧ M1 114 11 = r.1 ∧ M1 114 12 = Pl r.2.1)
theorem RF.rf (j : Nat) (M : Mem) : RF j M M := ⟨fun _ _ _ _ => rfl, fun _ _ _ _ _ _ => rfl, fun _ _ => rfl⟩
theorem RF.tr {j : Nat} {M M1 M2 : Mem} (h : RF j M M1) (h2 : RF j M1 M2) : RF j M M2 := ⟨fun o a b c => (h2.1 o a b c).trans (h.1 o a b c), fun k a b c d e => (h2.2.1 k a b c d e).trans (h.2.1 k a b c d e), fun k a => (h2.2.2 k a).trans (h.2.2 k a)⟩
theorem RS.nil (j : Nat) (M : Mem) : RS j M M [] := ⟨RF.rf j M, by simp, fun _ _ => rfl, rfl, rfl, rfl⟩
theorem seg_app (f : Nat → Int) : ∀ (n m a : Nat), seg f a (n + m) = seg f a n ++ seg f (a + n) m
  | n, 0, a => by rw [Nat.add_zero]; unfold seg; rw [List.append_nil]
  | n, m + 1, a => by rw [← Nat.add_assoc, seg_snoc, seg_app f n m a, seg_snoc, List.append_assoc, Nat.add_assoc]
theorem RS.tr {j : Nat} {M M1 M2 : Mem} {c1 c2 : List Int} (hs : 0 ≤ M (90 + 6 * j) 1) (h : RS j M M1 c1) (h2 : RS j M1 M2 c2) : RS j M M2 (c1 ++ c2) := by
  obtain ⟨a1, a2, a3, a4, a5, a6⟩ := h
  obtain ⟨b1, b2, b3, b4, b5, b6⟩ := h2
  refine ⟨a1.tr b1, by rw [b2, a2, List.length_append]; omega, fun k hk => (b3 k (by omega)).trans (a3 k hk), ?_, b5.trans a5, b6.trans a6⟩
  rw [List.length_append, seg_app]
  have e1 : seg (M2 (91 + 6 * j)) (M (90 + 6 * j) 1).toNat c1.length = c1 := by
    rw [← a4]
    rw [seg_len]
    exact seg_congr _ _ (fun k _ hk => b3 k (by omega))
  have e2 : (M (90 + 6 * j) 1).toNat + c1.length = (M1 (90 + 6 * j) 1).toNat := by omega
  rw [e1, e2, b4]
theorem RS.code {j : Nat} (hj : j < 4) {M : Mem} {c : Int} (hs : 0 ≤ M (90 + 6 * j) 1) : RS j M (addK M j c) [c] := by
  unfold addK
  refine ⟨⟨fun o a b e => by rw [up_row b, up_row e], fun k _ _ _ _ _ => by rw [up_o (by omega), up_o (by omega)], fun k a => by rw [up_k a, up_o (by omega)]⟩, by rw [up_s]; simp, fun k hk => by rw [up_o (by omega), up_k (by omega)], ?_, by rw [up_o (by omega), up_o (by omega)], by rw [up_o (by omega), up_o (by omega)]⟩
  show seg _ _ 1 = [c]
  rw [seg_snoc]
  unfold seg
  rw [Nat.add_zero, up_o (by omega), up_s, List.nil_append]
theorem TK.fr {K V Pl : Nat → Int} {j : Nat} (hj : j < 4) {M M1 : Mem} (hf : RF j M M1) (h : TK K V Pl M) : TK K V Pl M1 := by
  unfold TK tIn at h ⊢
  rw [hf.1 116 (by omega) (by omega) (by omega), hf.1 117 (by omega) (by omega) (by omega), hf.1 118 (by omega) (by omega) (by omega), hf.2.1 5 (by decide) (by decide) (by decide) (by decide) (by decide)]
  exact h
theorem CR.code {K V : Nat → Int} {j : Nat} (hj : j < 4) {M : Mem} {c : Int} {t : Nat} (h : CR K V M t) : CR K V (addK M j c) t := by
  unfold CR addK
  rw [up_row (by omega), up_row (by omega)]
  exact h
theorem adv_rs {K V Pl : Nat → Int} {j : Nat} (hj : j < 4) {M : Mem} {t : Nat} (hT : TK K V Pl M) (h : CR K V M t) : RS j M (advM M) [] ∧ CR K V (advM M) (t + 1) := by
  have e6 : M 114 6 + 1 = ((t + 1 : Nat) : Int) := by have := h.1; omega
  unfold advM
  rw [e6, Int.toNat_natCast, hT.1 (t + 1), hT.2.1 (t + 1)]
  have ro : ∀ o, o ≠ 114 → up (up (up M 114 6 ((t + 1 : Nat) : Int)) 114 7 (K (t + 1))) 114 8 (V (t + 1)) o = M o := fun o ho => by rw [up_row ho, up_row ho, up_row ho]
  have rk : ∀ k, k ≠ 6 → k ≠ 7 → k ≠ 8 → up (up (up M 114 6 ((t + 1 : Nat) : Int)) 114 7 (K (t + 1))) 114 8 (V (t + 1)) 114 k = M 114 k := fun k a b c => by rw [up_k c, up_k b, up_k a]
  refine ⟨⟨⟨fun o a _ _ => ro o a, fun k a b c _ _ => rk k a b c, fun k _ => by rw [ro _ (by omega)]⟩, by rw [ro _ (by omega)]; simp, fun k _ => by rw [ro _ (by omega)], rfl, rk 11 (by decide) (by decide) (by decide), rk 12 (by decide) (by decide) (by decide)⟩, ?_, ?_, up_s _ _ _ _⟩
  · rw [up_k (by decide), up_k (by decide), up_s]
  · rw [up_k (by decide), up_s]
theorem ref_rf {K V Pl : Nat → Int} {j : Nat} (hj : j < 4) {M : Mem} {t : Nat} {f : Int} (ht : t ≤ 300) (hT : TK K V Pl M) (h : CR K V M t) : RF j M (refM M f) ∧ refM M f 114 11 = f ∧ refM M f 114 12 = Pl t := by
  unfold refM
  rw [h.1, Int.toNat_natCast, if_pos (by omega), hT.2.2 t ht]
  have ro : ∀ o, o ≠ 114 → up (up M 114 11 f) 114 12 (Pl t) o = M o := fun o ho => by rw [up_row ho, up_row ho]
  exact ⟨⟨fun o a _ _ => ro o a, fun k _ _ _ a b => by rw [up_k b, up_k a], fun k _ => by rw [ro _ (by omega)]⟩, by rw [up_k (by decide), up_s], up_s _ _ _ _⟩
theorem out_ref {K V Pl : Nat → Int} {j : Nat} (hj : j < 4) {M : Mem} {t : Nat} {f : Int} (hf : f ≠ 0) (ht : t ≤ 300) (hT : TK K V Pl M) (h : CR K V M t) : OUTR j K V Pl M (f, t, []) 0 (refM M f) := by
  have := ref_rf (f := f) hj ht hT h
  exact Or.inr ⟨hf, rfl, this.1, this.2.1, this.2.2⟩
section PARSE
variable {l : Launch} {w : Wd} {d : Nat} {M : Mem} {Q : Option MV → Mem → Prop} {K V Pl : Nat → Int} {j : Nat} {law : Int}
theorem ct_X2_readLeaf (hd : 2 ≤ d) (hj : j < 4) (hT : TK K V Pl M) {t : Nat} (ht : t < 300) (hC : CR K V M t) (hk : K t = 1 ∨ K t = 2) (hV : -1 ≤ V t ∧ V t ≤ 10000) (hl : M 114 9 = law) (hs : 0 ≤ M (90 + 6 * j) 1 ∧ M (90 + 6 * j) 1 < 300) : GI l w yX2_readLeaf cX2_readLeaf 4 .boolean d [vR 114, vR (90 + 6 * j)] M (fun x M1 => OUTR j K V Pl M (lf K V law t) x M1) := by
  have c6 := hC.1
  have c7 := hC.2.1
  have c8 := hC.2.2
  have href : ∀ (f : Int), f ≠ 0 → lf K V law t = (f, t, []) → OUTR j K V Pl M (lf K V law t) 0 (refM M f) := fun f hf e => by rw [e]; exact out_ref hj hf (by omega) hT hC
  have hok : ∀ c, lf K V law t = (0, t + 1, [c]) → OUTR j K V Pl M (lf K V law t) 1 (advM (addK M j c)) := fun c e => by
    rw [e]
    have h1 := RS.code (M := M) (c := c) hj hs.1
    have h2 := adv_rs hj (hT.fr hj h1.1) (hC.code (c := c) hj)
    exact Or.inl ⟨rfl, rfl, h1.tr hs.1 h2.1, h2.2⟩
  by_cases hn : K t = 2
  · have e1 : lf K V law t = (if V t < 10 ∨ 18 ≤ V t then (1, t, []) else if 16 ≤ V t ∧ law ≠ 0 then (5, t, []) else (0, t + 1, [9990 + V t])) := by unfold lf; rw [if_pos hn]
    refine MT.of [some (vR 114), some (vR (90 + 6 * j)), none, none] ⟨by decide, rfl⟩ rfl (Nat.le_of_ble_eq_true rfl) (fun hA hM => ?_)
    refine e_aload0 dX2_readLeaf_0 ?_
    refine e_getI fl_X2_34 la_114 rfl dX2_readLeaf_1 ?_
    refine WW.ec (y := (2 : Int)) (by rw [c7, hn]) ?_
    refine e_iconst dX2_readLeaf_4 rfl kc_2 ?_
    refine e_icmp_ne (tgt := 12) dX2_readLeaf_5 (by decide) (fun h => absurd h (by omega)) (fun h5 => ?_)
    refine e_iconst dX2_readLeaf_8 rfl kc_1 ?_
    refine e_goto (tgt := 13) dX2_readLeaf_9 (by decide) ?_
    refine e_istore2 dX2_readLeaf_13 rfl ?_
    refine e_aload0 dX2_readLeaf_14 ?_
    refine e_getI fl_X2_37 la_114 rfl dX2_readLeaf_15 ?_
    refine WW.ec (y := V t) (c8) ?_
    refine e_bipush dX2_readLeaf_18 rfl kb_10 ?_
    refine e_isub dX2_readLeaf_20 (⟨by omega, by omega⟩) ?_
    refine e_istore3 dX2_readLeaf_21 rfl ?_
    refine e_iload2 dX2_readLeaf_22 ?_
    refine e_if_eq (tgt := 42) dX2_readLeaf_23 (by decide) (fun h => absurd h (by decide)) (fun _ => ?_)
    refine e_iload3 dX2_readLeaf_26 ?_
    refine e_if_lt (tgt := 36) dX2_readLeaf_27 (by decide) (fun h27 => ?_) (fun h27 => ?_)
    · refine e_aload0 dX2_readLeaf_36 ?_
      refine e_iconst dX2_readLeaf_37 rfl kc_1 ?_
      refine e_cVGI (ct_X2_refuse (d := d - 1) (by omega)) cy_X2_refuse cv_X2_refuse ml_X2_152 la_114 rfl rfl rfl (rok (by omega) (by decide)) (Nat.le_of_ble_eq_true rfl) dX2_readLeaf_38 (fun x M1 hx => ?_)
      obtain ⟨rfl, rfl⟩ := hx
      refine e_zret dX2_readLeaf_41 (by decide) ?_
      exact ⟨_, rfl, href 1 (by decide) (by rw [e1, if_pos (by omega)])⟩
    · refine e_iload3 dX2_readLeaf_30 ?_
      refine e_bipush dX2_readLeaf_31 rfl kb_8 ?_
      refine e_icmp_lt (tgt := 42) dX2_readLeaf_33 (by decide) (fun h33 => ?_) (fun h33 => ?_)
      · refine e_iload2 dX2_readLeaf_42 ?_
        refine e_if_ne (tgt := 62) dX2_readLeaf_43 (by decide) (fun _ => ?_) (fun h => absurd h (by decide))
        refine e_iload2 dX2_readLeaf_62 ?_
        refine e_if_eq (tgt := 85) dX2_readLeaf_63 (by decide) (fun h => absurd h (by decide)) (fun _ => ?_)
        refine e_iload3 dX2_readLeaf_66 ?_
        refine e_bipush dX2_readLeaf_67 rfl kb_6 ?_
        refine e_icmp_lt (tgt := 85) dX2_readLeaf_69 (by decide) (fun h69 => ?_) (fun h69 => ?_)
        · refine e_aload1 dX2_readLeaf_85 ?_
          refine e_iload2 dX2_readLeaf_86 ?_
          refine e_if_eq (tgt := 98) dX2_readLeaf_87 (by decide) (fun h => absurd h (by decide)) (fun _ => ?_)
          refine e_sipush dX2_readLeaf_90 rfl ks_10000 ?_
          refine e_iload3 dX2_readLeaf_93 ?_
          refine e_iadd dX2_readLeaf_94 (⟨by omega, by omega⟩) ?_
          refine WW.ec (y := 9990 + V t) (by omega) ?_
          refine e_goto (tgt := 102) dX2_readLeaf_95 (by decide) ?_
          refine e_cVV (ct_X3_addCode (d := d - 1) (by omega) hj hs) cy_X3_addCode cv_X3_addCode ml_X2_191 (la_S0 hj) rfl rfl rfl (rok (by omega) (by decide)) (Nat.le_of_ble_eq_true rfl) dX2_readLeaf_102 ?_
          refine e_aload0 dX2_readLeaf_105 ?_
          refine e_cVV (ct_X2_advance (d := d - 1) (by omega) (by unfold addK; rw [up_row (by omega), up_row (by omega)]; omega)) cy_X2_advance cv_X2_advance ml_X2_61 la_114 rfl rfl rfl (rok (by omega) (by decide)) (Nat.le_of_ble_eq_true rfl) dX2_readLeaf_106 ?_
          refine e_iconst dX2_readLeaf_109 rfl kc_1 ?_
          refine e_zret dX2_readLeaf_110 (by decide) ?_
          exact ⟨_, rfl, hok _ (by rw [e1, if_neg (by omega), if_neg (by omega)])⟩
        · refine e_aload0 dX2_readLeaf_72 ?_
          refine e_getI fl_X2_40 la_114 rfl dX2_readLeaf_73 ?_
          refine WW.ec (y := law) (hl) ?_
          refine e_if_eq (tgt := 85) dX2_readLeaf_76 (by decide) (fun h76 => ?_) (fun h76 => ?_)
          · refine e_aload1 dX2_readLeaf_85 ?_
            refine e_iload2 dX2_readLeaf_86 ?_
            refine e_if_eq (tgt := 98) dX2_readLeaf_87 (by decide) (fun h => absurd h (by decide)) (fun _ => ?_)
            refine e_sipush dX2_readLeaf_90 rfl ks_10000 ?_
            refine e_iload3 dX2_readLeaf_93 ?_
            refine e_iadd dX2_readLeaf_94 (⟨by omega, by omega⟩) ?_
            refine WW.ec (y := 9990 + V t) (by omega) ?_
            refine e_goto (tgt := 102) dX2_readLeaf_95 (by decide) ?_
            refine e_cVV (ct_X3_addCode (d := d - 1) (by omega) hj hs) cy_X3_addCode cv_X3_addCode ml_X2_191 (la_S0 hj) rfl rfl rfl (rok (by omega) (by decide)) (Nat.le_of_ble_eq_true rfl) dX2_readLeaf_102 ?_
            refine e_aload0 dX2_readLeaf_105 ?_
            refine e_cVV (ct_X2_advance (d := d - 1) (by omega) (by unfold addK; rw [up_row (by omega), up_row (by omega)]; omega)) cy_X2_advance cv_X2_advance ml_X2_61 la_114 rfl rfl rfl (rok (by omega) (by decide)) (Nat.le_of_ble_eq_true rfl) dX2_readLeaf_106 ?_
            refine e_iconst dX2_readLeaf_109 rfl kc_1 ?_
            refine e_zret dX2_readLeaf_110 (by decide) ?_
            exact ⟨_, rfl, hok _ (by rw [e1, if_neg (by omega), if_neg (by omega)])⟩
          · refine e_aload0 dX2_readLeaf_79 ?_
            refine e_iconst dX2_readLeaf_80 rfl kc_5 ?_
            refine e_cVGI (ct_X2_refuse (d := d - 1) (by omega)) cy_X2_refuse cv_X2_refuse ml_X2_152 la_114 rfl rfl rfl (rok (by omega) (by decide)) (Nat.le_of_ble_eq_true rfl) dX2_readLeaf_81 (fun x M1 hx => ?_)
            obtain ⟨rfl, rfl⟩ := hx
            refine e_zret dX2_readLeaf_84 (by decide) ?_
            exact ⟨_, rfl, href 5 (by decide) (by rw [e1, if_neg (by omega), if_pos (by omega)])⟩
      · refine e_aload0 dX2_readLeaf_36 ?_
        refine e_iconst dX2_readLeaf_37 rfl kc_1 ?_
        refine e_cVGI (ct_X2_refuse (d := d - 1) (by omega)) cy_X2_refuse cv_X2_refuse ml_X2_152 la_114 rfl rfl rfl (rok (by omega) (by decide)) (Nat.le_of_ble_eq_true rfl) dX2_readLeaf_38 (fun x M1 hx => ?_)
        obtain ⟨rfl, rfl⟩ := hx
        refine e_zret dX2_readLeaf_41 (by decide) ?_
        exact ⟨_, rfl, href 1 (by decide) (by rw [e1, if_pos (by omega)])⟩
  · have e1 : lf K V law t = (if 9999 < V t then (2, t, []) else (0, t + 1, [V t])) := by unfold lf; rw [if_neg hn]
    have hk1 : K t = 1 := by omega
    refine MT.of [some (vR 114), some (vR (90 + 6 * j)), none, none] ⟨by decide, rfl⟩ rfl (Nat.le_of_ble_eq_true rfl) (fun hA hM => ?_)
    refine e_aload0 dX2_readLeaf_0 ?_
    refine e_getI fl_X2_34 la_114 rfl dX2_readLeaf_1 ?_
    refine WW.ec (y := (1 : Int)) (by rw [c7, hk1]) ?_
    refine e_iconst dX2_readLeaf_4 rfl kc_2 ?_
    refine e_icmp_ne (tgt := 12) dX2_readLeaf_5 (by decide) (fun h5 => ?_) (fun h => absurd h (by omega))
    refine e_iconst dX2_readLeaf_12 rfl kc_0 ?_
    refine e_istore2 dX2_readLeaf_13 rfl ?_
    refine e_aload0 dX2_readLeaf_14 ?_
    refine e_getI fl_X2_37 la_114 rfl dX2_readLeaf_15 ?_
    refine WW.ec (y := V t) (c8) ?_
    refine e_bipush dX2_readLeaf_18 rfl kb_10 ?_
    refine e_isub dX2_readLeaf_20 (⟨by omega, by omega⟩) ?_
    refine e_istore3 dX2_readLeaf_21 rfl ?_
    refine e_iload2 dX2_readLeaf_22 ?_
    refine e_if_eq (tgt := 42) dX2_readLeaf_23 (by decide) (fun _ => ?_) (fun h => absurd h (by decide))
    refine e_iload2 dX2_readLeaf_42 ?_
    refine e_if_ne (tgt := 62) dX2_readLeaf_43 (by decide) (fun h => absurd h (by decide)) (fun _ => ?_)
    refine e_aload0 dX2_readLeaf_46 ?_
    refine e_getI fl_X2_37 la_114 rfl dX2_readLeaf_47 ?_
    refine WW.ec (y := V t) (c8) ?_
    refine e_sipush dX2_readLeaf_50 rfl ks_9999 ?_
    refine e_icmp_le (tgt := 62) dX2_readLeaf_53 (by decide) (fun h53 => ?_) (fun h53 => ?_)
    · refine e_iload2 dX2_readLeaf_62 ?_
      refine e_if_eq (tgt := 85) dX2_readLeaf_63 (by decide) (fun _ => ?_) (fun h => absurd h (by decide))
      refine e_aload1 dX2_readLeaf_85 ?_
      refine e_iload2 dX2_readLeaf_86 ?_
      refine e_if_eq (tgt := 98) dX2_readLeaf_87 (by decide) (fun _ => ?_) (fun h => absurd h (by decide))
      refine e_aload0 dX2_readLeaf_98 ?_
      refine e_getI fl_X2_37 la_114 rfl dX2_readLeaf_99 ?_
      refine WW.ec (y := V t) (c8) ?_
      refine e_cVV (ct_X3_addCode (d := d - 1) (by omega) hj hs) cy_X3_addCode cv_X3_addCode ml_X2_191 (la_S0 hj) rfl rfl rfl (rok (by omega) (by decide)) (Nat.le_of_ble_eq_true rfl) dX2_readLeaf_102 ?_
      refine e_aload0 dX2_readLeaf_105 ?_
      refine e_cVV (ct_X2_advance (d := d - 1) (by omega) (by unfold addK; rw [up_row (by omega), up_row (by omega)]; omega)) cy_X2_advance cv_X2_advance ml_X2_61 la_114 rfl rfl rfl (rok (by omega) (by decide)) (Nat.le_of_ble_eq_true rfl) dX2_readLeaf_106 ?_
      refine e_iconst dX2_readLeaf_109 rfl kc_1 ?_
      refine e_zret dX2_readLeaf_110 (by decide) ?_
      exact ⟨_, rfl, hok _ (by rw [e1, if_neg (by omega)])⟩
    · refine e_aload0 dX2_readLeaf_56 ?_
      refine e_iconst dX2_readLeaf_57 rfl kc_2 ?_
      refine e_cVGI (ct_X2_refuse (d := d - 1) (by omega)) cy_X2_refuse cv_X2_refuse ml_X2_152 la_114 rfl rfl rfl (rok (by omega) (by decide)) (Nat.le_of_ble_eq_true rfl) dX2_readLeaf_58 (fun x M1 hx => ?_)
      obtain ⟨rfl, rfl⟩ := hx
      refine e_zret dX2_readLeaf_61 (by decide) ?_
      exact ⟨_, rfl, href 2 (by decide) (by rw [e1, if_pos (by omega)])⟩
end PARSE
