/-! THE DESCENT -/
def HP (K V Pl : Nat → Int) (j : Nat) (law : Int) (N : Nat) (M : Mem) (t : Nat) : Prop := TK K V Pl M ∧ CR K V M t ∧ M 114 9 = law ∧ (0 ≤ M (90 + 6 * j) 1 ∧ M (90 + 6 * j) 1 ≤ t) ∧ t ≤ N
theorem HP.go {K V Pl : Nat → Int} {j : Nat} {law : Int} {N : Nat} {M M1 : Mem} {t t1 : Nat} {cs : List Int} (hj : j < 4) (h : HP K V Pl j law N M t) (hr : RS j M M1 cs) (hc : CR K V M1 t1) (hl : cs.length + t ≤ t1) (hn : t1 ≤ N) : HP K V Pl j law N M1 t1 :=
  ⟨h.1.fr hj hr.1, hc, by rw [hr.1.2.1 9 (by decide) (by decide) (by decide) (by decide) (by decide)]; exact h.2.2.1, by have := h.2.2.2.1; have := hr.2.1; omega, hn⟩
theorem OUTR.tr {j : Nat} {K V Pl : Nat → Int} {M M1 M2 : Mem} {c1 : List Int} {r : Int × Nat × List Int} {x : Int} (hs : 0 ≤ M (90 + 6 * j) 1) (h : RS j M M1 c1) (h2 : OUTR j K V Pl M1 r x M2) : OUTR j K V Pl M (r.1, r.2.1, c1 ++ r.2.2) x M2 := by
  rcases h2 with ⟨a, b, c, e⟩ | ⟨a, b, c, e⟩
  · exact Or.inl ⟨a, b, h.tr hs c, e⟩
  · exact Or.inr ⟨a, b, h.1.tr c, e⟩
theorem OUTR.bad {j : Nat} {K V Pl : Nat → Int} {M M1 M2 : Mem} {c1 : List Int} {r : Int × Nat × List Int} {x : Int} (h : RS j M M1 c1) (h2 : OUTR j K V Pl M1 r x M2) (hr : r.1 ≠ 0) : OUTR j K V Pl M r x M2 := by
  rcases h2 with ⟨a, b, c, e⟩ | ⟨a, b, c, e⟩
  · exact absurd a hr
  · exact Or.inr ⟨a, b, h.1.tr c, e⟩
def D4 (o : Nat) : Nat := 3 * (8 - o) + 3
def C4 (l : Launch) (w : Wd) (K V Pl : Nat → Int) (j : Nat) (law : Int) (N f : Nat) : Prop := ∀ (d o t : Nat) (M : Mem), D4 o ≤ d → o ≤ 8 → HP K V Pl j law N M t → (Ps K V law f 4 o t).1 ≠ 9 → GI l w yX2_readOne cX2_readOne 4 .boolean d [vR 114, vR (90 + 6 * j), vI (o : Int)] M (fun x M1 => OUTR j K V Pl M (Ps K V law f 4 o t) x M1)
def C2 (l : Launch) (w : Wd) (K V Pl : Nat → Int) (j : Nat) (law : Int) (N f : Nat) : Prop := ∀ (d o t : Nat) (M : Mem), D4 o + 1 ≤ d → o ≤ 8 → HP K V Pl j law N M t → (Ps K V law f 2 o t).1 ≠ 9 → GI l w yX2_readProduct cX2_readProduct 5 .boolean d [vR 114, vR (90 + 6 * j), vI (o : Int)] M (fun x M1 => OUTR j K V Pl M (Ps K V law f 2 o t) x M1)
def C0 (l : Launch) (w : Wd) (K V Pl : Nat → Int) (j : Nat) (law : Int) (N f : Nat) : Prop := ∀ (d o t : Nat) (M : Mem), D4 o + 2 ≤ d → o ≤ 8 → HP K V Pl j law N M t → (Ps K V law f 0 o t).1 ≠ 9 → GI l w yX2_readSum cX2_readSum 5 .boolean d [vR 114, vR (90 + 6 * j), vI (o : Int)] M (fun x M1 => OUTR j K V Pl M (Ps K V law f 0 o t) x M1)
def L3 (l : Launch) (w : Wd) (K V Pl : Nat → Int) (j : Nat) (law : Int) (N f : Nat) : Prop := ∀ (d o t i : Nat) (v4 : Option MV) (M : Mem) (Q : Option MV → Mem → Prop), D4 o + 1 ≤ d → o ≤ 8 → HP K V Pl j law N M t → i ≤ t → (Ps K V law f 3 o t).1 ≠ 9 → (∀ x M1, OUTR j K V Pl M (Ps K V law f 3 o t) x M1 → Q (some (vI x)) M1) → WM l w RX2 cX2_readProduct 5 (some .boolean) d Q 13 [some (vR 114), some (vR (90 + 6 * j)), some (vI (o : Int)), some (vI (i : Int)), v4] [] M
def L1 (l : Launch) (w : Wd) (K V Pl : Nat → Int) (j : Nat) (law : Int) (N f : Nat) : Prop := ∀ (d o t i : Nat) (v4 : Option MV) (M : Mem) (Q : Option MV → Mem → Prop), D4 o + 2 ≤ d → o ≤ 8 → HP K V Pl j law N M t → i ≤ t → (Ps K V law f 1 o t).1 ≠ 9 → (∀ x M1, OUTR j K V Pl M (Ps K V law f 1 o t) x M1 → Q (some (vI x)) M1) → WM l w RX2 cX2_readSum 5 (some .boolean) d Q 13 [some (vR 114), some (vR (90 + 6 * j)), some (vI (o : Int)), some (vI (i : Int)), v4] [] M
section DESCENT
variable {l : Launch} {w : Wd} {K V Pl : Nat → Int} {j N : Nat} {law : Int}
theorem prod_loop (hj : j < 4) (hN : N ≤ 300) (hK : ∀ t, N ≤ t → K t = 0) {f : Nat} (hc : C4 l w K V Pl j law N f) (hl : L3 l w K V Pl j law N f) : L3 l w K V Pl j law N (f + 1) := by
  intro d o t i v4 M Q hd ho hp hi h9 hQ
  have c6 := hp.2.1.1
  have c7 := hp.2.1.2.1
  have hs := hp.2.2.2.1
  have htN := hp.2.2.2.2
  by_cases hk : K t = 42 ∨ K t = 47
  · have ht1 : t + 1 ≤ N := by
      have : ¬ N ≤ t := fun z => by have := hK t z; omega
      omega
    have ha := adv_rs hj hp.1 hp.2.1
    have hp1 : HP K V Pl j law N (advM M) (t + 1) := hp.go hj ha.1 ha.2 (by simp) ht1
    have e1 : Ps K V law (f + 1) 3 o t = if (Ps K V law f 4 o (t + 1)).1 = 0 then ((Ps K V law f 3 o (Ps K V law f 4 o (t + 1)).2.1).1, (Ps K V law f 3 o (Ps K V law f 4 o (t + 1)).2.1).2.1, ((Ps K V law f 4 o (t + 1)).2.2 ++ [opc (K t)]) ++ (Ps K V law f 3 o (Ps K V law f 4 o (t + 1)).2.1).2.2) else Ps K V law f 4 o (t + 1) := by
      rw [Ps, if_pos hk]
    rw [e1] at h9 hQ
    have hok := Ps_ok (V := V) (law := law) hK f 4 o (t + 1) ht1
    have h92 : (Ps K V law f 4 o (t + 1)).1 ≠ 9 := fun z => by
      rw [if_neg (by rw [z]; decide)] at h9
      exact h9 z
    have hcall := hc (d - 1) o (t + 1) (advM M) (by unfold D4 at hd ⊢; omega) ho hp1 h92
    have h56 : ∀ c : Int, c = opc (K t) → WM l w RX2 cX2_readProduct 5 (some .boolean) d Q 56 [some (vR 114), some (vR (90 + 6 * j)), some (vI (o : Int)), some (vI (i : Int)), v4] [vI c] M := by
      intro c hcc
      subst hcc
      refine e_istore4 dX2_readProduct_56 rfl ?_
      refine e_aload0 dX2_readProduct_58 ?_
      refine e_cVV (ct_X2_advance (d := d - 1) (by unfold D4 at hd; omega) (by omega)) cy_X2_advance cv_X2_advance ml_X2_61 la_114 rfl rfl rfl (rok (by omega) (by decide)) (Nat.le_of_ble_eq_true rfl) dX2_readProduct_59 ?_
      refine e_aload0 dX2_readProduct_62 ?_
      refine e_aload1 dX2_readProduct_63 ?_
      refine e_iload2 dX2_readProduct_64 ?_
      refine e_cVGI (hcall) cy_X2_readOne cv_X2_readOne ml_X2_195 la_114 rfl rfl rfl (rok (by omega) (by decide)) (Nat.le_of_ble_eq_true rfl) dX2_readProduct_65 (fun x M1 hx => ?_)
      rcases hx with ⟨a, b, r, q⟩ | hbad
      · subst b
        rw [if_pos a] at h9 hQ
        have hlen := hok.2.2 a
        have hp2 := hp1.go hj r q hlen.1 hok.2.1
        have hsz := r.2.1
        have hsz0 := ha.1.2.1
        have hsz1 : M1 (90 + 6 * j) 1 = M (90 + 6 * j) 1 + (Ps K V law f 4 o (t + 1)).2.2.length := by rw [hsz, hsz0]; simp
        have hr3 := RS.code (M := M1) (c := opc (K t)) hj (by omega)
        have hrr := (ha.1.tr hs.1 (r.tr (by rw [hsz0]; simp; omega) hr3))
        rw [List.nil_append] at hrr
        have hp3 : HP K V Pl j law N (addK M1 j (opc (K t))) (Ps K V law f 4 o (t + 1)).2.1 := ⟨hp2.1.fr hj hr3.1, q.code hj, by rw [hr3.1.2.1 9 (by decide) (by decide) (by decide) (by decide) (by decide)]; exact hp2.2.2.1, by have := hr3.2.1; simp at this; omega, hok.2.1⟩
        have hnx := hl d o (Ps K V law f 4 o (t + 1)).2.1 (i + 1) (some (vI (opc (K t)))) (addK M1 j (opc (K t))) Q hd ho hp3 (by omega) h9 (fun x M2 hx => hQ x M2 (OUTR.tr hs.1 hrr hx))
        refine e_if_ne (tgt := 73) dX2_readProduct_68 (by decide) (fun _ => ?_) (fun h => absurd h (by decide))
        refine e_aload1 dX2_readProduct_73 ?_
        refine e_iload4 dX2_readProduct_74 ?_
        refine e_cVV (ct_X3_addCode (d := d - 1) (by unfold D4 at hd; omega) hj (by omega)) cy_X3_addCode cv_X3_addCode ml_X2_191 (la_S0 hj) rfl rfl rfl (rok (by omega) (by decide)) (Nat.le_of_ble_eq_true rfl) dX2_readProduct_76 ?_
        refine e_iinc3 dX2_readProduct_79 rfl (⟨by omega, by omega⟩) rfl ?_
        refine e_goto (tgt := 13) dX2_readProduct_82 (by decide) ?_
        exact hnx
      · have hz := hbad.1
        have hx0 := hbad.2.1
        subst hx0
        rw [if_neg hz] at hQ
        refine e_if_ne (tgt := 73) dX2_readProduct_68 (by decide) (fun h => absurd h (by decide)) (fun _ => ?_)
        refine e_iconst dX2_readProduct_71 rfl kc_0 ?_
        refine e_zret dX2_readProduct_72 (by decide) ?_
        exact hQ 0 M1 (OUTR.bad ha.1 (Or.inr hbad) hz)
    refine e_iload3 dX2_readProduct_13 ?_
    refine e_sipush dX2_readProduct_14 rfl ks_300 ?_
    refine e_icmp_ge (tgt := 85) dX2_readProduct_17 (by decide) (fun h17 => ?_) (fun h17 => ?_)
    · omega
    · refine e_aload0 dX2_readProduct_20 ?_
      refine e_getI fl_X2_34 la_114 rfl dX2_readProduct_21 ?_
      refine WW.ec (y := K t) (c7) ?_
      refine e_bipush dX2_readProduct_24 rfl kb_42 ?_
      refine e_icmp_eq (tgt := 38) dX2_readProduct_26 (by decide) (fun h26 => ?_) (fun h26 => ?_)
      · refine e_aload0 dX2_readProduct_38 ?_
        refine e_getI fl_X2_34 la_114 rfl dX2_readProduct_39 ?_
        refine WW.ec (y := K t) (c7) ?_
        refine e_bipush dX2_readProduct_42 rfl kb_42 ?_
        refine e_icmp_ne (tgt := 53) dX2_readProduct_44 (by decide) (fun h44 => ?_) (fun h44 => ?_)
        · refine e_sipush dX2_readProduct_53 rfl ks_10011 ?_
          first | (exfalso; omega) | exact h56 _ (by unfold opc; rw [if_neg (by omega), if_neg (by omega), if_pos (by omega)]) | exact h56 _ (by unfold opc; rw [if_neg (by omega), if_neg (by omega), if_neg (by omega)])
        · refine e_sipush dX2_readProduct_47 rfl ks_10010 ?_
          refine e_goto (tgt := 56) dX2_readProduct_50 (by decide) ?_
          first | (exfalso; omega) | exact h56 _ (by unfold opc; rw [if_neg (by omega), if_neg (by omega), if_pos (by omega)]) | exact h56 _ (by unfold opc; rw [if_neg (by omega), if_neg (by omega), if_neg (by omega)])
      · refine e_aload0 dX2_readProduct_29 ?_
        refine e_getI fl_X2_34 la_114 rfl dX2_readProduct_30 ?_
        refine WW.ec (y := K t) (c7) ?_
        refine e_bipush dX2_readProduct_33 rfl kb_47 ?_
        refine e_icmp_ne (tgt := 85) dX2_readProduct_35 (by decide) (fun h35 => ?_) (fun h35 => ?_)
        · omega
        · refine e_aload0 dX2_readProduct_38 ?_
          refine e_getI fl_X2_34 la_114 rfl dX2_readProduct_39 ?_
          refine WW.ec (y := K t) (c7) ?_
          refine e_bipush dX2_readProduct_42 rfl kb_42 ?_
          refine e_icmp_ne (tgt := 53) dX2_readProduct_44 (by decide) (fun h44 => ?_) (fun h44 => ?_)
          · refine e_sipush dX2_readProduct_53 rfl ks_10011 ?_
            first | (exfalso; omega) | exact h56 _ (by unfold opc; rw [if_neg (by omega), if_neg (by omega), if_pos (by omega)]) | exact h56 _ (by unfold opc; rw [if_neg (by omega), if_neg (by omega), if_neg (by omega)])
          · refine e_sipush dX2_readProduct_47 rfl ks_10010 ?_
            refine e_goto (tgt := 56) dX2_readProduct_50 (by decide) ?_
            first | (exfalso; omega) | exact h56 _ (by unfold opc; rw [if_neg (by omega), if_neg (by omega), if_pos (by omega)]) | exact h56 _ (by unfold opc; rw [if_neg (by omega), if_neg (by omega), if_neg (by omega)])
  · have e1 : Ps K V law (f + 1) 3 o t = (0, t, []) := by
      rw [Ps, if_neg hk]
    rw [e1] at hQ
    refine e_iload3 dX2_readProduct_13 ?_
    refine e_sipush dX2_readProduct_14 rfl ks_300 ?_
    refine e_icmp_ge (tgt := 85) dX2_readProduct_17 (by decide) (fun h17 => ?_) (fun h17 => ?_)
    · refine e_iconst dX2_readProduct_85 rfl kc_1 ?_
      refine e_zret dX2_readProduct_86 (by decide) ?_
      exact hQ 1 M (Or.inl ⟨rfl, rfl, RS.nil j M, hp.2.1⟩)
    · refine e_aload0 dX2_readProduct_20 ?_
      refine e_getI fl_X2_34 la_114 rfl dX2_readProduct_21 ?_
      refine WW.ec (y := K t) (c7) ?_
      refine e_bipush dX2_readProduct_24 rfl kb_42 ?_
      refine e_icmp_eq (tgt := 38) dX2_readProduct_26 (by decide) (fun h26 => ?_) (fun h26 => ?_)
      · omega
      · refine e_aload0 dX2_readProduct_29 ?_
        refine e_getI fl_X2_34 la_114 rfl dX2_readProduct_30 ?_
        refine WW.ec (y := K t) (c7) ?_
        refine e_bipush dX2_readProduct_33 rfl kb_47 ?_
        refine e_icmp_ne (tgt := 85) dX2_readProduct_35 (by decide) (fun h35 => ?_) (fun h35 => ?_)
        · refine e_iconst dX2_readProduct_85 rfl kc_1 ?_
          refine e_zret dX2_readProduct_86 (by decide) ?_
          exact hQ 1 M (Or.inl ⟨rfl, rfl, RS.nil j M, hp.2.1⟩)
        · omega
theorem prod_all (hj : j < 4) (hK : ∀ t, N ≤ t → K t = 0) {f : Nat} (hc : C4 l w K V Pl j law N f) (hl : L3 l w K V Pl j law N f) : C2 l w K V Pl j law N (f + 1) := by
  intro d o t M hd ho hp h9
  have hs := hp.2.2.2.1
  have htN := hp.2.2.2.2
  have e1 : Ps K V law (f + 1) 2 o t = if (Ps K V law f 4 o t).1 = 0 then ((Ps K V law f 3 o (Ps K V law f 4 o t).2.1).1, (Ps K V law f 3 o (Ps K V law f 4 o t).2.1).2.1, (Ps K V law f 4 o t).2.2 ++ (Ps K V law f 3 o (Ps K V law f 4 o t).2.1).2.2) else Ps K V law f 4 o t := by
    rw [Ps]
  rw [e1] at h9 ⊢
  have hok := Ps_ok (V := V) (law := law) hK f 4 o t htN
  have h92 : (Ps K V law f 4 o t).1 ≠ 9 := fun z => by
    rw [if_neg (by rw [z]; decide)] at h9
    exact h9 z
  have hcall := hc (d - 1) o t M (by unfold D4 at hd ⊢; omega) ho hp h92
  refine MT.of [some (vR 114), some (vR (90 + 6 * j)), some (vI (o : Int)), none, none] ⟨by decide, rfl⟩ rfl (Nat.le_of_ble_eq_true rfl) (fun hA hM => ?_)
  refine e_aload0 dX2_readProduct_0 ?_
  refine e_aload1 dX2_readProduct_1 ?_
  refine e_iload2 dX2_readProduct_2 ?_
  refine e_cVGI (hcall) cy_X2_readOne cv_X2_readOne ml_X2_195 la_114 rfl rfl rfl (rok (by omega) (by decide)) (Nat.le_of_ble_eq_true rfl) dX2_readProduct_3 (fun x M1 hx => ?_)
  rcases hx with ⟨a, b, r, q⟩ | hbad
  · subst b
    rw [if_pos a] at h9 ⊢
    have hlen := hok.2.2 a
    have hp2 := hp.go hj r q hlen.1 hok.2.1
    refine e_if_ne (tgt := 11) dX2_readProduct_6 (by decide) (fun _ => ?_) (fun h => absurd h (by decide))
    refine e_iconst dX2_readProduct_11 rfl kc_0 ?_
    refine e_istore3 dX2_readProduct_12 rfl ?_
    exact hl d o (Ps K V law f 4 o t).2.1 0 none M1 _ hd ho hp2 (by omega) h9 (fun x M2 hx => ⟨x, rfl, OUTR.tr hs.1 r hx⟩)
  · have hz := hbad.1
    have hx0 := hbad.2.1
    subst hx0
    rw [if_neg hz]
    refine e_if_ne (tgt := 11) dX2_readProduct_6 (by decide) (fun h => absurd h (by decide)) (fun _ => ?_)
    refine e_iconst dX2_readProduct_9 rfl kc_0 ?_
    refine e_zret dX2_readProduct_10 (by decide) ?_
    exact ⟨_, rfl, Or.inr hbad⟩
theorem sum_loop (hj : j < 4) (hN : N ≤ 300) (hK : ∀ t, N ≤ t → K t = 0) {f : Nat} (hc : C2 l w K V Pl j law N f) (hl : L1 l w K V Pl j law N f) : L1 l w K V Pl j law N (f + 1) := by
  intro d o t i v4 M Q hd ho hp hi h9 hQ
  have c6 := hp.2.1.1
  have c7 := hp.2.1.2.1
  have hs := hp.2.2.2.1
  have htN := hp.2.2.2.2
  by_cases hk : K t = 43 ∨ K t = 45
  · have ht1 : t + 1 ≤ N := by
      have : ¬ N ≤ t := fun z => by have := hK t z; omega
      omega
    have ha := adv_rs hj hp.1 hp.2.1
    have hp1 : HP K V Pl j law N (advM M) (t + 1) := hp.go hj ha.1 ha.2 (by simp) ht1
    have e1 : Ps K V law (f + 1) 1 o t = if (Ps K V law f 2 o (t + 1)).1 = 0 then ((Ps K V law f 1 o (Ps K V law f 2 o (t + 1)).2.1).1, (Ps K V law f 1 o (Ps K V law f 2 o (t + 1)).2.1).2.1, ((Ps K V law f 2 o (t + 1)).2.2 ++ [opc (K t)]) ++ (Ps K V law f 1 o (Ps K V law f 2 o (t + 1)).2.1).2.2) else Ps K V law f 2 o (t + 1) := by
      rw [Ps, if_pos hk]
    rw [e1] at h9 hQ
    have hok := Ps_ok (V := V) (law := law) hK f 2 o (t + 1) ht1
    have h92 : (Ps K V law f 2 o (t + 1)).1 ≠ 9 := fun z => by
      rw [if_neg (by rw [z]; decide)] at h9
      exact h9 z
    have hcall := hc (d - 1) o (t + 1) (advM M) (by unfold D4 at hd ⊢; omega) ho hp1 h92
    have h56 : ∀ c : Int, c = opc (K t) → WM l w RX2 cX2_readSum 5 (some .boolean) d Q 56 [some (vR 114), some (vR (90 + 6 * j)), some (vI (o : Int)), some (vI (i : Int)), v4] [vI c] M := by
      intro c hcc
      subst hcc
      refine e_istore4 dX2_readSum_56 rfl ?_
      refine e_aload0 dX2_readSum_58 ?_
      refine e_cVV (ct_X2_advance (d := d - 1) (by unfold D4 at hd; omega) (by omega)) cy_X2_advance cv_X2_advance ml_X2_61 la_114 rfl rfl rfl (rok (by omega) (by decide)) (Nat.le_of_ble_eq_true rfl) dX2_readSum_59 ?_
      refine e_aload0 dX2_readSum_62 ?_
      refine e_aload1 dX2_readSum_63 ?_
      refine e_iload2 dX2_readSum_64 ?_
      refine e_cVGI (hcall) cy_X2_readProduct cv_X2_readProduct ml_X2_188 la_114 rfl rfl rfl (rok (by omega) (by decide)) (Nat.le_of_ble_eq_true rfl) dX2_readSum_65 (fun x M1 hx => ?_)
      rcases hx with ⟨a, b, r, q⟩ | hbad
      · subst b
        rw [if_pos a] at h9 hQ
        have hlen := hok.2.2 a
        have hp2 := hp1.go hj r q hlen.1 hok.2.1
        have hsz := r.2.1
        have hsz0 := ha.1.2.1
        have hsz1 : M1 (90 + 6 * j) 1 = M (90 + 6 * j) 1 + (Ps K V law f 2 o (t + 1)).2.2.length := by rw [hsz, hsz0]; simp
        have hr3 := RS.code (M := M1) (c := opc (K t)) hj (by omega)
        have hrr := (ha.1.tr hs.1 (r.tr (by rw [hsz0]; simp; omega) hr3))
        rw [List.nil_append] at hrr
        have hp3 : HP K V Pl j law N (addK M1 j (opc (K t))) (Ps K V law f 2 o (t + 1)).2.1 := ⟨hp2.1.fr hj hr3.1, q.code hj, by rw [hr3.1.2.1 9 (by decide) (by decide) (by decide) (by decide) (by decide)]; exact hp2.2.2.1, by have := hr3.2.1; simp at this; omega, hok.2.1⟩
        have hnx := hl d o (Ps K V law f 2 o (t + 1)).2.1 (i + 1) (some (vI (opc (K t)))) (addK M1 j (opc (K t))) Q hd ho hp3 (by omega) h9 (fun x M2 hx => hQ x M2 (OUTR.tr hs.1 hrr hx))
        refine e_if_ne (tgt := 73) dX2_readSum_68 (by decide) (fun _ => ?_) (fun h => absurd h (by decide))
        refine e_aload1 dX2_readSum_73 ?_
        refine e_iload4 dX2_readSum_74 ?_
        refine e_cVV (ct_X3_addCode (d := d - 1) (by unfold D4 at hd; omega) hj (by omega)) cy_X3_addCode cv_X3_addCode ml_X2_191 (la_S0 hj) rfl rfl rfl (rok (by omega) (by decide)) (Nat.le_of_ble_eq_true rfl) dX2_readSum_76 ?_
        refine e_iinc3 dX2_readSum_79 rfl (⟨by omega, by omega⟩) rfl ?_
        refine e_goto (tgt := 13) dX2_readSum_82 (by decide) ?_
        exact hnx
      · have hz := hbad.1
        have hx0 := hbad.2.1
        subst hx0
        rw [if_neg hz] at hQ
        refine e_if_ne (tgt := 73) dX2_readSum_68 (by decide) (fun h => absurd h (by decide)) (fun _ => ?_)
        refine e_iconst dX2_readSum_71 rfl kc_0 ?_
        refine e_zret dX2_readSum_72 (by decide) ?_
        exact hQ 0 M1 (OUTR.bad ha.1 (Or.inr hbad) hz)
    refine e_iload3 dX2_readSum_13 ?_
    refine e_sipush dX2_readSum_14 rfl ks_300 ?_
    refine e_icmp_ge (tgt := 85) dX2_readSum_17 (by decide) (fun h17 => ?_) (fun h17 => ?_)
    · omega
    · refine e_aload0 dX2_readSum_20 ?_
      refine e_getI fl_X2_34 la_114 rfl dX2_readSum_21 ?_
      refine WW.ec (y := K t) (c7) ?_
      refine e_bipush dX2_readSum_24 rfl kb_43 ?_
      refine e_icmp_eq (tgt := 38) dX2_readSum_26 (by decide) (fun h26 => ?_) (fun h26 => ?_)
      · refine e_aload0 dX2_readSum_38 ?_
        refine e_getI fl_X2_34 la_114 rfl dX2_readSum_39 ?_
        refine WW.ec (y := K t) (c7) ?_
        refine e_bipush dX2_readSum_42 rfl kb_43 ?_
        refine e_icmp_ne (tgt := 53) dX2_readSum_44 (by decide) (fun h44 => ?_) (fun h44 => ?_)
        · refine e_sipush dX2_readSum_53 rfl ks_10009 ?_
          first | (exfalso; omega) | exact h56 _ (by unfold opc; rw [if_pos (by omega)]) | exact h56 _ (by unfold opc; rw [if_neg (by omega), if_pos (by omega)])
        · refine e_sipush dX2_readSum_47 rfl ks_10008 ?_
          refine e_goto (tgt := 56) dX2_readSum_50 (by decide) ?_
          first | (exfalso; omega) | exact h56 _ (by unfold opc; rw [if_pos (by omega)]) | exact h56 _ (by unfold opc; rw [if_neg (by omega), if_pos (by omega)])
      · refine e_aload0 dX2_readSum_29 ?_
        refine e_getI fl_X2_34 la_114 rfl dX2_readSum_30 ?_
        refine WW.ec (y := K t) (c7) ?_
        refine e_bipush dX2_readSum_33 rfl kb_45 ?_
        refine e_icmp_ne (tgt := 85) dX2_readSum_35 (by decide) (fun h35 => ?_) (fun h35 => ?_)
        · omega
        · refine e_aload0 dX2_readSum_38 ?_
          refine e_getI fl_X2_34 la_114 rfl dX2_readSum_39 ?_
          refine WW.ec (y := K t) (c7) ?_
          refine e_bipush dX2_readSum_42 rfl kb_43 ?_
          refine e_icmp_ne (tgt := 53) dX2_readSum_44 (by decide) (fun h44 => ?_) (fun h44 => ?_)
          · refine e_sipush dX2_readSum_53 rfl ks_10009 ?_
            first | (exfalso; omega) | exact h56 _ (by unfold opc; rw [if_pos (by omega)]) | exact h56 _ (by unfold opc; rw [if_neg (by omega), if_pos (by omega)])
          · refine e_sipush dX2_readSum_47 rfl ks_10008 ?_
            refine e_goto (tgt := 56) dX2_readSum_50 (by decide) ?_
            first | (exfalso; omega) | exact h56 _ (by unfold opc; rw [if_pos (by omega)]) | exact h56 _ (by unfold opc; rw [if_neg (by omega), if_pos (by omega)])
  · have e1 : Ps K V law (f + 1) 1 o t = (0, t, []) := by
      rw [Ps, if_neg hk]
    rw [e1] at hQ
    refine e_iload3 dX2_readSum_13 ?_
    refine e_sipush dX2_readSum_14 rfl ks_300 ?_
    refine e_icmp_ge (tgt := 85) dX2_readSum_17 (by decide) (fun h17 => ?_) (fun h17 => ?_)
    · refine e_iconst dX2_readSum_85 rfl kc_1 ?_
      refine e_zret dX2_readSum_86 (by decide) ?_
      exact hQ 1 M (Or.inl ⟨rfl, rfl, RS.nil j M, hp.2.1⟩)
    · refine e_aload0 dX2_readSum_20 ?_
      refine e_getI fl_X2_34 la_114 rfl dX2_readSum_21 ?_
      refine WW.ec (y := K t) (c7) ?_
      refine e_bipush dX2_readSum_24 rfl kb_43 ?_
      refine e_icmp_eq (tgt := 38) dX2_readSum_26 (by decide) (fun h26 => ?_) (fun h26 => ?_)
      · omega
      · refine e_aload0 dX2_readSum_29 ?_
        refine e_getI fl_X2_34 la_114 rfl dX2_readSum_30 ?_
        refine WW.ec (y := K t) (c7) ?_
        refine e_bipush dX2_readSum_33 rfl kb_45 ?_
        refine e_icmp_ne (tgt := 85) dX2_readSum_35 (by decide) (fun h35 => ?_) (fun h35 => ?_)
        · refine e_iconst dX2_readSum_85 rfl kc_1 ?_
          refine e_zret dX2_readSum_86 (by decide) ?_
          exact hQ 1 M (Or.inl ⟨rfl, rfl, RS.nil j M, hp.2.1⟩)
        · omega
theorem sum_all (hj : j < 4) (hK : ∀ t, N ≤ t → K t = 0) {f : Nat} (hc : C2 l w K V Pl j law N f) (hl : L1 l w K V Pl j law N f) : C0 l w K V Pl j law N (f + 1) := by
  intro d o t M hd ho hp h9
  have hs := hp.2.2.2.1
  have htN := hp.2.2.2.2
  have e1 : Ps K V law (f + 1) 0 o t = if (Ps K V law f 2 o t).1 = 0 then ((Ps K V law f 1 o (Ps K V law f 2 o t).2.1).1, (Ps K V law f 1 o (Ps K V law f 2 o t).2.1).2.1, (Ps K V law f 2 o t).2.2 ++ (Ps K V law f 1 o (Ps K V law f 2 o t).2.1).2.2) else Ps K V law f 2 o t := by
    rw [Ps]
  rw [e1] at h9 ⊢
  have hok := Ps_ok (V := V) (law := law) hK f 2 o t htN
  have h92 : (Ps K V law f 2 o t).1 ≠ 9 := fun z => by
    rw [if_neg (by rw [z]; decide)] at h9
    exact h9 z
  have hcall := hc (d - 1) o t M (by unfold D4 at hd ⊢; omega) ho hp h92
  refine MT.of [some (vR 114), some (vR (90 + 6 * j)), some (vI (o : Int)), none, none] ⟨by decide, rfl⟩ rfl (Nat.le_of_ble_eq_true rfl) (fun hA hM => ?_)
  refine e_aload0 dX2_readSum_0 ?_
  refine e_aload1 dX2_readSum_1 ?_
  refine e_iload2 dX2_readSum_2 ?_
  refine e_cVGI (hcall) cy_X2_readProduct cv_X2_readProduct ml_X2_188 la_114 rfl rfl rfl (rok (by omega) (by decide)) (Nat.le_of_ble_eq_true rfl) dX2_readSum_3 (fun x M1 hx => ?_)
  rcases hx with ⟨a, b, r, q⟩ | hbad
  · subst b
    rw [if_pos a] at h9 ⊢
    have hlen := hok.2.2 a
    have hp2 := hp.go hj r q hlen.1 hok.2.1
    refine e_if_ne (tgt := 11) dX2_readSum_6 (by decide) (fun _ => ?_) (fun h => absurd h (by decide))
    refine e_iconst dX2_readSum_11 rfl kc_0 ?_
    refine e_istore3 dX2_readSum_12 rfl ?_
    exact hl d o (Ps K V law f 2 o t).2.1 0 none M1 _ hd ho hp2 (by omega) h9 (fun x M2 hx => ⟨x, rfl, OUTR.tr hs.1 r hx⟩)
  · have hz := hbad.1
    have hx0 := hbad.2.1
    subst hx0
    rw [if_neg hz]
    refine e_if_ne (tgt := 11) dX2_readSum_6 (by decide) (fun h => absurd h (by decide)) (fun _ => ?_)
    refine e_iconst dX2_readSum_9 rfl kc_0 ?_
    refine e_zret dX2_readSum_10 (by decide) ?_
    exact ⟨_, rfl, Or.inr hbad⟩
end DESCENT
