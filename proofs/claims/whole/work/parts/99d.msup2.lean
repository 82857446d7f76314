/-! THE MODEL'S SUPPER, whole -/
/-- what the rows of the model hold: the guests -/
def CMS (G : Mem) (s : Nat) (N : Mem) : Prop := ∀ j, j < (gl s (G 1 0).toNat).length → N 160 j = (((gl s (G 1 0).toNat).getD j 0 : Nat) : Int)
theorem glD {s H j : Nat} (hj : j < (gl s H).length) : (gl s H).getD j 0 < H := by
  apply gl_lt (s := s)
  rw [List.getD_eq_getElem?_getD, List.getElem?_eq_getElem hj]
  exact List.getElem_mem _
theorem mem_getD {e : List Nat} {n k : Nat} (h : ∀ g ∈ e, g < n) (hk : k < e.length) : e.getD k 0 < n := by
  apply h
  rw [List.getD_eq_getElem?_getD, List.getElem?_eq_getElem hk]
  exact List.getElem_mem _
theorem prd_step {K : Nat → Nat → Int} {n k : Nat} {e : List Nat} (hl : e.length = n) (hk : k < n) : prd K n (n - k) (e.drop k) = K (e.getD k 0) k * prd K n (n - (k + 1)) (e.drop (k + 1)) := by
  have h : e.drop k = e.getD k 0 :: e.drop (k + 1) := by
    rw [List.getD_eq_getElem?_getD, List.getElem?_eq_getElem (by omega)]
    exact List.drop_eq_getElem_cons (by omega)
  rw [h]
  show K (e.getD k 0) (n - (n - k)) * prd K n (n - k - 1) (e.drop (k + 1)) = _
  rw [show n - (n - k) = k by omega, show n - k - 1 = n - (k + 1) by omega]
section MSUP2
variable {l : Launch} {w : Wd} {d : Nat} {M : Mem} {Q : Option MV → Mem → Prop}
/-- who comes -/
theorem cm_guests {G : Mem} (hg : GS G M) {s : Nat} {th i : Int} (hs : s < 2 ^ (G 1 0).toNat) (hno : 6 < (gl s (G 1 0).toNat).length → ∀ N, FQ M N → Q (some (vI (-1))) N) (hQ : ∀ N v5, FQ M N → CMS G s N → (gl s (G 1 0).toNat).length ≤ 6 → WM l w RX9 cX9_supper 9 (some .int) d Q 88 [some (vR 134), some (vI (s : Int)), some (vI th), some (vI i), some (vI ((gl s (G 1 0).toNat).length : Int)), v5, none, none, none] [] N) :
    ∀ (q h : Nat) (N : Mem), h + q = (G 1 0).toNat → (gl s h).length ≤ 6 → FQ M N → (∀ j, j < (gl s h).length → N 160 j = (((gl s h).getD j 0 : Nat) : Int)) → WM l w RX9 cX9_supper 9 (some .int) d Q 40 [some (vR 134), some (vI (s : Int)), some (vI th), some (vI i), some (vI ((gl s h).length : Int)), some (vI (h : Int)), none, none, none] [] N
  | 0, h, N, hh, h6, hf, hk => by
    obtain rfl : h = (G 1 0).toNat := by omega
    have i1 := hg.gm.1.1.1
    have e0 : N 135 0 = G 1 0 := (hg.fq hf).2.2.1.1.1.1
    have hq := hQ N (some (vI (((G 1 0).toNat : Nat) : Int))) hf hk h6
    refine e_iload5 dX9_supper_40 ?_
    refine e_aload0 dX9_supper_42 ?_
    refine e_getR fl_X9_7 la_134 rfl dX9_supper_43 ?_
    refine e_iconst dX9_supper_46 rfl kc_0 ?_
    refine e_ialdK (k := 0) la_135 (by decide) (rfl) dX9_supper_47 ?_
    refine WW.ec (y := G 1 0) (e0) ?_
    refine e_icmp_ge (tgt := 88) dX9_supper_48 (by decide) (fun h48 => ?_) (fun h48 => ?_)
    · exact hq
    · omega
  | q + 1, h, N, hh, h6, hf, hk => by
    have i1 := hg.gm.1.1.1
    have hp8 := pow8 (H := (G 1 0).toNat) (by omega)
    have e0 : N 135 0 = G 1 0 := (hg.fq hf).2.2.1.1.1.1
    have hbit := bit_t s (by omega) h (by omega)
    by_cases ht : s.testBit h = true
    · have hgs : gl s (h + 1) = gl s h ++ [h] := by rw [gl_s, if_pos ht]
      have hgl : (gl s (h + 1)).length = (gl s h).length + 1 := by rw [hgs, List.length_append]; rfl
      by_cases h7 : (gl s h).length = 6
      · have hq := hno (by
          obtain ⟨r, hr9⟩ := gl_mono s (h + 1) q
          rw [show h + 1 + q = (G 1 0).toNat by omega] at hr9
          rw [hr9, List.length_append, hgl]
          omega) N hf
        refine e_iload5 dX9_supper_40 ?_
        refine e_aload0 dX9_supper_42 ?_
        refine e_getR fl_X9_7 la_134 rfl dX9_supper_43 ?_
        refine e_iconst dX9_supper_46 rfl kc_0 ?_
        refine e_ialdK (k := 0) la_135 (by decide) (rfl) dX9_supper_47 ?_
        refine WW.ec (y := G 1 0) (e0) ?_
        refine e_icmp_ge (tgt := 88) dX9_supper_48 (by decide) (fun h48 => ?_) (fun h48 => ?_)
        · omega
        · refine e_iload1 dX9_supper_51 ?_
          refine e_iload5 dX9_supper_52 ?_
          refine e_ishr dX9_supper_54 ?_
          refine e_iconst dX9_supper_55 rfl kc_1 ?_
          refine e_iand dX9_supper_56 ?_
          refine e_iconst dX9_supper_57 rfl kc_1 ?_
          refine e_icmp_ne (tgt := 82) dX9_supper_58 (by decide) (fun h => absurd h (fun z => z (hbit.mpr ht))) (fun h58 => ?_)
          refine e_iload4 dX9_supper_61 ?_
          refine e_bipush dX9_supper_63 rfl kb_6 ?_
          refine e_icmp_ne (tgt := 70) dX9_supper_65 (by decide) (fun h65 => ?_) (fun h65 => ?_)
          · omega
          · refine e_iconst dX9_supper_68 rfl kc_m1 ?_
            refine e_iret dX9_supper_69 ?_
            exact hq
      · have ih := cm_guests hg hs hno hQ q (h + 1) (up N 160 (gl s h).length h) (by omega) (by omega) (hf.up (by decide)) (fun j hj => by
          by_cases e : j = (gl s h).length
          · rw [e, up_s, hgs, List.getD_eq_getElem?_getD, List.getElem?_append_right (Nat.le_refl _), Nat.sub_self]; rfl
          · rw [up_k e, hk j (by omega), hgs, List.getD_eq_getElem?_getD, List.getD_eq_getElem?_getD, List.getElem?_append_left (by omega)])
        rw [hgl] at ih
        refine e_iload5 dX9_supper_40 ?_
        refine e_aload0 dX9_supper_42 ?_
        refine e_getR fl_X9_7 la_134 rfl dX9_supper_43 ?_
        refine e_iconst dX9_supper_46 rfl kc_0 ?_
        refine e_ialdK (k := 0) la_135 (by decide) (rfl) dX9_supper_47 ?_
        refine WW.ec (y := G 1 0) (e0) ?_
        refine e_icmp_ge (tgt := 88) dX9_supper_48 (by decide) (fun h48 => ?_) (fun h48 => ?_)
        · omega
        · refine e_iload1 dX9_supper_51 ?_
          refine e_iload5 dX9_supper_52 ?_
          refine e_ishr dX9_supper_54 ?_
          refine e_iconst dX9_supper_55 rfl kc_1 ?_
          refine e_iand dX9_supper_56 ?_
          refine e_iconst dX9_supper_57 rfl kc_1 ?_
          refine e_icmp_ne (tgt := 82) dX9_supper_58 (by decide) (fun h => absurd h (fun z => z (hbit.mpr ht))) (fun h58 => ?_)
          refine e_iload4 dX9_supper_61 ?_
          refine e_bipush dX9_supper_63 rfl kb_6 ?_
          refine e_icmp_ne (tgt := 70) dX9_supper_65 (by decide) (fun h65 => ?_) (fun h65 => ?_)
          · refine e_aload0 dX9_supper_70 ?_
            refine e_getR fl_X9_94 la_134 rfl dX9_supper_71 ?_
            refine e_iload4 dX9_supper_74 ?_
            refine e_iload5 dX9_supper_76 ?_
            refine e_iastK (k := (gl s h).length) la_160 (by omega) (by omega) dX9_supper_78 ?_
            refine e_iinc4 dX9_supper_79 rfl (⟨by omega, by omega⟩) rfl ?_
            refine e_iinc5 dX9_supper_82 rfl (⟨by omega, by omega⟩) rfl ?_
            refine e_goto (tgt := 40) dX9_supper_85 (by decide) ?_
            exact ih
          · omega
    · have hgs : gl s (h + 1) = gl s h := by rw [gl_s, if_neg ht, List.append_nil]
      have ih := cm_guests hg hs hno hQ q (h + 1) N (by omega) (by rw [hgs]; exact h6) hf (by rw [hgs]; exact hk)
      rw [hgs] at ih
      refine e_iload5 dX9_supper_40 ?_
      refine e_aload0 dX9_supper_42 ?_
      refine e_getR fl_X9_7 la_134 rfl dX9_supper_43 ?_
      refine e_iconst dX9_supper_46 rfl kc_0 ?_
      refine e_ialdK (k := 0) la_135 (by decide) (rfl) dX9_supper_47 ?_
      refine WW.ec (y := G 1 0) (e0) ?_
      refine e_icmp_ge (tgt := 88) dX9_supper_48 (by decide) (fun h48 => ?_) (fun h48 => ?_)
      · omega
      · refine e_iload1 dX9_supper_51 ?_
        refine e_iload5 dX9_supper_52 ?_
        refine e_ishr dX9_supper_54 ?_
        refine e_iconst dX9_supper_55 rfl kc_1 ?_
        refine e_iand dX9_supper_56 ?_
        refine e_iconst dX9_supper_57 rfl kc_1 ?_
        refine e_icmp_ne (tgt := 82) dX9_supper_58 (by decide) (fun h58 => ?_) (fun h => absurd h (fun z => ht (hbit.mp z)))
        refine e_iinc5 dX9_supper_82 rfl (⟨by omega, by omega⟩) rfl ?_
        refine e_goto (tgt := 40) dX9_supper_85 (by decide) ?_
        exact ih
/-- the product of an order -/
theorem pr_loop {G : Mem} (hd : 4 ≤ d) (hg : GS G M) {s n m : Nat} {th i b : Int} (hn : (gl s (G 1 0).toNat).length = n) (h6 : n ≤ 6) (hth : 1 ≤ th ∧ th ≤ 9) {e : List Nat} (hl : e.length = n) (hlt : ∀ g ∈ e, g < n) (hQ : ∀ N v8, FQ M N → (∀ o, o ≠ 156 → o ≠ 157 → N o = M o) → WM l w RX9 cX9_supper 9 (some .int) d Q 170 [some (vR 134), some (vI (s : Int)), some (vI th), some (vI i), some (vI (n : Int)), some (vI b), some (vI (m : Int)), some (vI (prd (gK G s th) n n e)), v8] [] N) (hs : ∀ j, j < n → M 161 j = (((gl s (G 1 0).toNat).getD (e.getD j 0) 0 : Nat) : Int)) :
    ∀ (q k : Nat) (p : Int) (N : Mem), 1 ≤ k → k + q = n → p * prd (gK G s th) n (n - k) (e.drop k) = prd (gK G s th) n n e → 0 ≤ p → p ≤ 10 ^ k → FM M N → WM l w RX9 cX9_supper 9 (some .int) d Q 126 [some (vR 134), some (vI (s : Int)), some (vI th), some (vI i), some (vI (n : Int)), some (vI b), some (vI (m : Int)), some (vI p), some (vI (k : Int))] [] N
  | 0, k, p, N, h1, hk, hp, p0, p1, hf => by
    have hq := hQ N (some (vI (k : Int))) hf.fq hf
    obtain rfl : k = n := by omega
    rw [Nat.sub_self, show e.drop k = [] by rw [← hl]; exact List.drop_length, show prd (gK G s th) k 0 [] = 1 from rfl, Int.mul_one] at hp
    subst hp
    refine e_iload8 dX9_supper_126 ?_
    refine e_iload4 dX9_supper_128 ?_
    refine e_icmp_ge (tgt := 170) dX9_supper_130 (by decide) (fun h130 => ?_) (fun h130 => ?_)
    · exact hq
    · omega
  | q + 1, k, p, N, h1, hk, hp, p0, p1, hf => by
    have hgN := hg.fq hf.fq
    have hG := hg.gm
    have i1 := hG.1.1.1
    have i5 := hG.1.1.2.1
    obtain ⟨c, hc⟩ : ∃ c : Nat, G 1 5 = c := ⟨(G 1 5).toNat, by omega⟩
    have e1 : N 135 1 = (c : Int) := by rw [hgN.2.2.1.1.1.2.1, hc]
    have hgk : e.getD k 0 < n := mem_getD hlt (by omega)
    have hh : (gl s (G 1 0).toNat).getD (e.getD k 0) 0 < (G 1 0).toNat := glD (by omega)
    have e161 : N 161 k = (((gl s (G 1 0).toNat).getD (e.getD k 0) 0 : Nat) : Int) := by rw [hf 161 (by decide) (by decide)]; exact hs k (by omega)
    have eK : gK G s th (e.getD k 0) k = 10 - tellN G 3 (((gl s (G 1 0).toNat).getD (e.getD k 0) 0 : Nat) : Int) th (n : Int) (k : Int) := by unfold gK; rw [if_neg (by omega), hn]
    have hKb := gK_ok G s th (e.getD k 0) k
    generalize hhg : (gl s (G 1 0).toNat).getD (e.getD k 0) 0 = h at hh e161 eK
    have hlaw := ct_X9_lawOf (l := l) (w := w) (d := d - 1) (M := N) (G := G) (u := 3) (h := h) (c := c) (i := k) (th := th) (ln := (n : Int)) (by omega) (by decide) (by omega) hG.1 hgN.2.2.1.lr hgN.2.2.2 (by omega) (by omega) hth (by omega)
    have hpw := pow6 (n := k + 1) (by omega)
    have hpp : (10 : Int) ^ (k + 1) = 10 ^ k * 10 := Int.pow_succ _ _
    have hm1 := mulNN p0 hKb.1
    have hm2 := mulLE p0 p1 hKb.1 hKb.2
    have ihp : p * gK G s th (e.getD k 0) k * prd (gK G s th) n (n - (k + 1)) (e.drop (k + 1)) = prd (gK G s th) n n e := by rw [Int.mul_assoc, ← prd_step hl (by omega)]; exact hp
    have ih := fun N1 (hfm : FM N N1) => pr_loop hd hg hn h6 hth hl hlt hQ hs q (k + 1) (p * gK G s th (e.getD k 0) k) N1 (by omega) (by omega) ihp hm1 (by omega) (fun o a b => (hfm o a b).trans (hf o a b))
    refine e_iload8 dX9_supper_126 ?_
    refine e_iload4 dX9_supper_128 ?_
    refine e_icmp_ge (tgt := 170) dX9_supper_130 (by decide) (fun h130 => ?_) (fun h130 => ?_)
    · omega
    · refine e_iload7 dX9_supper_133 ?_
      refine e_bipush dX9_supper_135 rfl kb_10 ?_
      refine e_aload0 dX9_supper_137 ?_
      refine e_iconst dX9_supper_138 rfl kc_3 ?_
      refine e_aload0 dX9_supper_139 ?_
      refine e_getR fl_X9_97 la_134 rfl dX9_supper_140 ?_
      refine e_iload8 dX9_supper_143 ?_
      refine e_ialdK (k := k) la_161 (by omega) (by omega) dX9_supper_145 ?_
      refine WW.ec (y := (h : Int)) (e161) ?_
      refine e_aload0 dX9_supper_146 ?_
      refine e_getR fl_X9_7 la_134 rfl dX9_supper_147 ?_
      refine e_iconst dX9_supper_150 rfl kc_1 ?_
      refine e_ialdK (k := 1) la_135 (by decide) (rfl) dX9_supper_151 ?_
      refine WW.ec (y := (c : Int)) (e1) ?_
      refine e_iload2 dX9_supper_152 ?_
      refine e_iload4 dX9_supper_153 ?_
      refine e_iload8 dX9_supper_155 ?_
      refine e_cVGI (hlaw) cy_X9_lawOf cv_X9_lawOf ml_X9_313 la_134 rfl rfl rfl (rok (by omega) (by decide)) (Nat.le_of_ble_eq_true rfl) dX9_supper_157 (fun x N1 hx => ?_)
      obtain ⟨hx0, hfm⟩ := hx
      have hx1 : x = tellN G 3 (h : Int) th (n : Int) (k : Int) := by rw [hx0]; unfold tellN; rw [hc]; rfl
      obtain rfl : x = 10 - gK G s th (e.getD k 0) k := by omega
      have ih1 := ih N1 hfm
      generalize gK G s th (e.getD k 0) k = kk at hKb hm1 hm2 ih1
      refine e_isub dX9_supper_160 (⟨by omega, by omega⟩) ?_
      refine WW.ec (y := kk) (by omega) ?_
      refine e_imul dX9_supper_161 (⟨by omega, by omega⟩) ?_
      refine e_istore7 dX9_supper_162 rfl ?_
      refine e_iinc8 dX9_supper_164 rfl (⟨by omega, by omega⟩) rfl ?_
      refine e_goto (tgt := 126) dX9_supper_167 (by decide) ?_
      exact ih1
/-- the best is kept -/
theorem cp_loop {s n m : Nat} {th i b pv : Int} (h6 : n ≤ 6) (hQ : ∀ N v8, (∀ o, o ≠ 162 → N o = M o) → (∀ j, j < n → N 162 j = M 161 j) → WM l w RX9 cX9_supper 9 (some .int) d Q 211 [some (vR 134), some (vI (s : Int)), some (vI th), some (vI i), some (vI (n : Int)), some (vI b), some (vI (m : Int)), some (vI pv), v8] [] N) :
    ∀ (q k : Nat) (N : Mem), k + q = n → (∀ o, o ≠ 162 → N o = M o) → (∀ j, j < k → N 162 j = M 161 j) → WM l w RX9 cX9_supper 9 (some .int) d Q 184 [some (vR 134), some (vI (s : Int)), some (vI th), some (vI i), some (vI (n : Int)), some (vI b), some (vI (m : Int)), some (vI pv), some (vI (k : Int))] [] N
  | 0, k, N, hk, hf, hj => by
    obtain rfl : k = n := by omega
    have hq := hQ N (some (vI (k : Int))) hf hj
    refine e_iload8 dX9_supper_184 ?_
    refine e_iload4 dX9_supper_186 ?_
    refine e_icmp_ge (tgt := 211) dX9_supper_188 (by decide) (fun h188 => ?_) (fun h188 => ?_)
    · exact hq
    · omega
  | q + 1, k, N, hk, hf, hj => by
    have e161 : N 161 k = M 161 k := by rw [hf 161 (by decide)]
    have ih := cp_loop h6 hQ q (k + 1) (up N 162 k (M 161 k)) (by omega) (fun o ho => by rw [up_row ho]; exact hf o ho) (fun j hj2 => by
      by_cases e : j = k
      · rw [e, up_s]
      · rw [up_k e]; exact hj j (by omega))
    refine e_iload8 dX9_supper_184 ?_
    refine e_iload4 dX9_supper_186 ?_
    refine e_icmp_ge (tgt := 211) dX9_supper_188 (by decide) (fun h188 => ?_) (fun h188 => ?_)
    · omega
    · refine e_aload0 dX9_supper_191 ?_
      refine e_getR fl_X9_100 la_134 rfl dX9_supper_192 ?_
      refine e_iload8 dX9_supper_195 ?_
      refine e_aload0 dX9_supper_197 ?_
      refine e_getR fl_X9_97 la_134 rfl dX9_supper_198 ?_
      refine e_iload8 dX9_supper_201 ?_
      refine e_ialdK (k := k) la_161 (by omega) (by omega) dX9_supper_203 ?_
      refine WW.ec (y := M 161 k) (e161) ?_
      refine e_iastK (k := k) la_162 (by omega) (by omega) dX9_supper_204 ?_
      refine e_iinc8 dX9_supper_205 rfl (⟨by omega, by omega⟩) rfl ?_
      refine e_goto (tgt := 184) dX9_supper_208 (by decide) ?_
      exact ih
end MSUP2
