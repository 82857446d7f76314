/-! THE MODEL'S WEDDINGS, whole -/
section MWED2
variable {l : Launch} {w : Wd} {d : Nat} {M : Mem} {Q : Option MV → Mem → Prop}
theorem mi_row {G : Mem} (hd : 5 ≤ d) (hg : GS G M) (h1 : 1 ≤ G 1 0) {c nx ln : Nat} (hc : (c : Int) < G 1 5) (hnx : G 10 c = nx) (hln : G 7 c = ln) (hQ : ∀ N v2, FQ M N → (∀ k, k < c → N 163 k = mins G k) → N 163 c = mins G c → WM l w RX9 cX9_laysMinutes 3 none d Q 58 [some (vR 134), some (vI (c : Int)), v2] [] N) :
    ∀ (q j : Nat) (N : Mem), nx + j + q = ln → FQ M N → (∀ k, k < c → N 163 k = mins G k) → N 163 c = mSum G c nx j → WM l w RX9 cX9_laysMinutes 3 none d Q 26 [some (vR 134), some (vI (c : Int)), some (vI ((nx + j : Nat) : Int))] [] N
  | 0, j, N, hj, hf, hk, hs => by
    have hgN := hg.fq hf
    obtain ⟨⟨a1, a2⟩, _, a6, h6, h7, _⟩ := hgN.cn hc
    have em : mins G c = mSum G c nx j := by unfold mins; rw [hnx, hln, toN, show ((ln : Int) - (nx : Int)).toNat = j by omega]
    have hq := hQ N (some (vI ((nx + j : Nat) : Int))) hf hk (by rw [hs, em])
    refine e_iload2 dX9_laysMinutes_26 ?_
    refine e_aload0 dX9_laysMinutes_27 ?_
    refine e_iload1 dX9_laysMinutes_28 ?_
    refine e_cVI (ct_X9_inchesOf (d := d - 1) h6) cy_X9_inchesOf cv_X9_inchesOf ml_X9_310 la_134 rfl rfl rfl (rok (by omega) (by decide)) (Nat.le_of_ble_eq_true rfl) dX9_laysMinutes_29 ?_
    refine WW.ec (y := (ln : Int)) (by rw [a2, hln]) ?_
    refine e_icmp_ge (tgt := 58) dX9_laysMinutes_32 (by decide) (fun h32 => ?_) (fun h32 => ?_)
    · exact hq
    · omega
  | q + 1, j, N, hj, hf, hk, hs => by
    have hgN := hg.fq hf
    have hG := hg.gm
    obtain ⟨⟨a1, a2⟩, _, a6, h6, h7, h10, h61, _⟩ := hgN.cn hc
    have hlaw := ct_X9_lawFor (l := l) (w := w) (d := d - 1) (M := N) (u := 1) (h := 0) (c := c) (i := nx + j) (by omega) (by decide) (by omega) hc (by omega) hG.1 h61.1 hgN.2.2.1.lr hgN.2.2.2
    have hb := mSum_b G c nx j
    have ht := (tellV_b G 1 0 c ((nx + j : Nat) : Int)).1
    refine e_iload2 dX9_laysMinutes_26 ?_
    refine e_aload0 dX9_laysMinutes_27 ?_
    refine e_iload1 dX9_laysMinutes_28 ?_
    refine e_cVI (ct_X9_inchesOf (d := d - 1) h6) cy_X9_inchesOf cv_X9_inchesOf ml_X9_310 la_134 rfl rfl rfl (rok (by omega) (by decide)) (Nat.le_of_ble_eq_true rfl) dX9_laysMinutes_29 ?_
    refine WW.ec (y := (ln : Int)) (by rw [a2, hln]) ?_
    refine e_icmp_ge (tgt := 58) dX9_laysMinutes_32 (by decide) (fun h32 => ?_) (fun h32 => ?_)
    · omega
    · refine e_aload0 dX9_laysMinutes_35 ?_
      refine e_getR fl_X9_103 la_134 rfl dX9_laysMinutes_36 ?_
      refine e_iload1 dX9_laysMinutes_39 ?_
      refine e_dup2 dX9_laysMinutes_40 rfl rfl ?_
      refine e_ialdK (k := c) la_163 (by omega) (by omega) dX9_laysMinutes_41 ?_
      refine WW.ec (y := mSum G c nx j) (hs) ?_
      refine e_aload0 dX9_laysMinutes_42 ?_
      refine e_iconst dX9_laysMinutes_43 rfl kc_1 ?_
      refine e_iconst dX9_laysMinutes_44 rfl kc_0 ?_
      refine e_iload1 dX9_laysMinutes_45 ?_
      refine e_iload2 dX9_laysMinutes_46 ?_
      refine e_cVGI (hlaw) cy_X9_lawFor cv_X9_lawFor ml_X9_323 la_134 rfl rfl rfl (rok (by omega) (by decide)) (Nat.le_of_ble_eq_true rfl) dX9_laysMinutes_47 (fun x N1 hx => ?_)
      obtain ⟨hx0, hfm⟩ := hx
      obtain rfl : x = tellV G 1 0 c ((nx + j : Nat) : Int) := hx0
      have e163 : N1 163 = N 163 := hfm 163 (by decide) (by decide)
      have ih := mi_row hd hg h1 hc hnx hln hQ q (j + 1) (up N1 163 c (mSum G c nx j + tellV G 1 0 c ((nx + j : Nat) : Int))) (by omega) ((hf.tr hfm.fq).up (by decide)) (fun k hk2 => by rw [up_k (by omega), e163]; exact hk k hk2) (by rw [up_s]; rfl)
      refine e_iadd dX9_laysMinutes_50 (⟨by omega, by omega⟩) ?_
      refine e_iastK (k := c) la_163 (by omega) (by omega) dX9_laysMinutes_51 ?_
      refine e_iinc2 dX9_laysMinutes_52 rfl (⟨by omega, by omega⟩) rfl ?_
      refine e_goto (tgt := 26) dX9_laysMinutes_55 (by decide) ?_
      exact ih
theorem mi_loop {G : Mem} (hd : 5 ≤ d) (hg : GS G M) (h1 : 1 ≤ G 1 0) (hQ : ∀ N, FQ M N → (∀ k, k < (G 1 5).toNat → N 163 k = mins G k) → Q none N) :
    ∀ (q c : Nat) (N : Mem) (v2 : Option MV), c + q = (G 1 5).toNat → FQ M N → (∀ k, k < c → N 163 k = mins G k) → WM l w RX9 cX9_laysMinutes 3 none d Q 2 [some (vR 134), some (vI (c : Int)), v2] [] N
  | 0, c, N, v2, hc, hf, hk => by
    have e1 := (hg.fq hf).2.2.1.1.1.2.1
    have h5 := hg.gm.1.1.2.1
    have hq := hQ N hf (fun k hk2 => hk k (by omega))
    refine e_iload1 dX9_laysMinutes_2 ?_
    refine e_aload0 dX9_laysMinutes_3 ?_
    refine e_getR fl_X9_7 la_134 rfl dX9_laysMinutes_4 ?_
    refine e_iconst dX9_laysMinutes_7 rfl kc_1 ?_
    refine e_ialdK (k := 1) la_135 (by decide) (rfl) dX9_laysMinutes_8 ?_
    refine WW.ec (y := G 1 5) (e1) ?_
    refine e_icmp_ge (tgt := 64) dX9_laysMinutes_9 (by decide) (fun h9 => ?_) (fun h9 => ?_)
    · refine e_vret dX9_laysMinutes_64 ?_
      exact hq
    · omega
  | q + 1, c, N, v2, hc, hf, hk => by
    have e1 := (hg.fq hf).2.2.1.1.1.2.1
    have h5 := hg.gm.1.1.2.1
    have hc1 : (c : Int) < G 1 5 := by omega
    obtain ⟨_, ⟨_, _, a5⟩, _, h6, h7, h10, _⟩ := (hg.fq hf).cn hc1
    obtain ⟨nx, hnx⟩ : ∃ n : Nat, G 10 c = n := ⟨(G 10 c).toNat, by omega⟩
    obtain ⟨ln, hln⟩ : ∃ n : Nat, G 7 c = n := ⟨(G 7 c).toNat, by omega⟩
    have h26 := mi_row (l := l) (w := w) (d := d) (M := M) (Q := Q) hd hg h1 hc1 hnx hln (fun N2 v2 f2 k2 s2 => by
      have ih := mi_loop hd hg h1 hQ q (c + 1) N2 v2 (by omega) f2 (fun k hk2 => by
        rcases Nat.lt_succ_iff_lt_or_eq.mp hk2 with z | z
        · exact k2 k z
        · rw [z]; exact s2)
      refine e_iinc1 dX9_laysMinutes_58 rfl (⟨by omega, by omega⟩) rfl ?_
      refine e_goto (tgt := 2) dX9_laysMinutes_61 (by decide) ?_
      exact ih) (ln - nx) 0 (up N 163 c 0) (by omega) (hf.up (by decide)) (fun k hk2 => by rw [up_k (by omega)]; exact hk k hk2) (up_s _ _ _ _)
    refine e_iload1 dX9_laysMinutes_2 ?_
    refine e_aload0 dX9_laysMinutes_3 ?_
    refine e_getR fl_X9_7 la_134 rfl dX9_laysMinutes_4 ?_
    refine e_iconst dX9_laysMinutes_7 rfl kc_1 ?_
    refine e_ialdK (k := 1) la_135 (by decide) (rfl) dX9_laysMinutes_8 ?_
    refine WW.ec (y := G 1 5) (e1) ?_
    refine e_icmp_ge (tgt := 64) dX9_laysMinutes_9 (by decide) (fun h9 => ?_) (fun h9 => ?_)
    · omega
    · refine e_aload0 dX9_laysMinutes_12 ?_
      refine e_getR fl_X9_103 la_134 rfl dX9_laysMinutes_13 ?_
      refine e_iload1 dX9_laysMinutes_16 ?_
      refine e_iconst dX9_laysMinutes_17 rfl kc_0 ?_
      refine e_iastK (k := c) la_163 (by omega) (by omega) dX9_laysMinutes_18 ?_
      refine e_aload0 dX9_laysMinutes_19 ?_
      refine e_iload1 dX9_laysMinutes_20 ?_
      refine e_iconst dX9_laysMinutes_21 rfl kc_2 ?_
      refine e_cVI (ct_X9_ofCandle (d := d - 1) (k := 2) h6 (by decide)) cy_X9_ofCandle cv_X9_ofCandle ml_X9_327 la_134 rfl rfl rfl (rok (by omega) (by decide)) (Nat.le_of_ble_eq_true rfl) dX9_laysMinutes_22 ?_
      refine WW.ec (y := ((nx + 0 : Nat) : Int)) (by rw [up_o (by decide), a5, hnx]; rfl) ?_
      refine e_istore2 dX9_laysMinutes_25 rfl ?_
      exact h26
theorem ct_X9_laysMinutes {G : Mem} (hd : 5 ≤ d) (hg : GS G M) (h1 : 1 ≤ G 1 0) : GV l w yX9_laysMinutes cX9_laysMinutes 3 d [vR 134] M (fun M1 => FQ M M1 ∧ ∀ k, k < (G 1 5).toNat → M1 163 k = mins G k) := by
  have h := mi_loop (l := l) (w := w) (d := d) (M := M) (Q := fun r M1 => r = none ∧ FQ M M1 ∧ ∀ k, k < (G 1 5).toNat → M1 163 k = mins G k) hd hg h1 (fun N a b => ⟨rfl, a, b⟩) (G 1 5).toNat 0 M none (by omega) (FQ.rf M) (fun k hk => absurd hk (Nat.not_lt_zero k))
  refine MT.of [some (vR 134), none, none] ⟨by decide, rfl⟩ rfl (Nat.le_of_ble_eq_true rfl) (fun hA hM => ?_)
  refine e_iconst dX9_laysMinutes_0 rfl kc_0 ?_
  refine e_istore1 dX9_laysMinutes_1 rfl ?_
  exact h
/-- the best of the first i ways -/
def bfo (m : Nat → Int) (n : Nat) (b0 : List Int) (i : Nat) : Int × List Int := (((wedP n).take i).map (fun p => (p, mxF m p n))).foldl bstep (-1, b0)
theorem bfo_s (m : Nat → Int) (n : Nat) (b0 : List Int) (i : Nat) {p : List Int} (h : (wedP n)[i]? = some p) : bfo m n b0 (i + 1) = bstep (bfo m n b0 i) (p, mxF m p n) := by
  unfold bfo
  rw [List.take_add_one, h]
  show List.foldl bstep (-1, b0) (List.map _ (_ ++ [p])) = _
  rw [List.map_append, List.foldl_append]
  rfl
theorem mxF_b {m : Nat → Int} {p : List Int} (hm : ∀ k, 0 ≤ m k ∧ m k ≤ 2000) : ∀ n, 0 ≤ mxF m p n ∧ mxF m p n ≤ 4000
  | 0 => ⟨Int.le_refl 0, by show (0 : Int) ≤ 4000; decide⟩
  | n + 1 => by
    have h := mxF_b (p := p) hm n
    have h1 := hm n
    have h2 := hm (p.getD n 0).toNat
    rw [mxF_s]
    omega
theorem mo_loop {n : Nat} {m : Nat → Int} {p : List Int} {N : Mem} {v1 v3 v4 v5 : Int} (hn : n ≤ 6) (hmb : ∀ k, 0 ≤ m k ∧ m k ≤ 2000) (hm : ∀ k, k < n → N 163 k = m k) (hp : ∀ k, k < n → N 164 k = p.getD k 0 ∧ 0 ≤ p.getD k 0 ∧ p.getD k 0 < n) (hQ : ∀ v8, WM l w RX9 cX9_married 9 (some .int) d Q 143 [some (vR 134), some (vI v1), some (vI (n : Int)), some (vI v3), some (vI v4), some (vI v5), some (vI (mxF m p n)), some (vI (n : Int)), v8] [] N) :
    ∀ (q c : Nat) (v8 : Option MV), c + q = n → WM l w RX9 cX9_married 9 (some .int) d Q 93 [some (vR 134), some (vI v1), some (vI (n : Int)), some (vI v3), some (vI v4), some (vI v5), some (vI (mxF m p c)), some (vI (c : Int)), v8] [] N
  | 0, c, v8, hc => by
    obtain rfl : c = n := by omega
    have hq := hQ v8
    refine e_iload7 dX9_married_93 ?_
    refine e_iload2 dX9_married_95 ?_
    refine e_icmp_ge (tgt := 143) dX9_married_96 (by decide) (fun h96 => ?_) (fun h96 => ?_)
    · exact hq
    · omega
  | q + 1, c, v8, hc => by
    have hpc := hp c (by omega)
    obtain ⟨o, eo⟩ : ∃ o : Nat, p.getD c 0 = o := ⟨(p.getD c 0).toNat, by omega⟩
    have ih := mo_loop (v1 := v1) (v3 := v3) (v4 := v4) (v5 := v5) hn hmb hm hp hQ q (c + 1) (some (vI (m c + m o))) (by omega)
    have es : mxF m p (c + 1) = if mxF m p c < m c + m o then m c + m o else mxF m p c := by
      show (if mxF m p c < m c + m (p.getD c 0).toNat then _ else _) = _
      rw [eo, toN]
    have b1 := hmb c
    have b2 := hmb o
    rw [es] at ih
    refine e_iload7 dX9_married_93 ?_
    refine e_iload2 dX9_married_95 ?_
    refine e_icmp_ge (tgt := 143) dX9_married_96 (by decide) (fun h96 => ?_) (fun h96 => ?_)
    · omega
    · refine e_aload0 dX9_married_99 ?_
      refine e_getR fl_X9_103 la_134 rfl dX9_married_100 ?_
      refine e_iload7 dX9_married_103 ?_
      refine e_ialdK (k := c) la_163 (by omega) (by omega) dX9_married_105 ?_
      refine WW.ec (y := m c) (hm c (by omega)) ?_
      refine e_aload0 dX9_married_106 ?_
      refine e_getR fl_X9_103 la_134 rfl dX9_married_107 ?_
      refine e_aload0 dX9_married_110 ?_
      refine e_getR fl_X9_106 la_134 rfl dX9_married_111 ?_
      refine e_iload7 dX9_married_114 ?_
      refine e_ialdK (k := c) la_164 (by omega) (by omega) dX9_married_116 ?_
      refine WW.ec (y := (o : Int)) (by rw [hpc.1, eo]) ?_
      refine e_ialdK (k := o) la_163 (by omega) (by omega) dX9_married_117 ?_
      refine WW.ec (y := m o) (hm o (by omega)) ?_
      refine e_iadd dX9_married_118 (⟨by omega, by omega⟩) ?_
      refine e_istore8 dX9_married_119 rfl ?_
      refine e_iload8 dX9_married_121 ?_
      refine e_iload6 dX9_married_123 ?_
      refine e_icmp_le (tgt := 133) dX9_married_125 (by decide) (fun h125 => ?_) (fun h125 => ?_)
      · refine e_iload6 dX9_married_133 ?_
        refine e_istore6 dX9_married_135 rfl ?_
        refine e_iinc7 dX9_married_137 rfl (⟨by omega, by omega⟩) rfl ?_
        refine e_goto (tgt := 93) dX9_married_140 (by decide) ?_
        first | (rw [if_neg (by omega)] at ih; exact ih) | (rw [if_pos (by omega)] at ih; exact ih)
      · refine e_iload8 dX9_married_128 ?_
        refine e_goto (tgt := 135) dX9_married_130 (by decide) ?_
        refine e_istore6 dX9_married_135 rfl ?_
        refine e_iinc7 dX9_married_137 rfl (⟨by omega, by omega⟩) rfl ?_
        refine e_goto (tgt := 93) dX9_married_140 (by decide) ?_
        first | (rw [if_neg (by omega)] at ih; exact ih) | (rw [if_pos (by omega)] at ih; exact ih)
theorem cb_loop {n : Nat} {N : Mem} {v1 v3 v4 v5 v6 : Int} {v8 : Option MV} (hn : n ≤ 6) (hQ : ∀ N1, (∀ o, o ≠ 165 → N1 o = N o) → (∀ k, k < n → N1 165 k = N 164 k) → WM l w RX9 cX9_married 9 (some .int) d Q 189 [some (vR 134), some (vI v1), some (vI (n : Int)), some (vI v3), some (vI v4), some (vI v5), some (vI v6), some (vI (n : Int)), v8] [] N1) :
    ∀ (q c : Nat) (N1 : Mem), c + q = n → (∀ o, o ≠ 165 → N1 o = N o) → (∀ k, k < c → N1 165 k = N 164 k) → WM l w RX9 cX9_married 9 (some .int) d Q 163 [some (vR 134), some (vI v1), some (vI (n : Int)), some (vI v3), some (vI v4), some (vI v5), some (vI v6), some (vI (c : Int)), v8] [] N1
  | 0, c, N1, hc, hf, hk => by
    obtain rfl : c = n := by omega
    have hq := hQ N1 hf hk
    refine e_iload7 dX9_married_163 ?_
    refine e_iload2 dX9_married_165 ?_
    refine e_icmp_ge (tgt := 189) dX9_married_166 (by decide) (fun h166 => ?_) (fun h166 => ?_)
    · exact hq
    · omega
  | q + 1, c, N1, hc, hf, hk => by
    have ih := cb_loop hn hQ q (c + 1) (up N1 165 c (N 164 c)) (by omega) (fun o ho => by rw [up_row ho]; exact hf o ho) (fun k hk2 => by
      by_cases e : k = c
      · rw [e, up_s]
      · rw [up_k e]; exact hk k (by omega))
    refine e_iload7 dX9_married_163 ?_
    refine e_iload2 dX9_married_165 ?_
    refine e_icmp_ge (tgt := 189) dX9_married_166 (by decide) (fun h166 => ?_) (fun h166 => ?_)
    · omega
    · refine e_aload0 dX9_married_169 ?_
      refine e_getR fl_X9_109 la_134 rfl dX9_married_170 ?_
      refine e_iload7 dX9_married_173 ?_
      refine e_aload0 dX9_married_175 ?_
      refine e_getR fl_X9_106 la_134 rfl dX9_married_176 ?_
      refine e_iload7 dX9_married_179 ?_
      refine e_ialdK (k := c) la_164 (by omega) (by omega) dX9_married_181 ?_
      refine WW.ec (y := N 164 c) (by rw [hf 164 (by decide)]) ?_
      refine e_iastK (k := c) la_165 (by omega) (by omega) dX9_married_182 ?_
      refine e_iinc7 dX9_married_183 rfl (⟨by omega, by omega⟩) rfl ?_
      refine e_goto (tgt := 163) dX9_married_186 (by decide) ?_
      exact ih
theorem md_loop {n : Nat} {m : Nat → Int} {b0 : List Int} {v1 : Int} (hd : 1 ≤ d) (hn : n = 2 ∨ n = 4 ∨ n = 6) (hmb : ∀ k, 0 ≤ m k ∧ m k ≤ 2000) (hQ : ∀ N v5 v6 v7 v8, FQ M N → (∀ k, k < n → N 165 k = (bfo m n b0 (waysN n)).2.getD k 0) → WM l w RX9 cX9_married 9 (some .int) d Q 195 [some (vR 134), some (vI v1), some (vI (n : Int)), some (vI (waysN n : Int)), some (vI (bfo m n b0 (waysN n)).1), v5, v6, v7, v8] [] N) :
    ∀ (q i : Nat) (N : Mem) (v6 v7 v8 : Option MV), i + q = waysN n → FQ M N → (∀ k, k < n → N 163 k = m k) → (∀ k, k < n → N 165 k = (bfo m n b0 i).2.getD k 0) → WM l w RX9 cX9_married 9 (some .int) d Q 73 [some (vR 134), some (vI v1), some (vI (n : Int)), some (vI (waysN n : Int)), some (vI (bfo m n b0 i).1), some (vI (i : Int)), v6, v7, v8] [] N := by
  have hn6 : n ≤ 6 := by omega
  have hw15 : waysN n ≤ 15 := by unfold waysN; split; omega; split <;> omega
  have hall := lm_all n (by omega) hn
  intro q
  induction q with
  | zero =>
    intro i N v6 v7 v8 hi hf hm hb
    obtain rfl : i = waysN n := by omega
    have hq := hQ N (some (vI (waysN n : Int))) v6 v7 v8 hf hb
    refine e_iload5 dX9_married_73 ?_
    refine e_iload3 dX9_married_75 ?_
    refine e_icmp_ge (tgt := 195) dX9_married_76 (by decide) (fun h76 => ?_) (fun h76 => ?_)
    · exact hq
    · omega
  | succ q ih =>
    intro i N v6 v7 v8 hi hf hm hb
    obtain ⟨p, hp⟩ : ∃ p, (wedP n)[i]? = some p := ⟨_, List.getElem?_eq_getElem (by omega)⟩
    have hlm : lmR n n 0 (List.replicate n (-1), waysN n, i, n) = some p := by rw [hall.2 i (by omega), hp]
    have hpb := wed_b n (by omega) hn p (List.mem_of_getElem? hp)
    have hcall := ct_X9_laysMates (l := l) (w := w) (d := d - 1) (M := N) hn6 (by omega) hw15 hlm
    have hxb := mxF_b (p := p) hmb n
    have es := bfo_s m n b0 i hp
    refine e_iload5 dX9_married_73 ?_
    refine e_iload3 dX9_married_75 ?_
    refine e_icmp_ge (tgt := 195) dX9_married_76 (by decide) (fun h76 => ?_) (fun h76 => ?_)
    · omega
    · refine e_aload0 dX9_married_79 ?_
      refine e_iload2 dX9_married_80 ?_
      refine e_iload5 dX9_married_81 ?_
      refine e_iload3 dX9_married_83 ?_
      refine e_cVGV (hcall) cy_X9_laysMates cv_X9_laysMates ml_X9_386 la_134 rfl rfl rfl (rok (by omega) (by decide)) (Nat.le_of_ble_eq_true rfl) dX9_married_84 (fun N1 hx => ?_)
      obtain ⟨g1, g2⟩ := hx
      have f1 : FQ M N1 := hf.tr (fun o ho => g1 o (by omega))
      have m1 : ∀ k, k < n → N1 163 k = m k := fun k hk => by rw [g1 163 (by decide)]; exact hm k hk
      have h143 : ∀ v8 : Option MV, WM l w RX9 cX9_married 9 (some .int) d Q 143 [some (vR 134), some (vI v1), some (vI (n : Int)), some (vI (waysN n : Int)), some (vI (bfo m n b0 i).1), some (vI (i : Int)), some (vI (mxF m p n)), some (vI (n : Int)), v8] [] N1 := by
        intro v8
        have hnx : ∀ N2 (v7 : Int), (∀ o, o ≠ 165 → N2 o = N1 o) → (∀ k, k < n → N2 165 k = (bfo m n b0 (i + 1)).2.getD k 0) → WM l w RX9 cX9_married 9 (some .int) d Q 189 [some (vR 134), some (vI v1), some (vI (n : Int)), some (vI (waysN n : Int)), some (vI (bfo m n b0 (i + 1)).1), some (vI (i : Int)), some (vI (mxF m p n)), some (vI v7), v8] [] N2 := by
          intro N2 v7 c1 c2
          have hih := ih (i + 1) N2 (some (vI (mxF m p n))) (some (vI v7)) v8 (by omega) (f1.tr (fun o ho => c1 o (by omega))) (fun k hk => by rw [c1 163 (by decide)]; exact m1 k hk) c2
          refine e_iinc5 dX9_married_189 rfl (⟨by omega, by omega⟩) rfl ?_
          refine e_goto (tgt := 73) dX9_married_192 (by decide) ?_
          exact hih
        by_cases keep : (bfo m n b0 i).1 ≠ -1 ∧ (bfo m n b0 i).1 ≤ mxF m p n
        · have e2 : bfo m n b0 (i + 1) = bfo m n b0 i := by rw [es]; unfold bstep; rw [if_pos keep]
          have hx := hnx N1 n (fun _ _ => rfl) (fun k hk => by rw [e2, g1 165 (by decide)]; exact hb k hk)
          rw [e2] at hx
          refine e_iload4 dX9_married_143 ?_
          refine e_iconst dX9_married_145 rfl kc_m1 ?_
          refine e_icmp_eq (tgt := 156) dX9_married_146 (by decide) (fun h146 => ?_) (fun h146 => ?_)
          · exfalso; omega
          · refine e_iload6 dX9_married_149 ?_
            refine e_iload4 dX9_married_151 ?_
            refine e_icmp_ge (tgt := 189) dX9_married_153 (by decide) (fun h153 => ?_) (fun h153 => ?_)
            · exact hx
            · exfalso; omega
        · have e2 : bfo m n b0 (i + 1) = (mxF m p n, p) := by rw [es]; unfold bstep; rw [if_neg keep]
          have h163 := cb_loop (l := l) (w := w) (d := d) (Q := Q) (N := N1) (v1 := v1) (v3 := waysN n) (v4 := mxF m p n) (v5 := i) (v6 := mxF m p n) (v8 := v8) hn6 (fun N2 c1 c2 => by
            have hx := hnx N2 n c1 (fun k hk => by rw [e2, c2 k hk]; exact g2 k hk)
            rw [e2] at hx
            exact hx) n 0 N1 (by omega) (fun _ _ => rfl) (fun k hk => absurd hk (Nat.not_lt_zero k))
          refine e_iload4 dX9_married_143 ?_
          refine e_iconst dX9_married_145 rfl kc_m1 ?_
          refine e_icmp_eq (tgt := 156) dX9_married_146 (by decide) (fun h146 => ?_) (fun h146 => ?_)
          · refine e_iload6 dX9_married_156 ?_
            refine e_istore4 dX9_married_158 rfl ?_
            refine e_iconst dX9_married_160 rfl kc_0 ?_
            refine e_istore7 dX9_married_161 rfl ?_
            exact h163
          · refine e_iload6 dX9_married_149 ?_
            refine e_iload4 dX9_married_151 ?_
            refine e_icmp_ge (tgt := 189) dX9_married_153 (by decide) (fun h153 => ?_) (fun h153 => ?_)
            · exfalso; omega
            · refine e_iload6 dX9_married_156 ?_
              refine e_istore4 dX9_married_158 rfl ?_
              refine e_iconst dX9_married_160 rfl kc_0 ?_
              refine e_istore7 dX9_married_161 rfl ?_
              exact h163
      have h93 := mo_loop (l := l) (w := w) (d := d) (Q := Q) (N := N1) (m := m) (p := p) (v1 := v1) (v3 := waysN n) (v4 := (bfo m n b0 i).1) (v5 := i) hn6 hmb m1 (fun k hk => ⟨g2 k hk, hpb.2 k hk⟩) h143 n 0 v8 (by omega)
      refine e_iconst dX9_married_87 rfl kc_0 ?_
      refine e_istore6 dX9_married_88 rfl ?_
      refine e_iconst dX9_married_90 rfl kc_0 ?_
      refine e_istore7 dX9_married_91 rfl ?_
      exact h93
theorem mar_all {m : Nat → Int} {n : Nat} (hn : n = 2 ∨ n = 4 ∨ n = 6) (b0 : List Int) : (mar m n 7 (List.replicate n (-1)) 0 0).foldl bstep (-1, b0) = bfo m n b0 (waysN n) := by
  have e : (wedP n).take (waysN n) = wedP n := List.take_of_length_le (by rw [(lm_all n (by omega) hn).1]; exact Nat.le_refl _)
  unfold bfo
  rw [e]
  rcases hn with rfl | rfl | rfl
  · rw [mar_2]
  · rw [mar_4]
  · rw [mar_6]
theorem ct_X9_married {G : Mem} (hd : 6 ≤ d) (hg : GS G M) {c : Int} : GI l w yX9_married cX9_married 9 .int d [vR 134, vI c] M (fun x M1 => marriedR G c x ∧ FQ M M1) := by
  have nn := hg.nn
  have e0 := hg.2.2.1.1.1.1
  have e1 := hg.2.2.1.1.1.2.1
  have hG := hg.gm
  have h5 := hG.1.1.2.1
  have h0 := hG.1.1.1
  have bad : ¬ ((c = -1 ∨ isC G c) ∧ (1 ≤ G 1 5 ∧ G 1 5 % 2 = 0 ∧ 1 ≤ G 1 0)) → ∃ x, some (vI (-1)) = some (vI x) ∧ marriedR G c x ∧ FQ M M := fun z => ⟨_, rfl, Or.inr ⟨z, rfl⟩, FQ.rf M⟩
  have et : (G 1 5).tmod 2 = G 1 5 % 2 := Int.tmod_eq_emod_of_nonneg h5.1
  refine MT.of [some (vR 134), some (vI c), none, none, none, none, none, none, none] ⟨by decide, rfl⟩ rfl (Nat.le_of_ble_eq_true rfl) (fun hA hM => ?_)
  by_cases ok : (c = -1 ∨ isC G c) ∧ (1 ≤ G 1 5 ∧ G 1 5 % 2 = 0 ∧ 1 ≤ G 1 0)
  · obtain ⟨n, en⟩ : ∃ n : Nat, G 1 5 = n := ⟨(G 1 5).toNat, by omega⟩
    have ok1 := ok.1
    have ok2 := ok.2
    rw [en] at ok2 et e1 h5
    have hn : n = 2 ∨ n = 4 ∨ n = 6 := by omega
    have hmb : ∀ k, 0 ≤ mins G k ∧ mins G k ≤ 99 * (G 7 k - G 10 k).toNat := fun k => mSum_b G k _ _
    have ic : c = -1 ∨ (0 ≤ c ∧ c < (n : Int)) := by
      rcases ok1 with z | z
      · exact Or.inl z
      · exact Or.inr ⟨z.1, by have := z.2; omega⟩
    have h42 : WM l w RX9 cX9_married 9 (some .int) d (fun r M1 => ∃ x, r = some (vI x) ∧ marriedR G c x ∧ FQ M M1) 42 [some (vR 134), some (vI c), some (vI (n : Int)), none, none, none, none, none, none] [] M := by
      have hlm := ct_X9_laysMinutes (l := l) (w := w) (d := d - 1) (M := M) (by omega) hg ok2.2.2
      refine e_aload0 dX9_married_42 ?_
      refine e_cVGV (hlm) cy_X9_laysMinutes cv_X9_laysMinutes ml_X9_383 la_134 rfl rfl rfl (rok (by omega) (by decide)) (Nat.le_of_ble_eq_true rfl) dX9_married_43 (fun N hx => ?_)
      obtain ⟨f1, g1⟩ := hx
      rw [en, toN] at g1
      have h195 : ∀ (N2 : Mem) (v5 v6 v7 v8 : Option MV), FQ M N2 → (∀ k, k < n → N2 165 k = (bfo (fun k => if k < n then mins G k else 0) n (seg (N 165) 0 n) (waysN n)).2.getD k 0) → WM l w RX9 cX9_married 9 (some .int) d (fun r M1 => ∃ x, r = some (vI x) ∧ marriedR G c x ∧ FQ M M1) 195 [some (vR 134), some (vI c), some (vI (n : Int)), some (vI (waysN n : Int)), some (vI (bfo (fun k => if k < n then mins G k else 0) n (seg (N 165) 0 n) (waysN n)).1), v5, v6, v7, v8] [] N2 := by
        intro N2 v5 v6 v7 v8 f2 g2
        have hfin : ∀ x : Int, x = (if c = -1 then (bfo (fun k => if k < n then mins G k else 0) n (seg (N 165) 0 n) (waysN n)).1 else (bfo (fun k => if k < n then mins G k else 0) n (seg (N 165) 0 n) (waysN n)).2.getD c.toNat 0) → marriedR G c x := by
          intro x hx
          refine Or.inl ⟨ok1, ok.2, seg (N 165) 0 n, ?_⟩
          rw [en, toN, mar_all hn]
          have ecg : bfo (mins G) n (seg (N 165) 0 n) (waysN n) = bfo (fun k => if k < n then mins G k else 0) n (seg (N 165) 0 n) (waysN n) := by
            unfold bfo
            congr 1
            apply List.map_congr_left
            intro p hp
            have hb := wed_b n (by omega) hn p (List.mem_of_mem_take hp)
            have key : ∀ j, j ≤ n → mxF (mins G) p j = mxF (fun k => if k < n then mins G k else 0) p j := by
              intro j
              induction j with
              | zero => intro _; rfl
              | succ j ihj =>
                intro hj
                have hbj := hb.2 j (by omega)
                rw [mxF_s, mxF_s, ihj (by omega), if_pos (show j < n by omega), if_pos (show (p.getD j 0).toNat < n by omega)]
            rw [key n (Nat.le_refl _)]
          rw [ecg]
          exact hx
        rcases ic with z | z
        · have hf := hfin _ (by rw [if_pos z])
          refine e_iload1 dX9_married_195 ?_
          refine e_iconst dX9_married_196 rfl kc_m1 ?_
          refine e_icmp_ne (tgt := 205) dX9_married_197 (by decide) (fun h => absurd h (fun y => y z)) (fun h197 => ?_)
          refine e_iload4 dX9_married_200 ?_
          refine e_goto (tgt := 211) dX9_married_202 (by decide) ?_
          refine e_iret dX9_married_211 ?_
          exact ⟨_, rfl, hf, f2⟩
        · obtain ⟨c', rfl⟩ : ∃ k : Nat, c = k := ⟨c.toNat, by omega⟩
          have hf := hfin _ (by rw [if_neg (by omega), toN])
          have ec := g2 c' (by omega)
          refine e_iload1 dX9_married_195 ?_
          refine e_iconst dX9_married_196 rfl kc_m1 ?_
          refine e_icmp_ne (tgt := 205) dX9_married_197 (by decide) (fun h197 => ?_) (fun h => absurd h (by omega))
          refine e_aload0 dX9_married_205 ?_
          refine e_getR fl_X9_109 la_134 rfl dX9_married_206 ?_
          refine e_iload1 dX9_married_209 ?_
          refine e_ialdK (k := c') la_165 (by omega) (by omega) dX9_married_210 ?_
          refine e_iret dX9_married_211 ?_
          rw [ec]; exact ⟨_, rfl, hf, f2⟩
      have h73 := md_loop (l := l) (w := w) (d := d) (M := M) (Q := fun r M1 => ∃ x, r = some (vI x) ∧ marriedR G c x ∧ FQ M M1) (n := n) (m := fun k => if k < n then mins G k else 0) (b0 := seg (N 165) 0 n) (v1 := c) (by omega) hn (fun k => by
        by_cases z : k < n
        · rw [if_pos z]
          have := hmb k
          have h7 := hG.1.1.2.2 k (by omega)
          have h10 := hG.2.2.1.2 k ⟨by omega, by omega⟩
          rw [toN] at h10
          omega
        · rw [if_neg z]; omega) h195 (waysN n) 0 N none none none (by omega) f1 (fun k hk => by rw [if_pos hk]; exact g1 k hk) (fun k hk => by show _ = (seg (N 165) 0 n).getD k 0; rw [seg_get _ _ _ _ hk, Nat.zero_add])
      have ew : ((waysN n : Nat) : Int) = if n = 2 then 1 else if n = 4 then 3 else 15 := by unfold waysN; split; rfl; split <;> rfl
      rw [ew] at h73
      rcases hn with z | z | z
      · subst z
        refine e_iload2 dX9_married_46 ?_
        refine e_iconst dX9_married_47 rfl kc_2 ?_
        refine e_icmp_ne (tgt := 55) dX9_married_48 (by decide) (fun h => absurd h (by decide)) (fun _ => ?_)
        refine e_iconst dX9_married_51 rfl kc_1 ?_
        refine e_goto (tgt := 66) dX9_married_52 (by decide) ?_
        refine e_istore3 dX9_married_66 rfl ?_
        refine e_iconst dX9_married_67 rfl kc_m1 ?_
        refine e_istore4 dX9_married_68 rfl ?_
        refine e_iconst dX9_married_70 rfl kc_0 ?_
        refine e_istore5 dX9_married_71 rfl ?_
        exact h73
      · subst z
        refine e_iload2 dX9_married_46 ?_
        refine e_iconst dX9_married_47 rfl kc_2 ?_
        refine e_icmp_ne (tgt := 55) dX9_married_48 (by decide) (fun _ => ?_) (fun h => absurd h (by decide))
        refine e_iload2 dX9_married_55 ?_
        refine e_iconst dX9_married_56 rfl kc_4 ?_
        refine e_icmp_ne (tgt := 64) dX9_married_57 (by decide) (fun h => absurd h (by decide)) (fun _ => ?_)
        refine e_iconst dX9_married_60 rfl kc_3 ?_
        refine e_goto (tgt := 66) dX9_married_61 (by decide) ?_
        refine e_istore3 dX9_married_66 rfl ?_
        refine e_iconst dX9_married_67 rfl kc_m1 ?_
        refine e_istore4 dX9_married_68 rfl ?_
        refine e_iconst dX9_married_70 rfl kc_0 ?_
        refine e_istore5 dX9_married_71 rfl ?_
        exact h73
      · subst z
        refine e_iload2 dX9_married_46 ?_
        refine e_iconst dX9_married_47 rfl kc_2 ?_
        refine e_icmp_ne (tgt := 55) dX9_married_48 (by decide) (fun _ => ?_) (fun h => absurd h (by decide))
        refine e_iload2 dX9_married_55 ?_
        refine e_iconst dX9_married_56 rfl kc_4 ?_
        refine e_icmp_ne (tgt := 64) dX9_married_57 (by decide) (fun _ => ?_) (fun h => absurd h (by decide))
        refine e_bipush dX9_married_64 rfl kb_15 ?_
        refine e_istore3 dX9_married_66 rfl ?_
        refine e_iconst dX9_married_67 rfl kc_m1 ?_
        refine e_istore4 dX9_married_68 rfl ?_
        refine e_iconst dX9_married_70 rfl kc_0 ?_
        refine e_istore5 dX9_married_71 rfl ?_
        exact h73
    refine e_aload0 dX9_married_0 ?_
    refine e_getR fl_X9_7 la_134 rfl dX9_married_1 ?_
    refine e_iconst dX9_married_4 rfl kc_1 ?_
    refine e_ialdK (k := 1) la_135 (by decide) (rfl) dX9_married_5 ?_
    refine WW.ec (y := (n : Int)) (e1) ?_
    refine e_istore2 dX9_married_6 rfl ?_
    refine e_aload0 dX9_married_7 ?_
    refine e_getR fl_X9_7 la_134 rfl dX9_married_8 ?_
    refine e_iconst dX9_married_11 rfl kc_0 ?_
    refine e_ialdK (k := 0) la_135 (by decide) (rfl) dX9_married_12 ?_
    refine WW.ec (y := G 1 0) (e0) ?_
    refine e_if_eq (tgt := 40) dX9_married_13 (by decide) (fun h13 => ?_) (fun h13 => ?_)
    · first | (exfalso; omega) | exact absurd (by rcases ok1 with z | z; exact absurd z h29; exact (hg.isC c).mpr z) g34
    · refine e_iload2 dX9_married_16 ?_
      refine e_if_eq (tgt := 40) dX9_married_17 (by decide) (fun h17 => ?_) (fun h17 => ?_)
      · first | (exfalso; omega) | exact absurd (by rcases ok1 with z | z; exact absurd z h29; exact (hg.isC c).mpr z) g34
      · refine e_iload2 dX9_married_20 ?_
        refine e_iconst dX9_married_21 rfl kc_2 ?_
        refine e_irem dX9_married_22 (by omega) (by rw [et]; exact ⟨by omega, by omega⟩) ?_
        refine WW.ec (y := (n : Int) % 2) (et) ?_
        refine e_iconst dX9_married_23 rfl kc_1 ?_
        refine e_icmp_eq (tgt := 40) dX9_married_24 (by decide) (fun h24 => ?_) (fun h24 => ?_)
        · first | (exfalso; omega) | exact absurd (by rcases ok1 with z | z; exact absurd z h29; exact (hg.isC c).mpr z) g34
        · refine e_iload1 dX9_married_27 ?_
          refine e_iconst dX9_married_28 rfl kc_m1 ?_
          refine e_icmp_eq (tgt := 42) dX9_married_29 (by decide) (fun h29 => ?_) (fun h29 => ?_)
          · exact h42
          · refine e_aload0 dX9_married_32 ?_
            refine e_iload1 dX9_married_33 ?_
            refine e_cVZ (ct_X9_isCandle (d := d - 1) (by omega) nn.2.1) cy_X9_isCandle cv_X9_isCandle ml_X9_320 la_134 rfl rfl rfl (rok (by omega) (by decide)) (Nat.le_of_ble_eq_true rfl) dX9_married_34 (fun g34 => ?_) (fun g34 => ?_)
            · refine e_if_ne (tgt := 42) dX9_married_37 (by decide) (fun _ => ?_) (fun h => absurd h (by decide))
              exact h42
            · refine e_if_ne (tgt := 42) dX9_married_37 (by decide) (fun h => absurd h (by decide)) (fun _ => ?_)
              first | (exfalso; omega) | exact absurd (by rcases ok1 with z | z; exact absurd z h29; exact (hg.isC c).mpr z) g34
  · have hE : G 1 5 % 2 = 0 ∨ G 1 5 % 2 = 1 := by omega
    refine e_aload0 dX9_married_0 ?_
    refine e_getR fl_X9_7 la_134 rfl dX9_married_1 ?_
    refine e_iconst dX9_married_4 rfl kc_1 ?_
    refine e_ialdK (k := 1) la_135 (by decide) (rfl) dX9_married_5 ?_
    refine WW.ec (y := G 1 5) (e1) ?_
    refine e_istore2 dX9_married_6 rfl ?_
    refine e_aload0 dX9_married_7 ?_
    refine e_getR fl_X9_7 la_134 rfl dX9_married_8 ?_
    refine e_iconst dX9_married_11 rfl kc_0 ?_
    refine e_ialdK (k := 0) la_135 (by decide) (rfl) dX9_married_12 ?_
    refine WW.ec (y := G 1 0) (e0) ?_
    refine e_if_eq (tgt := 40) dX9_married_13 (by decide) (fun h13 => ?_) (fun h13 => ?_)
    · refine e_iconst dX9_married_40 rfl kc_m1 ?_
      refine e_iret dX9_married_41 ?_
      exact bad ok
    · refine e_iload2 dX9_married_16 ?_
      refine e_if_eq (tgt := 40) dX9_married_17 (by decide) (fun h17 => ?_) (fun h17 => ?_)
      · refine e_iconst dX9_married_40 rfl kc_m1 ?_
        refine e_iret dX9_married_41 ?_
        exact bad ok
      · refine e_iload2 dX9_married_20 ?_
        refine e_iconst dX9_married_21 rfl kc_2 ?_
        refine e_irem dX9_married_22 (by omega) (by rw [et]; exact ⟨by omega, by omega⟩) ?_
        refine WW.ec (y := G 1 5 % 2) (et) ?_
        refine e_iconst dX9_married_23 rfl kc_1 ?_
        refine e_icmp_eq (tgt := 40) dX9_married_24 (by decide) (fun h24 => ?_) (fun h24 => ?_)
        · refine e_iconst dX9_married_40 rfl kc_m1 ?_
          refine e_iret dX9_married_41 ?_
          exact bad ok
        · refine e_iload1 dX9_married_27 ?_
          refine e_iconst dX9_married_28 rfl kc_m1 ?_
          refine e_icmp_eq (tgt := 42) dX9_married_29 (by decide) (fun h29 => ?_) (fun h29 => ?_)
          · exact absurd ⟨by first | exact Or.inl h29 | exact Or.inr ((hg.isC c).mp g34), by omega, by omega, by omega⟩ ok
          · refine e_aload0 dX9_married_32 ?_
            refine e_iload1 dX9_married_33 ?_
            refine e_cVZ (ct_X9_isCandle (d := d - 1) (by omega) nn.2.1) cy_X9_isCandle cv_X9_isCandle ml_X9_320 la_134 rfl rfl rfl (rok (by omega) (by decide)) (Nat.le_of_ble_eq_true rfl) dX9_married_34 (fun g34 => ?_) (fun g34 => ?_)
            · refine e_if_ne (tgt := 42) dX9_married_37 (by decide) (fun _ => ?_) (fun h => absurd h (by decide))
              exact absurd ⟨by first | exact Or.inl h29 | exact Or.inr ((hg.isC c).mp g34), by omega, by omega, by omega⟩ ok
            · refine e_if_ne (tgt := 42) dX9_married_37 (by decide) (fun h => absurd h (by decide)) (fun _ => ?_)
              refine e_iconst dX9_married_40 rfl kc_m1 ?_
              refine e_iret dX9_married_41 ?_
              exact bad ok
end MWED2
