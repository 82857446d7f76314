/-! READING FROM THE START -/
theorem dgV_b {B : Nat → Int} {L : Nat} : ∀ n i v, (0 ≤ v ∧ v ≤ 10000) → 0 ≤ dgV B L n i v ∧ dgV B L n i v ≤ 10000
  | 0, i, v, h => h
  | n + 1, i, v, h => by
    unfold dgV
    split
    · rename_i q
      have q2 := q.2
      exact dgV_b n (i + 1) _ (by omega)
    · exact h
theorem wF_b {B : Nat → Int} {f e : Nat} : ∀ ks : List Nat, (∀ k ∈ ks, k < 18) → -1 ≤ wF B f e ks ∧ wF B f e ks ≤ 17
  | [], _ => by unfold wF; omega
  | k :: ks, h => by
    unfold wF
    have := h k List.mem_cons_self
    split
    · omega
    · exact wF_b ks (fun x hx => h x (List.mem_cons_of_mem _ hx))
theorem wordV_b {B : Nat → Int} {f e : Nat} : -1 ≤ wordV B f e ∧ wordV B f e ≤ 17 := by
  unfold wordV
  split
  · exact wF_b _ (by decide)
  · exact wF_b _ (by decide)
abbrev tkOk (L : Nat) (c : Int × Nat × Int) : Prop := c.1 ≠ 0 ∧ c.2.1 < L ∧ (-1 ≤ c.2.2 ∧ c.2.2 ≤ 10000) ∧ (c.1 = 1 → 0 ≤ c.2.2)
theorem LX_ok {B : Nat → Int} {L : Nat} : ∀ n i, ∃ ls, LX B L n i = ls ++ [(0, L, 0)] ∧ ls.length ≤ n ∧ ∀ c ∈ ls, tkOk L c
  | 0, i => ⟨[], rfl, Nat.le_refl _, fun c h => by cases h⟩
  | n + 1, i => by
    unfold LX
    by_cases h0 : i < L
    · rw [if_pos h0]
      by_cases h1 : isDg (B i)
      · rw [if_pos h1]
        obtain ⟨ls, e, hl, ho⟩ := LX_ok (B := B) (L := L) n (dgE B L L i)
        have hb := dgV_b (B := B) (L := L) L i 0 (by omega)
        refine ⟨(1, i, dgV B L L i 0) :: ls, by rw [e]; rfl, by rw [List.length_cons]; omega, fun c hc => ?_⟩
        rcases List.mem_cons.mp hc with h | h
        · subst h
          exact ⟨show (1 : Int) ≠ 0 by decide, h0, ⟨show -1 ≤ dgV B L L i 0 by omega, hb.2⟩, fun _ => hb.1⟩
        · exact ho c h
      rw [if_neg h1]
      by_cases h2 : isLt (B i)
      · rw [if_pos h2]
        obtain ⟨ls, e, hl, ho⟩ := LX_ok (B := B) (L := L) n (ltE B L L i)
        have hb := wordV_b (B := B) (f := i) (e := ltE B L L i)
        refine ⟨(2, i, wordV B i (ltE B L L i)) :: ls, by rw [e]; rfl, by rw [List.length_cons]; omega, fun c hc => ?_⟩
        rcases List.mem_cons.mp hc with h | h
        · subst h
          exact ⟨show (2 : Int) ≠ 0 by decide, h0, ⟨hb.1, show wordV B i (ltE B L L i) ≤ 10000 by omega⟩, fun z => absurd z (show ¬ (2 : Int) = 1 by decide)⟩
        · exact ho c h
      rw [if_neg h2]
      obtain ⟨ls, e, hl, ho⟩ := LX_ok (B := B) (L := L) n (i + 1)
      by_cases h3 : B i = 32 ∨ B i = 10
      · rw [if_pos h3]
        exact ⟨ls, e, by omega, ho⟩
      · rw [if_neg h3]
        refine ⟨((if isSg (B i) then B i else 3), i, 0) :: ls, by rw [e]; rfl, by rw [List.length_cons]; omega, fun c hc => ?_⟩
        rcases List.mem_cons.mp hc with h | h
        · subst h
          refine ⟨?_, h0, ⟨show (-1 : Int) ≤ 0 by decide, show (0 : Int) ≤ 10000 by decide⟩, fun _ => Int.le_refl 0⟩
          show (if isSg (B i) then B i else 3) ≠ 0
          split <;> omega
        · exact ho c h
    · rw [if_neg h0]
      exact ⟨[], rfl, Nat.zero_le _, fun c h => by cases h⟩
def tks (B : Nat → Int) (L : Nat) : List (Int × Nat × Int) := LX B L L 0
def tkA (B : Nat → Int) (L t : Nat) : Int × Nat × Int := (tks B L)[t]?.getD (0, L, 0)
def tkK (B : Nat → Int) (L t : Nat) : Int := (tkA B L t).1
def tkV (B : Nat → Int) (L t : Nat) : Int := (tkA B L t).2.2
def tkP (B : Nat → Int) (L t : Nat) : Nat := (tkA B L t).2.1
def tkN (B : Nat → Int) (L : Nat) : Nat := (tks B L).length - 1
theorem tk_all {B : Nat → Int} {L : Nat} : (0 < (tks B L).length ∧ tkN B L ≤ L) ∧ (∀ t, tkN B L ≤ t → tkA B L t = (0, L, 0)) ∧ ∀ t, t < tkN B L → (tks B L)[t]? = some (tkA B L t) ∧ tkOk L (tkA B L t) := by
  obtain ⟨ls, e, hl, ho⟩ := LX_ok (B := B) (L := L) L 0
  unfold tkN tkA tks
  rw [e, List.length_append, List.length_singleton]
  refine ⟨⟨by omega, by omega⟩, fun t ht => ?_, fun t ht => ?_⟩
  · by_cases q : t = ls.length
    · rw [List.getElem?_append_right (by omega), q, Nat.sub_self]
      rfl
    · rw [List.getElem?_append_right (by omega), List.getElem?_eq_none (by rw [List.length_singleton]; omega)]
      rfl
  · rw [List.getElem?_append_left (by omega), List.getElem?_eq_getElem (by omega)]
    exact ⟨rfl, ho _ (List.getElem_mem _)⟩
theorem tkK_z {B : Nat → Int} {L t : Nat} (h : tkN B L ≤ t) : tkK B L t = 0 := by unfold tkK; rw [tk_all.2.1 t h]
theorem tkV_b {B : Nat → Int} {L : Nat} (t : Nat) : -1 ≤ tkV B L t ∧ tkV B L t ≤ 10000 := by
  unfold tkV
  by_cases q : t < tkN B L
  · exact (tk_all.2.2 t q).2.2.2.1
  · rw [tk_all.2.1 t (by omega)]
    exact ⟨show (-1 : Int) ≤ 0 by decide, show (0 : Int) ≤ 10000 by decide⟩
theorem tkV_1 {B : Nat → Int} {L : Nat} (t : Nat) (h : tkK B L t = 1) : 0 ≤ tkV B L t := by
  by_cases q : t < tkN B L
  · exact (tk_all.2.2 t q).2.2.2.2 h
  · rw [tkK_z (by omega)] at h
    exact absurd h (by decide)
/-- what a text says: fault, the token where, the clauses -/
def txR (B : Nat → Int) (L : Nat) : Int × Nat × List Cz := Tx (tkK B L) (tkV B L) 1203 302 0 []
theorem clF_le {K V : Nat → Int} {F N c t : Nat} {tld : Bool} (hK : ∀ t, N ≤ t → K t = 0) (h : t ≤ N) : (clF K V F tld c t).2.1 ≤ N := by
  by_cases hz : (clF K V F tld c t).1 = 0
  · exact (clF_ok hK hz).1.2
  unfold clF at hz ⊢
  by_cases k0 : K t = 2 ∧ 0 ≤ V t ∧ V t ≤ 7
  · rw [if_pos k0] at hz ⊢
    have ht1 : t + 1 ≤ N := by
      have : ¬ N ≤ t := fun z => by have := hK t z; omega
      omega
    by_cases k1 : V t < 4 ∧ tld = true
    · rw [if_pos k1]; exact h
    rw [if_neg k1] at hz ⊢
    by_cases k2 : 24 ≤ c
    · rw [if_pos k2]; exact h
    rw [if_neg k2] at hz ⊢
    by_cases k3 : V t < 4
    · rw [if_pos k3] at hz ⊢
      have hok := Ps_ok (V := V) (law := V t) hK F 0 0 (t + 1) ht1
      by_cases q : (Ps K V (V t) F 0 0 (t + 1)).1 = 0
      · rw [if_pos q] at hz ⊢
        by_cases k4 : K (Ps K V (V t) F 0 0 (t + 1)).2.1 = 59
        · rw [if_pos k4] at hz
          exact absurd rfl hz
        · rw [if_neg k4]; exact hok.2.1
      · rw [if_neg q]; exact hok.2.1
    · rw [if_neg k3] at hz ⊢
      have hle := dd_le (V := V) (k := V t) hK ht1
      by_cases q : (ddF K V (V t) (t + 1)).1 = 0
      · rw [if_pos q] at hz ⊢
        by_cases k4 : K (ddF K V (V t) (t + 1)).2 = 59
        · rw [if_pos k4] at hz
          exact absurd rfl hz
        · rw [if_neg k4]; exact hle.1
      · rw [if_neg q]; exact hle.1
  · rw [if_neg k0]; exact h
theorem Tx_le {K V : Nat → Int} {F N : Nat} (hK : ∀ t, N ≤ t → K t = 0) : ∀ n t acc, t ≤ N → (Tx K V F n t acc).2.1 ≤ N
  | 0, t, acc, h => h
  | n + 1, t, acc, h => by
    unfold Tx
    by_cases k0 : K t = 0
    · rw [if_pos k0]; exact h
    rw [if_neg k0]
    have h1 := clF_le (V := V) (F := F) (c := acc.length) (tld := (lawOf acc (V t)).isSome) hK h
    by_cases k1 : (clF K V F (lawOf acc (V t)).isSome acc.length t).1 = 0
    · rw [if_pos k1]
      exact Tx_le hK n _ _ h1
    · rw [if_neg k1]
      exact h1
/-- what X2_read leaves -/
def TXO (j : Nat) (M : Mem) (L : Nat) (x : Int) (M1 : Mem) : Prop :=
  ((∀ o, o ≠ 114 → o ≠ 116 → o ≠ 117 → o ≠ 118 → (o < 90 + 6 * j ∨ 95 + 6 * j < o) → M1 o = M o) ∧ M1 114 1 = 0 ∧ M1 114 10 = 1) ∧ (((txR (M 115) L).1 = 0 ∧ x = 1 ∧ (SCR j M1 (txR (M 115) L).2.2 ∧ M1 (90 + 6 * j) 1 ≤ 300) ∧ M1 114 11 = 0 ∧ M1 114 12 = -1) ∨ ((txR (M 115) L).1 ≠ 0 ∧ x = 0 ∧ M1 114 11 = (txR (M 115) L).1 ∧ M1 114 12 = tkP (M 115) L (txR (M 115) L).2.1))
section READ3
variable {l : Launch} {w : Wd} {d : Nat} {M : Mem} {Q : Option MV → Mem → Prop} {L j : Nat}
theorem ct_X2_takeTokens (hd : 7 ≤ d) (hL : M 114 1 = L) (hl : L ≤ 300) : GV l w yX2_takeTokens cX2_takeTokens 4 d [vR 114] M (fun M1 => TS (up M 114 5 0) M1 (tks (M 115) L)) := by
  have h := tok_loop (l := l) (w := w) (d := d) (Q := fun r M' => r = none ∧ TS (up M 114 5 0) M' (tks (M 115) L)) (L := L) (B := M 115) (by omega) hl (fun M2 i a b c => ct_X2_takeWord (d := d - 1) (by omega) a hl b (by omega)) L 0 0 none (up M 114 5 0) (Nat.zero_le _) (by omega) (Nat.le_refl _) (by rw [up_k (by decide)]; exact hL) (up_row (by decide)) (by rw [up_s]; omega) (fun M1 h => ⟨rfl, h⟩)
  refine MT.of [some (vR 114), none, none, none] ⟨by decide, rfl⟩ rfl (Nat.le_of_ble_eq_true rfl) (fun hA hM => ?_)
  refine e_aload0 dX2_takeTokens_0 ?_
  refine e_iconst dX2_takeTokens_1 rfl kc_0 ?_
  refine e_putI fp_X2_28 la_114 rfl dX2_takeTokens_2 ?_
  refine e_iconst dX2_takeTokens_5 rfl kc_0 ?_
  refine e_istore1 dX2_takeTokens_6 rfl ?_
  refine e_iconst dX2_takeTokens_7 rfl kc_0 ?_
  refine e_istore2 dX2_takeTokens_8 rfl ?_
  exact h
theorem ct_X2_read (hd : 32 ≤ d) (hj : j < 4) (hL : M 114 1 = L) (hl : L ≤ 300) : GI l w yX2_read cX2_read 4 .boolean d [vR 114, vR (90 + 6 * j)] M (fun x M1 => TXO j M L x M1) := by
  have hB : clrS M j 115 = M 115 := by
    funext k
    unfold clrS
    rw [fill_o (by omega), fill_o (by omega), up_o (by omega), up_o (by omega)]
  have hc114 : clrS M j 114 = M 114 := by
    funext k
    unfold clrS
    rw [fill_o (by omega), fill_o (by omega), up_o (by omega), up_o (by omega)]
  have hfr : ∀ o, (o < 90 + 6 * j ∨ 95 + 6 * j < o) → clrS M j o = M o := by
    intro o ho
    funext k
    unfold clrS
    rw [fill_o (by omega), fill_o (by omega), up_o (by omega), up_o (by omega)]
  refine MT.of [some (vR 114), some (vR (90 + 6 * j)), none, none] ⟨by decide, rfl⟩ rfl (Nat.le_of_ble_eq_true rfl) (fun hA hM => ?_)
  refine e_aload1 dX2_read_0 ?_
  refine e_ifnonnull (tgt := 6) dX2_read_1 (by decide) ?_
  refine e_aload1 dX2_read_6 ?_
  refine e_cVV (ct_X3_clear (d := d - 1) (by omega) hj) cy_X3_clear cv_X3_clear ml_X2_53 (la_S0 hj) rfl rfl rfl (rok (by omega) (by decide)) (Nat.le_of_ble_eq_true rfl) dX2_read_7 ?_
  refine e_aload0 dX2_read_10 ?_
  refine e_iconst dX2_read_11 rfl kc_1 ?_
  refine e_putZ fp_X2_43 la_114 rfl (by omega) dX2_read_12 ?_
  refine e_aload0 dX2_read_15 ?_
  refine e_iconst dX2_read_16 rfl kc_0 ?_
  refine e_putI fp_X2_47 la_114 rfl dX2_read_17 ?_
  refine e_aload0 dX2_read_20 ?_
  refine e_iconst dX2_read_21 rfl kc_m1 ?_
  refine e_putI fp_X2_50 la_114 rfl dX2_read_22 ?_
  refine e_aload0 dX2_read_25 ?_
  refine e_cVGV (ct_X2_takeTokens (d := d - 1) (L := L) (by omega) (by rw [up_k (by decide), up_k (by decide), up_k (by decide), hc114]; exact hL) hl) cy_X2_takeTokens cv_X2_takeTokens ml_X2_58 la_114 rfl rfl rfl (rok (by omega) (by decide)) (Nat.le_of_ble_eq_true rfl) dX2_read_26 (fun M2 hT => ?_)
  refine e_aload0 dX2_read_29 ?_
  refine e_iconst dX2_read_30 rfl kc_m1 ?_
  refine e_putI fp_X2_31 la_114 rfl dX2_read_31 ?_
  refine e_aload0 dX2_read_34 ?_
  refine e_cVV (ct_X2_advance (d := d - 1) (by omega) (by rw [up_s]; omega)) cy_X2_advance cv_X2_advance ml_X2_61 la_114 rfl rfl rfl (rok (by omega) (by decide)) (Nat.le_of_ble_eq_true rfl) dX2_read_35 ?_
  refine e_iconst dX2_read_38 rfl kc_1 ?_
  refine e_istore2 dX2_read_39 rfl ?_
  refine e_iconst dX2_read_40 rfl kc_0 ?_
  refine e_istore3 dX2_read_41 rfl ?_
  rw [show up (up (up (clrS M j) 114 10 1) 114 11 0) 114 12 (-1) 115 = M 115 by rw [up_row (by decide), up_row (by decide), up_row (by decide), hB]] at hT
  obtain ⟨t1, t2, t3, t4, t5⟩ := hT
  have ta := tk_all (B := M 115) (L := L)
  rw [up_s] at t3 t5
  have hlen : M2 114 5 = (tks (M 115) L).length := by rw [t3]; omega
  have hnn : (tks (M 115) L).length = tkN (M 115) L + 1 := by unfold tkN; omega
  have hN : tkN (M 115) L ≤ 300 := by omega
  have hg : ∀ t : Nat, t ≤ tkN (M 115) L → M2 116 t = tkK (M 115) L t ∧ M2 117 t = tkP (M 115) L t ∧ M2 118 t = tkV (M 115) L t := by
    intro t ht
    have hs : (tks (M 115) L)[t]? = some (tkA (M 115) L t) := by
      unfold tkA
      rw [List.getElem?_eq_getElem (by omega)]
      rfl
    have := t5 t _ hs
    rw [show (0 : Int).toNat + t = t by omega] at this
    exact this
  have a5 : advM (up M2 114 6 (-1)) 114 5 = M2 114 5 := by
    unfold advM
    rw [up_k (by decide), up_k (by decide), up_k (by decide), up_k (by decide)]
  have ar : ∀ o, o ≠ 114 → advM (up M2 114 6 (-1)) o = M2 o := by
    intro o ho
    unfold advM
    rw [up_row ho, up_row ho, up_row ho, up_row ho]
  have hTK : TK (tkK (M 115) L) (tkV (M 115) L) (fun t => M2 117 t) (advM (up M2 114 6 (-1))) := by
    unfold TK tIn
    rw [ar 116 (by decide), ar 117 (by decide), ar 118 (by decide), a5]
    refine ⟨fun t => ?_, fun t => ?_, fun t _ => rfl⟩
    · by_cases q : t ≤ tkN (M 115) L
      · rw [if_pos (by omega)]
        exact (hg t q).1
      · rw [if_neg (by omega), tkK_z (by omega)]
    · by_cases q : t ≤ tkN (M 115) L
      · rw [if_pos (by omega)]
        exact (hg t q).2.2
      · rw [if_neg (by omega)]
        unfold tkV
        rw [ta.2.1 t (by omega)]
  have h60 : (0 : Int) ≤ (up M2 114 6 (-1)) 114 6 + 1 ∧ (up M2 114 6 (-1)) 114 6 + 1 < (up M2 114 6 (-1)) 114 5 ∧ (up M2 114 6 (-1)) 114 6 + 1 < 301 := by
    rw [up_s, up_k (by decide), hlen]
    omega
  have hCR : CR (tkK (M 115) L) (tkV (M 115) L) (advM (up M2 114 6 (-1))) 0 := by
    unfold CR advM
    rw [if_pos h60, if_pos h60]
    refine ⟨?_, ?_, ?_⟩
    · rw [up_k (by decide), up_k (by decide), up_s, up_s]
      rfl
    · rw [up_k (by decide), up_s, up_o (by decide), up_s]
      exact (hg 0 (Nat.zero_le _)).1
    · rw [up_s, up_o (by decide), up_s]
      exact (hg 0 (Nat.zero_le _)).2.2
  have hrow : ∀ o, o ≠ 114 → o ≠ 116 → o ≠ 117 → o ≠ 118 → advM (up M2 114 6 (-1)) o = clrS M j o := by
    intro o a b c e
    unfold advM
    rw [up_row a, up_row a, up_row a, up_row a, t1 o a b c e, up_row a, up_row a, up_row a, up_row a]
  have r90 := hrow (90 + 6 * j) (by omega) (by omega) (by omega) (by omega)
  have r91 := hrow (91 + 6 * j) (by omega) (by omega) (by omega) (by omega)
  have r93 := hrow (93 + 6 * j) (by omega) (by omega) (by omega) (by omega)
  have s1 : clrS M j (90 + 6 * j) 1 = 0 := by
    unfold clrS
    rw [fill_o (by omega), fill_o (by omega), up_k (by decide), up_s]
  have hS : SCR j (advM (up M2 114 6 (-1))) [] := by
    refine ⟨⟨?_, ?_⟩, fun k c h => by simp at h, fun x hx => ?_⟩
    · rw [r90]
      unfold clrS
      rw [fill_o (by omega), fill_o (by omega), up_s]
      rfl
    · rw [r90, s1]
      exact Int.le_refl 0
    · show advM (up M2 114 6 (-1)) (93 + 6 * j) x = 0
      rw [r93]
      unfold clrS fill
      rw [if_pos ⟨rfl, by omega, by omega⟩]
  have f114 : ∀ k, k ≠ 5 → k ≠ 6 → k ≠ 7 → k ≠ 8 → advM (up M2 114 6 (-1)) 114 k = up (up (up (clrS M j) 114 10 1) 114 11 0) 114 12 (-1) 114 k := by
    intro k a b c e
    unfold advM
    rw [up_k e, up_k c, up_k b, up_k b, t2 k a, up_k a]
  refine read_loop (d := d) (j := j) (N := tkN (M 115) L) (F := 1203) (by omega) hj hN (fun t ht => tkK_z ht) tkV_b (by omega) 302 0 0 [] _ (Nat.le_refl _) (Nat.zero_le _) (by omega) hTK hCR hS (Nat.zero_le _) (by rw [r90, s1]; exact Int.le_refl 0) (fun x M3 hx => ⟨x, rfl, ?_⟩)
  obtain ⟨⟨p1, p2, p3⟩, p4⟩ := hx
  refine ⟨⟨fun o a b c e g => by rw [p1 o a g, hrow o a b c e]; exact hfr o g, p2, ?_⟩, ?_⟩
  · rw [p3, f114 10 (by decide) (by decide) (by decide) (by decide), up_k (by decide), up_k (by decide), up_s]
  · rcases p4 with ⟨a, b, c, e, f⟩ | ⟨a, b, c, e⟩
    · exact Or.inl ⟨a, b, c, by rw [e, f114 11 (by decide) (by decide) (by decide) (by decide), up_k (by decide), up_s], by rw [f, f114 12 (by decide) (by decide) (by decide) (by decide), up_s]⟩
    · refine Or.inr ⟨a, b, c, e.trans ?_⟩
      exact (hg _ (Tx_le (fun t ht => tkK_z ht) _ _ _ (Nat.zero_le _))).2.1
end READ3
section TEXT3
variable {l : Launch} {w : Wd} {d : Nat} {M : Mem} {Q : Option MV → Mem → Prop} {L : Nat}
theorem ct_X8_text (hd : 33 ≤ d) (ht : 0 ≤ M 1 15 ∧ M 1 15 ≤ 4) (hL : M 114 1 = L) (hl : L ≤ 300) : GI l w yX8_text cX8_text 3 .int d [vR 0] M (fun x M1 => (M 1 15 = 4 ∧ x = -1 ∧ M1 = M) ∨ (M 1 15 < 4 ∧ ∃ y M2, TXO (M 1 15).toNat M L y M2 ∧ ((y = 1 ∧ x = M 1 15 ∧ M1 = up M2 1 15 (M 1 15 + 1)) ∨ (y = 0 ∧ x = -1 ∧ M1 = M2)))) := by
  have hj : M 1 15 < 4 → (M 1 15).toNat < 4 := fun h => by omega
  refine MT.of [some (vR 0), none, none] ⟨by decide, rfl⟩ rfl (Nat.le_of_ble_eq_true rfl) (fun hA hM => ?_)
  refine e_aload0 dX8_text_0 ?_
  refine e_getR fl_X8_12 la_0 rfl dX8_text_1 ?_
  refine e_getI fl_X8_172 la_1 rfl dX8_text_4 ?_
  refine e_istore1 dX8_text_7 rfl ?_
  refine e_iload1 dX8_text_8 ?_
  refine e_if_lt (tgt := 21) dX8_text_9 (by decide) (fun h9 => ?_) (fun h9 => ?_)
  · refine e_iconst dX8_text_21 rfl kc_m1 ?_
    refine e_iret dX8_text_22 ?_
    exact ⟨_, rfl, Or.inl ⟨by omega, rfl, rfl⟩⟩
  · refine e_iload1 dX8_text_12 ?_
    refine e_aload0 dX8_text_13 ?_
    refine e_getR fl_X8_31 la_0 rfl dX8_text_14 ?_
    refine e_alen la_89 (by decide) (by decide) dX8_text_17 ?_
    refine e_icmp_lt (tgt := 23) dX8_text_18 (by decide) (fun h18 => ?_) (fun h18 => ?_)
    · refine e_aload0 dX8_text_23 ?_
      refine e_getR fl_X8_31 la_0 rfl dX8_text_24 ?_
      refine e_iload1 dX8_text_27 ?_
      refine e_aaldS la_89 (⟨by omega, by omega⟩) dX8_text_28 ?_
      refine e_astore2 dX8_text_29 rfl ?_
      have hj9 : (M 1 15).toNat < 4 := by omega
      refine e_aload2 dX8_text_30 ?_
      refine e_ifnull dX8_text_31 ?_
      refine e_aload0 dX8_text_34 ?_
      refine e_getR fl_X8_38 la_0 rfl dX8_text_35 ?_
      refine e_aload2 dX8_text_38 ?_
      refine e_cVGI (ct_X2_read (d := d - 1) (by omega) hj9 hL hl) cy_X2_read cv_X2_read ml_X8_175 la_114 rfl rfl rfl (rok (by omega) (by decide)) (Nat.le_of_ble_eq_true rfl) dX8_text_39 (fun y M2 hx => ?_)
      have hp : M2 1 = M 1 := hx.1.1 1 (by decide) (by decide) (by decide) (by decide) (by omega)
      rcases hx.2 with ⟨_, hy, _⟩ | ⟨_, hy, _⟩
      · subst hy
        refine e_if_ne (tgt := 47) dX8_text_42 (by decide) (fun _ => ?_) (fun h => absurd h (by decide))
        refine e_aload0 dX8_text_47 ?_
        refine e_getR fl_X8_12 la_0 rfl dX8_text_48 ?_
        refine e_iload1 dX8_text_51 ?_
        refine e_iconst dX8_text_52 rfl kc_1 ?_
        refine e_iadd dX8_text_53 (⟨by omega, by omega⟩) ?_
        refine e_putI fp_X8_172 la_1 rfl dX8_text_54 ?_
        refine e_iload1 dX8_text_57 ?_
        refine e_iret dX8_text_58 ?_
        exact ⟨_, rfl, Or.inr ⟨by omega, _, _, hx, Or.inl ⟨rfl, rfl, rfl⟩⟩⟩
      · subst hy
        refine e_if_ne (tgt := 47) dX8_text_42 (by decide) (fun h => absurd h (by decide)) (fun _ => ?_)
        refine e_iconst dX8_text_45 rfl kc_m1 ?_
        refine e_iret dX8_text_46 ?_
        exact ⟨_, rfl, Or.inr ⟨by omega, _, _, hx, Or.inr ⟨rfl, rfl, rfl⟩⟩⟩
    · refine e_iconst dX8_text_21 rfl kc_m1 ?_
      refine e_iret dX8_text_22 ?_
      exact ⟨_, rfl, Or.inl ⟨by omega, rfl, rfl⟩⟩
end TEXT3
