/-! WEDDINGS, all pairings -/
/-- the weddings' world: n candles, minutes m, partners p -/
def MW (m : Nat → Int) (n : Nat) (p : List Int) (M : Mem) : Prop := M 1 5 = n ∧ (∀ k, k < n → M 131 k = m k) ∧ seg (M 132) 0 n = p
theorem MW.get {m : Nat → Int} {n : Nat} {p : List Int} {M : Mem} (h : MW m n p M) {k : Nat} (hk : k < n) : M 132 k = p.getD k 0 := by
  rw [← h.2.2, seg_get _ n 0 k hk, Nat.zero_add]
theorem MW.set {m : Nat → Int} {n : Nat} {p : List Int} {M : Mem} (h : MW m n p M) {k : Nat} (hk : k < n) (v : Int) : MW m n (p.set k v) (up M 132 k v) := by
  refine ⟨by rw [up_row (by decide)]; exact h.1, by rw [up_row (by decide)]; exact h.2.1, ?_⟩
  rw [seg_up hk, h.2.2]
theorem MW.len {m : Nat → Int} {n : Nat} {p : List Int} {M : Mem} (h : MW m n p M) : p.length = n := by rw [← h.2.2, seg_len]
theorem bOf_up {M : Mem} {n k : Nat} {v : Int} : bOf (up M 132 k v) n = bOf M n := by
  unfold bOf
  rw [up_row (by decide : (130 : Nat) ≠ 132), up_row (by decide : (133 : Nat) ≠ 132)]
theorem set_back {p : List Int} {a b : Nat} {x y : Int} (ha : a < p.length) (hb : b < p.length) (hab : a ≠ b) (h1 : p.getD a 0 = -1) (h2 : p.getD b 0 = -1) : (((p.set a x).set b y).set a (-1)).set b (-1) = p := by
  apply List.ext_getElem?
  intro i
  have e1 : p[a]? = some (-1) := by rw [List.getElem?_eq_getElem ha]; congr 1; rw [← h1, List.getD_eq_getElem?_getD, List.getElem?_eq_getElem ha]; rfl
  have e2 : p[b]? = some (-1) := by rw [List.getElem?_eq_getElem hb]; congr 1; rw [← h2, List.getD_eq_getElem?_getD, List.getElem?_eq_getElem hb]; rfl
  simp only [List.getElem?_set, List.length_set]
  by_cases q1 : b = i
  · subst q1; rw [e2]; simp [hb]
  · by_cases q2 : a = i
    · subst q2; rw [e1]; simp [q1, ha]
    · simp [q1, q2]
theorem oneF_free {p : List Int} {n : Nat} : ∀ {f i : Nat}, n ≤ i + f → oneF p n f i < n → p.getD (oneF p n f i) 0 = -1
  | 0, i, h, q => absurd q (by unfold oneF; omega)
  | f + 1, i, h, q => by
    by_cases c : i < n ∧ p.getD i 0 ≠ -1
    · have e : oneF p n (f + 1) i = oneF p n f (i + 1) := by rw [oneF, if_pos c]
      rw [e] at q ⊢
      exact oneF_free (by omega) q
    · have e : oneF p n (f + 1) i = i := by rw [oneF, if_neg c]
      rw [e] at q ⊢
      by_cases z : p.getD i 0 = -1
      · exact z
      · exact absurd ⟨q, z⟩ c
theorem seg_const {v : Int} : ∀ (n a : Nat), seg (fun _ => v) a n = List.replicate n v
  | 0, _ => rfl
  | n + 1, a => by show v :: seg _ (a + 1) n = _; rw [seg_const n (a + 1)]; rfl
theorem mins_frs {M M1 : Mem} (h : FrS M M1) (ht : M 1 15 ≤ 4) (c : Nat) : mins M1 c = mins M c := by
  unfold mins
  rw [mSum_frs h ht, h 10 (by omega), h 7 (by omega)]
theorem OWN.frs {M M1 : Mem} (h : FrS M M1) (hO : OWN M) : OWN M1 := by
  refine ⟨fun c i hi => ?_, fun c hc => ?_⟩
  · rw [ownr_frs h, isH_frs h]
    rw [isIn_frs h] at hi
    exact hO.1 c i hi
  · rw [h 10 (by omega), h 7 (by omega)]
    rw [isC_frs h] at hc
    exact hO.2 c hc
section WED2
variable {l : Launch} {w : Wd} {d : Nat} {M : Mem} {Q : Option MV → Mem → Prop}
/-- what a run of pairings leaves: the frame, the partners as they were, the best so far -/
def MRes (m : Nat → Int) (n : Nat) (p : List Int) (M : Mem) (ps : List (List Int × Int)) (M1 : Mem) : Prop := FrS M M1 ∧ MW m n p M1 ∧ bOf M1 n = ps.foldl bstep (bOf M n)
theorem ct_X7_marryFrom {m : Nat → Int} {n : Nat} (hm : ∀ k, k < n → 0 ≤ m k ∧ m k ≤ 10000) (hn : n ≤ 6) : ∀ (f : Nat) (p : List Int) (first : Nat) (most : Int) (M : Mem) (d : Nat), f + 2 ≤ d → n < first + f → first ≤ n → 0 ≤ most ∧ most ≤ 30000 → MW m n p M →
    GV l w yX7_marryFrom cX7_marryFrom 5 d [vR 130, vI first, vI most] M (MRes m n p M (mar m n f p first most)) := by
  intro f
  induction f with
  | zero =>
    intro p first most M d hd hf hfn hmost hW
    exact absurd hf (by omega)
  | succ f ihf =>
    intro p first most M d hd hf hfn hmost hW
    have hplen := hW.len
    -- the least that is free
    have look : ∀ (Q : Option MV → Mem → Prop) (o : Nat), (WM l w RX7 cX7_marryFrom 5 none d Q 29 [some (vR 130), some (vI first), some (vI most), some (vI o), none] [] M) → ∀ (q i : Nat), i + q = n → oneF p n q i = o → WM l w RX7 cX7_marryFrom 5 none d Q 2 [some (vR 130), some (vI first), some (vI most), some (vI i), none] [] M := by
      intro Q o k q
      induction q with
      | zero =>
        intro i hi ho
        have ho : i = o := ho
        subst ho
        refine e_iload3 dX7_marryFrom_2 ?_
        refine e_aload0 dX7_marryFrom_3 ?_
        refine e_getR fl_X7_25 la_130 rfl dX7_marryFrom_4 ?_
        refine e_getI fl_X7_39 la_1 rfl dX7_marryFrom_7 ?_
        refine WW.ec (y := (n : Int)) (hW.1) ?_
        refine e_icmp_ge (tgt := 29) dX7_marryFrom_10 (by decide) (fun h10 => ?_) (fun h => absurd h (by omega))
        exact k
      | succ q ih =>
        intro i hi ho
        have hg := hW.get (show i < n by omega)
        by_cases hfr : p.getD i 0 = -1
        · have ho : i = o := by rw [← ho, oneF, if_neg (fun z => z.2 hfr)]
          subst ho
          refine e_iload3 dX7_marryFrom_2 ?_
          refine e_aload0 dX7_marryFrom_3 ?_
          refine e_getR fl_X7_25 la_130 rfl dX7_marryFrom_4 ?_
          refine e_getI fl_X7_39 la_1 rfl dX7_marryFrom_7 ?_
          refine WW.ec (y := (n : Int)) (hW.1) ?_
          refine e_icmp_ge (tgt := 29) dX7_marryFrom_10 (by decide) (fun h => absurd h (by omega)) (fun h10 => ?_)
          refine e_aload0 dX7_marryFrom_13 ?_
          refine e_getR fl_X7_15 la_130 rfl dX7_marryFrom_14 ?_
          refine e_iload3 dX7_marryFrom_17 ?_
          refine e_iald la_132 (⟨by omega, by omega⟩) dX7_marryFrom_18 ?_
          refine WW.ec (y := -1) (by rw [Int.toNat_natCast, hg, hfr]) ?_
          refine e_iconst dX7_marryFrom_19 rfl kc_m1 ?_
          refine e_icmp_eq (tgt := 29) dX7_marryFrom_20 (by decide) (fun h20 => ?_) (fun h => absurd h (by decide))
          exact k
        · have ho : oneF p n q (i + 1) = o := by rw [← ho, oneF, if_pos ⟨by omega, hfr⟩]
          refine e_iload3 dX7_marryFrom_2 ?_
          refine e_aload0 dX7_marryFrom_3 ?_
          refine e_getR fl_X7_25 la_130 rfl dX7_marryFrom_4 ?_
          refine e_getI fl_X7_39 la_1 rfl dX7_marryFrom_7 ?_
          refine WW.ec (y := (n : Int)) (hW.1) ?_
          refine e_icmp_ge (tgt := 29) dX7_marryFrom_10 (by decide) (fun h => absurd h (by omega)) (fun h10 => ?_)
          refine e_aload0 dX7_marryFrom_13 ?_
          refine e_getR fl_X7_15 la_130 rfl dX7_marryFrom_14 ?_
          refine e_iload3 dX7_marryFrom_17 ?_
          refine e_iald la_132 (⟨by omega, by omega⟩) dX7_marryFrom_18 ?_
          refine WW.ec (y := p.getD i 0) (by rw [Int.toNat_natCast, hg]) ?_
          refine e_iconst dX7_marryFrom_19 rfl kc_m1 ?_
          refine e_icmp_eq (tgt := 29) dX7_marryFrom_20 (by decide) (fun h => absurd h (hfr)) (fun h20 => ?_)
          refine e_iinc3 dX7_marryFrom_23 rfl (⟨by omega, by omega⟩) rfl ?_
          refine e_goto (tgt := 2) dX7_marryFrom_26 (by decide) ?_
          exact ih (i + 1) (by omega) ho
    have hge := oneF_ge p n (n - first) first
    have hle := oneF_le p n (n - first) first hfn
    have hmar : mar m n (f + 1) p first most = if n ≤ oneF p n (n - first) first then [(p, most)] else
      (List.range' (oneF p n (n - first) first + 1) (n - (oneF p n (n - first) first + 1))).flatMap (fun other => if p.getD other 0 = -1 then mar m n f ((p.set (oneF p n (n - first) first) (other : Int)).set other (oneF p n (n - first) first : Int)) (oneF p n (n - first) first + 1) (max most (m (oneF p n (n - first) first) + m other)) else []) := rfl
    have hfree : oneF p n (n - first) first < n → p.getD (oneF p n (n - first) first) 0 = -1 := oneF_free (by omega)
    have hlook := fun Q k => look Q (oneF p n (n - first) first) k (n - first) first (by omega) rfl
    clear look
    generalize oneF p n (n - first) first = one at hge hle hmar hfree hlook
    rw [hmar]
    by_cases hone : n ≤ one
    · rw [if_pos hone]
      obtain rfl : one = n := by omega
      refine MT.of [some (vR 130), some (vI first), some (vI most), none, none] ⟨by decide, rfl⟩ rfl (Nat.le_of_ble_eq_true rfl) (fun hA hM => ?_)
      refine e_iload1 dX7_marryFrom_0 ?_
      refine e_istore3 dX7_marryFrom_1 rfl ?_
      refine hlook _ ?_
      refine e_iload3 dX7_marryFrom_29 ?_
      refine e_aload0 dX7_marryFrom_30 ?_
      refine e_getR fl_X7_25 la_130 rfl dX7_marryFrom_31 ?_
      refine e_getI fl_X7_39 la_1 rfl dX7_marryFrom_34 ?_
      refine WW.ec (y := (one : Int)) (hW.1) ?_
      refine e_icmp_lt (tgt := 46) dX7_marryFrom_37 (by decide) (fun h => absurd h (by omega)) (fun h37 => ?_)
      refine e_aload0 dX7_marryFrom_40 ?_
      refine e_iload2 dX7_marryFrom_41 ?_
      refine e_cVV (ct_X7_keepIfBetter (d := d - 1) (by omega) (n := one) (by omega) hW.1) cy_X7_keepIfBetter cv_X7_keepIfBetter ml_X7_65 la_130 rfl rfl rfl (rok (by omega) (by decide)) (Nat.le_of_ble_eq_true rfl) dX7_marryFrom_42 ?_
      refine e_vret dX7_marryFrom_45 ?_
      refine ⟨rfl, ?_⟩
      show MRes m one p M [(p, most)] _
      by_cases hk : M 130 5 ≠ -1 ∧ M 130 5 ≤ most
      · rw [if_pos hk]
        refine ⟨FrS.rf M, hW, ?_⟩
        exact (show bstep (bOf M one) (p, most) = bOf M one from if_pos hk).symm
      · rw [if_neg hk]
        refine ⟨fun o ho => ?_, ⟨?_, ?_, ?_⟩, ?_⟩
        · funext k; unfold cpy; rw [if_neg (by omega), up_o (by omega)]
        · unfold cpy; rw [if_neg (by omega), up_o (by decide)]; exact hW.1
        · intro k hk2; unfold cpy; rw [if_neg (by omega), up_o (by decide)]; exact hW.2.1 k hk2
        · rw [← hW.2.2]; exact seg_congr one 0 (fun k _ _ => by unfold cpy; rw [if_neg (by omega), up_o (by decide)])
        · show bOf _ one = bstep (bOf M one) (p, most)
          rw [show bstep (bOf M one) (p, most) = (most, p) from if_neg hk]
          unfold bOf
          refine Prod.ext ?_ ?_
          · show cpy (up M 130 5 most) 132 133 one 130 5 = most
            unfold cpy; rw [if_neg (by omega), up_s]
          · show seg (cpy (up M 130 5 most) 132 133 one 133) 0 one = p
            rw [← hW.2.2]; exact seg_congr one 0 (fun k _ hk3 => by unfold cpy; rw [if_pos ⟨rfl, by omega⟩, up_o (by decide)])
    · rw [if_neg hone]
      have hfree := hfree (by omega)
      generalize hfun : (fun other => if p.getD other 0 = -1 then mar m n f ((p.set one (other : Int)).set other (one : Int)) (one + 1) (max most (m one + m other)) else []) = F
      have loop : ∀ (q i : Nat) (M1 : Mem), i + q = n → one < i → FrS M M1 → MW m n p M1 → bOf M1 n = ((List.range' (one + 1) (i - (one + 1))).flatMap F).foldl bstep (bOf M n) → WM l w RX7 cX7_marryFrom 5 none d (fun r M' => r = none ∧ MRes m n p M ((List.range' (one + 1) (n - (one + 1))).flatMap F) M') 51 [some (vR 130), some (vI first), some (vI most), some (vI one), some (vI i)] [] M1 := by
        intro q
        induction q with
        | zero =>
          intro i M1 hi hoi hf1 hW1 hb
          obtain rfl : i = n := by omega
          refine e_iload4 dX7_marryFrom_51 ?_
          refine e_aload0 dX7_marryFrom_53 ?_
          refine e_getR fl_X7_25 la_130 rfl dX7_marryFrom_54 ?_
          refine e_getI fl_X7_39 la_1 rfl dX7_marryFrom_57 ?_
          refine WW.ec (y := (i : Int)) (hW1.1) ?_
          refine e_icmp_ge (tgt := 136) dX7_marryFrom_60 (by decide) (fun h60 => ?_) (fun h => absurd h (by omega))
          refine e_vret dX7_marryFrom_136 ?_
          exact ⟨rfl, hf1, hW1, hb⟩
        | succ q ih =>
          intro i M1 hi hoi hf1 hW1 hb
          have hg := hW1.get (show i < n by omega)
          have hnext : (List.range' (one + 1) (i + 1 - (one + 1))).flatMap F = (List.range' (one + 1) (i - (one + 1))).flatMap F ++ F i := by
            rw [show i + 1 - (one + 1) = (i - (one + 1)) + 1 by omega, List.range'_concat, List.flatMap_append]
            simp [show one + 1 + (i - (one + 1)) = i by omega]
          have hFi : F i = if p.getD i 0 = -1 then mar m n f ((p.set one (i : Int)).set i (one : Int)) (one + 1) (max most (m one + m i)) else [] := by rw [← hfun]
          by_cases hfr : p.getD i 0 = -1
          · rw [if_pos hfr] at hFi
            have hW2 : MW m n ((p.set one (i : Int)).set i (one : Int)) (up (up M1 132 one i) 132 i one) := (hW1.set (by omega) _).set (by omega) _
            have hmo := hm one (by omega)
            have hmi := hm i (by omega)
            have e1 : M1 131 one = m one := hW1.2.1 one (by omega)
            have e2 : M1 131 i = m i := hW1.2.1 i (by omega)
            refine e_iload4 dX7_marryFrom_51 ?_
            refine e_aload0 dX7_marryFrom_53 ?_
            refine e_getR fl_X7_25 la_130 rfl dX7_marryFrom_54 ?_
            refine e_getI fl_X7_39 la_1 rfl dX7_marryFrom_57 ?_
            refine WW.ec (y := (n : Int)) (hW1.1) ?_
            refine e_icmp_ge (tgt := 136) dX7_marryFrom_60 (by decide) (fun h => absurd h (by omega)) (fun h60 => ?_)
            refine e_aload0 dX7_marryFrom_63 ?_
            refine e_getR fl_X7_15 la_130 rfl dX7_marryFrom_64 ?_
            refine e_iload4 dX7_marryFrom_67 ?_
            refine e_iald la_132 (⟨by omega, by omega⟩) dX7_marryFrom_69 ?_
            refine WW.ec (y := -1) (by rw [Int.toNat_natCast, hg, hfr]) ?_
            refine e_iconst dX7_marryFrom_70 rfl kc_m1 ?_
            refine e_icmp_ne (tgt := 130) dX7_marryFrom_71 (by decide) (fun h => absurd h (by decide)) (fun h71 => ?_)
            refine e_aload0 dX7_marryFrom_74 ?_
            refine e_getR fl_X7_15 la_130 rfl dX7_marryFrom_75 ?_
            refine e_iload3 dX7_marryFrom_78 ?_
            refine e_iload4 dX7_marryFrom_79 ?_
            refine e_iast la_132 (⟨by omega, by omega⟩) dX7_marryFrom_81 ?_
            refine e_aload0 dX7_marryFrom_82 ?_
            refine e_getR fl_X7_15 la_130 rfl dX7_marryFrom_83 ?_
            refine e_iload4 dX7_marryFrom_86 ?_
            refine e_iload3 dX7_marryFrom_88 ?_
            refine e_iast la_132 (⟨by omega, by omega⟩) dX7_marryFrom_89 ?_
            rw [Int.toNat_natCast, Int.toNat_natCast]
            refine e_aload0 dX7_marryFrom_90 ?_
            refine e_iload3 dX7_marryFrom_91 ?_
            refine e_iconst dX7_marryFrom_92 rfl kc_1 ?_
            refine e_iadd dX7_marryFrom_93 (⟨by omega, by omega⟩) ?_
            refine e_iload2 dX7_marryFrom_94 ?_
            refine e_aload0 dX7_marryFrom_95 ?_
            refine e_getR fl_X7_9 la_130 rfl dX7_marryFrom_96 ?_
            refine e_iload3 dX7_marryFrom_99 ?_
            refine e_iald la_131 (⟨by omega, by omega⟩) dX7_marryFrom_100 ?_
            refine WW.ec (y := m one) (by rw [up_row (by decide), up_row (by decide), Int.toNat_natCast]; exact e1) ?_
            refine e_aload0 dX7_marryFrom_101 ?_
            refine e_getR fl_X7_9 la_130 rfl dX7_marryFrom_102 ?_
            refine e_iload4 dX7_marryFrom_105 ?_
            refine e_iald la_131 (⟨by omega, by omega⟩) dX7_marryFrom_107 ?_
            refine WW.ec (y := m i) (by rw [up_row (by decide), up_row (by decide), Int.toNat_natCast]; exact e2) ?_
            refine e_iadd dX7_marryFrom_108 (⟨by omega, by omega⟩) ?_
            refine e_mmax ml9_X7_69 (rok1 (by omega)) rfl dX7_marryFrom_109 ?_
            refine e_cVGV (ihf _ (one + 1) _ _ (d - 1) (by omega) (by omega) (by omega) (by omega) hW2) cy_X7_marryFrom cv_X7_marryFrom ml_X7_49 la_130 rfl rfl rfl (rok (by omega) (by decide)) (Nat.le_of_ble_eq_true rfl) dX7_marryFrom_112 (fun M2 hq => ?_)
            refine e_aload0 dX7_marryFrom_115 ?_
            refine e_getR fl_X7_15 la_130 rfl dX7_marryFrom_116 ?_
            refine e_iload3 dX7_marryFrom_119 ?_
            refine e_iconst dX7_marryFrom_120 rfl kc_m1 ?_
            refine e_iast la_132 (⟨by omega, by omega⟩) dX7_marryFrom_121 ?_
            refine e_aload0 dX7_marryFrom_122 ?_
            refine e_getR fl_X7_15 la_130 rfl dX7_marryFrom_123 ?_
            refine e_iload4 dX7_marryFrom_126 ?_
            refine e_iconst dX7_marryFrom_128 rfl kc_m1 ?_
            refine e_iast la_132 (⟨by omega, by omega⟩) dX7_marryFrom_129 ?_
            refine e_iinc4 dX7_marryFrom_130 rfl (⟨by omega, by omega⟩) rfl ?_
            refine e_goto (tgt := 51) dX7_marryFrom_133 (by decide) ?_
            rw [Int.toNat_natCast, Int.toNat_natCast]
            obtain ⟨f3, w3, b3⟩ := hq
            have w4 : MW m n p (up (up M2 132 one (-1)) 132 i (-1)) := by
              have := (w3.set (show one < n by omega) (-1)).set (show i < n by omega) (-1)
              rw [set_back (by omega) (by omega) (by omega) hfree hfr] at this
              exact this
            refine ih (i + 1) _ (by omega) (by omega) ((((hf1.up (by omega)).up (by omega)).tr f3).up (by omega) |>.up (by omega)) w4 ?_
            rw [bOf_up, bOf_up, b3, bOf_up, bOf_up, hb, hnext, List.foldl_append, hFi]
          · rw [if_neg hfr] at hFi
            refine e_iload4 dX7_marryFrom_51 ?_
            refine e_aload0 dX7_marryFrom_53 ?_
            refine e_getR fl_X7_25 la_130 rfl dX7_marryFrom_54 ?_
            refine e_getI fl_X7_39 la_1 rfl dX7_marryFrom_57 ?_
            refine WW.ec (y := (n : Int)) (hW1.1) ?_
            refine e_icmp_ge (tgt := 136) dX7_marryFrom_60 (by decide) (fun h => absurd h (by omega)) (fun h60 => ?_)
            refine e_aload0 dX7_marryFrom_63 ?_
            refine e_getR fl_X7_15 la_130 rfl dX7_marryFrom_64 ?_
            refine e_iload4 dX7_marryFrom_67 ?_
            refine e_iald la_132 (⟨by omega, by omega⟩) dX7_marryFrom_69 ?_
            refine WW.ec (y := p.getD i 0) (by rw [Int.toNat_natCast, hg]) ?_
            refine e_iconst dX7_marryFrom_70 rfl kc_m1 ?_
            refine e_icmp_ne (tgt := 130) dX7_marryFrom_71 (by decide) (fun h71 => ?_) (fun h => absurd h (fun z => hfr z))
            refine e_iinc4 dX7_marryFrom_130 rfl (⟨by omega, by omega⟩) rfl ?_
            refine e_goto (tgt := 51) dX7_marryFrom_133 (by decide) ?_
            refine ih (i + 1) M1 (by omega) (by omega) hf1 hW1 ?_
            rw [hb, hnext, hFi, List.append_nil]
      refine MT.of [some (vR 130), some (vI first), some (vI most), none, none] ⟨by decide, rfl⟩ rfl (Nat.le_of_ble_eq_true rfl) (fun hA hM => ?_)
      refine e_iload1 dX7_marryFrom_0 ?_
      refine e_istore3 dX7_marryFrom_1 rfl ?_
      refine hlook _ ?_
      refine e_iload3 dX7_marryFrom_29 ?_
      refine e_aload0 dX7_marryFrom_30 ?_
      refine e_getR fl_X7_25 la_130 rfl dX7_marryFrom_31 ?_
      refine e_getI fl_X7_39 la_1 rfl dX7_marryFrom_34 ?_
      refine WW.ec (y := (n : Int)) (hW.1) ?_
      refine e_icmp_lt (tgt := 46) dX7_marryFrom_37 (by decide) (fun h37 => ?_) (fun h => absurd h (by omega))
      refine e_iload3 dX7_marryFrom_46 ?_
      refine e_iconst dX7_marryFrom_47 rfl kc_1 ?_
      refine e_iadd dX7_marryFrom_48 (⟨by omega, by omega⟩) ?_
      refine e_istore4 dX7_marryFrom_49 rfl ?_
      refine loop (n - (one + 1)) (one + 1) M (by omega) (by omega) (FrS.rf M) hW ?_
      rw [Nat.sub_self]; rfl
theorem ct_X7_arrange (hd : 12 ≤ d) (hL : LW M) (hO : OWN M) : GI l w yX7_arrange cX7_arrange 2 .boolean d [vR 130] M (fun x M1 => (x = 0 ∧ (M 1 5 < 1 ∨ M 1 5 % 2 ≠ 0 ∨ M 1 0 < 1) ∧ FrS M M1) ∨
    (x = 1 ∧ (1 ≤ M 1 5 ∧ M 1 5 % 2 = 0 ∧ 1 ≤ M 1 0) ∧ FrS M M1 ∧ ∃ b0 : List Int, bOf M1 (M 1 5).toNat = (mar (mins M) (M 1 5).toNat 7 (List.replicate (M 1 5).toNat (-1)) 0 0).foldl bstep (-1, b0))) := by
  have hb := hL.1.2.1
  have hb1 := hL.1.1
  have f0 : FrS M (up M 130 5 (-1)) := (FrS.rf M).up (by omega)
  by_cases h1 : M 1 5 < 1
  · refine MT.of [some (vR 130), none] ⟨by decide, rfl⟩ rfl (Nat.le_of_ble_eq_true rfl) (fun hA hM => ?_)
    refine e_aload0 dX7_arrange_0 ?_
    refine e_iconst dX7_arrange_1 rfl kc_m1 ?_
    refine e_putI fp_X7_21 la_130 rfl dX7_arrange_2 ?_
    refine e_aload0 dX7_arrange_5 ?_
    refine e_getR fl_X7_25 la_130 rfl dX7_arrange_6 ?_
    refine e_getI fl_X7_39 la_1 rfl dX7_arrange_9 ?_
    refine WW.ec (y := M 1 5) (by simp [up]) ?_
    refine e_iconst dX7_arrange_12 rfl kc_1 ?_
    refine e_icmp_lt (tgt := 39) dX7_arrange_13 (by decide) (fun h13 => ?_) (fun h => absurd h (by omega))
    refine e_iconst dX7_arrange_39 rfl kc_0 ?_
    refine e_zret dX7_arrange_40 (by decide) ?_
    exact ⟨0, rfl, Or.inl ⟨rfl, Or.inl h1, f0⟩⟩
  · by_cases h2 : M 1 5 % 2 ≠ 0
    · refine MT.of [some (vR 130), none] ⟨by decide, rfl⟩ rfl (Nat.le_of_ble_eq_true rfl) (fun hA hM => ?_)
      refine e_aload0 dX7_arrange_0 ?_
      refine e_iconst dX7_arrange_1 rfl kc_m1 ?_
      refine e_putI fp_X7_21 la_130 rfl dX7_arrange_2 ?_
      refine e_aload0 dX7_arrange_5 ?_
      refine e_getR fl_X7_25 la_130 rfl dX7_arrange_6 ?_
      refine e_getI fl_X7_39 la_1 rfl dX7_arrange_9 ?_
      refine WW.ec (y := M 1 5) (by simp [up]) ?_
      refine e_iconst dX7_arrange_12 rfl kc_1 ?_
      refine e_icmp_lt (tgt := 39) dX7_arrange_13 (by decide) (fun h => absurd h (by omega)) (fun h13 => ?_)
      refine e_aload0 dX7_arrange_16 ?_
      refine e_getR fl_X7_25 la_130 rfl dX7_arrange_17 ?_
      refine e_getI fl_X7_39 la_1 rfl dX7_arrange_20 ?_
      refine WW.ec (y := M 1 5) (by simp [up]) ?_
      refine e_iconst dX7_arrange_23 rfl kc_2 ?_
      refine e_irem dX7_arrange_24 (by omega) (tmodR (by omega) (by omega) (by omega)) ?_
      refine WW.ec (y := M 1 5 % 2) (Int.tmod_eq_emod_of_nonneg (by omega)) ?_
      refine e_if_ne (tgt := 39) dX7_arrange_25 (by decide) (fun h25 => ?_) (fun h => absurd h (by omega))
      refine e_iconst dX7_arrange_39 rfl kc_0 ?_
      refine e_zret dX7_arrange_40 (by decide) ?_
      exact ⟨0, rfl, Or.inl ⟨rfl, Or.inr (Or.inl h2), f0⟩⟩
    · by_cases h3 : M 1 0 < 1
      · refine MT.of [some (vR 130), none] ⟨by decide, rfl⟩ rfl (Nat.le_of_ble_eq_true rfl) (fun hA hM => ?_)
        refine e_aload0 dX7_arrange_0 ?_
        refine e_iconst dX7_arrange_1 rfl kc_m1 ?_
        refine e_putI fp_X7_21 la_130 rfl dX7_arrange_2 ?_
        refine e_aload0 dX7_arrange_5 ?_
        refine e_getR fl_X7_25 la_130 rfl dX7_arrange_6 ?_
        refine e_getI fl_X7_39 la_1 rfl dX7_arrange_9 ?_
        refine WW.ec (y := M 1 5) (by simp [up]) ?_
        refine e_iconst dX7_arrange_12 rfl kc_1 ?_
        refine e_icmp_lt (tgt := 39) dX7_arrange_13 (by decide) (fun h => absurd h (by omega)) (fun h13 => ?_)
        refine e_aload0 dX7_arrange_16 ?_
        refine e_getR fl_X7_25 la_130 rfl dX7_arrange_17 ?_
        refine e_getI fl_X7_39 la_1 rfl dX7_arrange_20 ?_
        refine WW.ec (y := M 1 5) (by simp [up]) ?_
        refine e_iconst dX7_arrange_23 rfl kc_2 ?_
        refine e_irem dX7_arrange_24 (by omega) (tmodR (by omega) (by omega) (by omega)) ?_
        refine WW.ec (y := M 1 5 % 2) (Int.tmod_eq_emod_of_nonneg (by omega)) ?_
        refine e_if_ne (tgt := 39) dX7_arrange_25 (by decide) (fun h => absurd h (by omega)) (fun h25 => ?_)
        refine e_aload0 dX7_arrange_28 ?_
        refine e_getR fl_X7_25 la_130 rfl dX7_arrange_29 ?_
        refine e_getI fl_X7_42 la_1 rfl dX7_arrange_32 ?_
        refine WW.ec (y := M 1 0) (by simp [up]) ?_
        refine e_iconst dX7_arrange_35 rfl kc_1 ?_
        refine e_icmp_ge (tgt := 41) dX7_arrange_36 (by decide) (fun h => absurd h (by omega)) (fun h36 => ?_)
        refine e_iconst dX7_arrange_39 rfl kc_0 ?_
        refine e_zret dX7_arrange_40 (by decide) ?_
        exact ⟨0, rfl, Or.inl ⟨rfl, Or.inr (Or.inr h3), f0⟩⟩
      · obtain ⟨n, hn⟩ : ∃ n : Nat, M 1 5 = n := ⟨(M 1 5).toNat, by omega⟩
        rw [hn, Int.toNat_natCast]
        have hmins : ∀ k, k < n → 0 ≤ mins M k ∧ mins M k ≤ 10000 := fun k hk => by
          have h8 := mSum_b M k (M 10 k).toNat (M 7 k - M 10 k).toNat
          have h9 := hL.1.2.2 k (by omega)
          have h10 := hO.2 (k : Int) ⟨by omega, by omega⟩
          rw [Int.toNat_natCast] at h10
          unfold mins
          omega
        have loop : ∀ (q i : Nat) (M1 : Mem), i + q = n → FrS M M1 → M1 130 5 = -1 → (∀ k, k < i → M1 131 k = mins M k ∧ M1 132 k = -1) → WM l w RX7 cX7_arrange 2 (some .boolean) d (fun r M1 => ∃ x, r = some (vI x) ∧ ((x = 0 ∧ ((n : Int) < 1 ∨ (n : Int) % 2 ≠ 0 ∨ M 1 0 < 1) ∧ FrS M M1) ∨ (x = 1 ∧ (1 ≤ (n : Int) ∧ (n : Int) % 2 = 0 ∧ 1 ≤ M 1 0) ∧ FrS M M1 ∧ ∃ b0 : List Int, bOf M1 n = (mar (mins M) n 7 (List.replicate n (-1)) 0 0).foldl bstep (-1, b0)))) 43 [some (vR 130), some (vI i)] [] M1 := by
          intro q
          induction q with
          | zero =>
            intro i M1 hi hf hbm hr
            obtain rfl : i = n := by omega
            have hW : MW (mins M) i (List.replicate i (-1)) M1 := by
              refine ⟨by rw [hf 1 (by omega)]; exact hn, fun k hk => (hr k hk).1, ?_⟩
              rw [show seg (M1 132) 0 i = seg (fun _ => -1) 0 i from seg_congr i 0 (fun k _ hk => (hr k (by omega)).2)]
              exact seg_const i 0
            refine e_iload1 dX7_arrange_43 ?_
            refine e_aload0 dX7_arrange_44 ?_
            refine e_getR fl_X7_25 la_130 rfl dX7_arrange_45 ?_
            refine e_getI fl_X7_39 la_1 rfl dX7_arrange_48 ?_
            refine WW.ec (y := (i : Int)) (by rw [hf 1 (by omega)]; exact hn) ?_
            refine e_icmp_ge (tgt := 78) dX7_arrange_51 (by decide) (fun h51 => ?_) (fun h => absurd h (by omega))
            refine e_aload0 dX7_arrange_78 ?_
            refine e_iconst dX7_arrange_79 rfl kc_0 ?_
            refine e_iconst dX7_arrange_80 rfl kc_0 ?_
            refine e_cVGV (ct_X7_marryFrom (l := l) (w := w) hmins (n := i) (by omega) 7 _ 0 0 M1 (d - 1) (by omega) (by omega) (by omega) (by omega) hW) cy_X7_marryFrom cv_X7_marryFrom ml_X7_49 la_130 rfl rfl rfl (rok (by omega) (by decide)) (Nat.le_of_ble_eq_true rfl) dX7_arrange_81 (fun M2 hq => ?_)
            refine e_iconst dX7_arrange_84 rfl kc_1 ?_
            refine e_zret dX7_arrange_85 (by decide) ?_
            refine ⟨1, rfl, Or.inr ⟨rfl, ⟨by omega, by omega, by omega⟩, hf.tr hq.1, seg (M1 133) 0 i, ?_⟩⟩
            rw [hq.2.2]; unfold bOf; rw [hbm]
          | succ q ih =>
            intro i M1 hi hf hbm hr
            have hc : isC M i := ⟨by omega, by omega⟩
            have f2 : FrS M (up M1 132 i (-1)) := hf.up (by omega)
            refine e_iload1 dX7_arrange_43 ?_
            refine e_aload0 dX7_arrange_44 ?_
            refine e_getR fl_X7_25 la_130 rfl dX7_arrange_45 ?_
            refine e_getI fl_X7_39 la_1 rfl dX7_arrange_48 ?_
            refine WW.ec (y := (n : Int)) (by rw [hf 1 (by omega)]; exact hn) ?_
            refine e_icmp_ge (tgt := 78) dX7_arrange_51 (by decide) (fun h => absurd h (by omega)) (fun h51 => ?_)
            refine e_aload0 dX7_arrange_54 ?_
            refine e_getR fl_X7_15 la_130 rfl dX7_arrange_55 ?_
            refine e_iload1 dX7_arrange_58 ?_
            refine e_iconst dX7_arrange_59 rfl kc_m1 ?_
            refine e_iast la_132 (⟨by omega, by omega⟩) dX7_arrange_60 ?_
            rw [Int.toNat_natCast]
            refine e_aload0 dX7_arrange_61 ?_
            refine e_getR fl_X7_9 la_130 rfl dX7_arrange_62 ?_
            refine e_iload1 dX7_arrange_65 ?_
            refine e_aload0 dX7_arrange_66 ?_
            refine e_iload1 dX7_arrange_67 ?_
            refine e_cVGI (ct_X7_minutesLeft (d := d - 1) (by omega) (hL.frs f2) (OWN.frs f2 hO) (by rw [f2 1 (by omega)]; omega) (c := i) (by rw [isC_frs f2]; exact hc)) cy_X7_minutesLeft cv_X7_minutesLeft ml_X7_45 la_130 rfl rfl rfl (rok (by omega) (by decide)) (Nat.le_of_ble_eq_true rfl) dX7_arrange_68 (fun x M2 hq => ?_)
            refine e_iast la_131 (⟨by omega, by omega⟩) dX7_arrange_71 ?_
            refine e_iinc1 dX7_arrange_72 rfl (⟨by omega, by omega⟩) rfl ?_
            refine e_goto (tgt := 43) dX7_arrange_75 (by decide) ?_
            refine ih (i + 1) _ (by omega) ((f2.tr hq.2.frs).up (by omega)) (by rw [up_row (by decide), hq.2 130 (by decide) (by decide), up_row (by decide)]; exact hbm) (fun k hk => ?_)
            rw [up_row (by decide : (132 : Nat) ≠ 131), hq.2 132 (by decide) (by decide), Int.toNat_natCast]
            by_cases e : k = i
            · subst e
              rw [up_s, up_s]
              exact ⟨by rw [hq.1, mins_frs f2 hL.2.2.2.1], rfl⟩
            · rw [up_k e, up_k e, hq.2 131 (by decide) (by decide), up_row (by decide)]
              exact hr k (by omega)
        refine MT.of [some (vR 130), none] ⟨by decide, rfl⟩ rfl (Nat.le_of_ble_eq_true rfl) (fun hA hM => ?_)
        refine e_aload0 dX7_arrange_0 ?_
        refine e_iconst dX7_arrange_1 rfl kc_m1 ?_
        refine e_putI fp_X7_21 la_130 rfl dX7_arrange_2 ?_
        refine e_aload0 dX7_arrange_5 ?_
        refine e_getR fl_X7_25 la_130 rfl dX7_arrange_6 ?_
        refine e_getI fl_X7_39 la_1 rfl dX7_arrange_9 ?_
        refine WW.ec (y := M 1 5) (by simp [up]) ?_
        refine e_iconst dX7_arrange_12 rfl kc_1 ?_
        refine e_icmp_lt (tgt := 39) dX7_arrange_13 (by decide) (fun h => absurd h (by omega)) (fun h13 => ?_)
        refine e_aload0 dX7_arrange_16 ?_
        refine e_getR fl_X7_25 la_130 rfl dX7_arrange_17 ?_
        refine e_getI fl_X7_39 la_1 rfl dX7_arrange_20 ?_
        refine WW.ec (y := M 1 5) (by simp [up]) ?_
        refine e_iconst dX7_arrange_23 rfl kc_2 ?_
        refine e_irem dX7_arrange_24 (by omega) (tmodR (by omega) (by omega) (by omega)) ?_
        refine WW.ec (y := M 1 5 % 2) (Int.tmod_eq_emod_of_nonneg (by omega)) ?_
        refine e_if_ne (tgt := 39) dX7_arrange_25 (by decide) (fun h => absurd h (by omega)) (fun h25 => ?_)
        refine e_aload0 dX7_arrange_28 ?_
        refine e_getR fl_X7_25 la_130 rfl dX7_arrange_29 ?_
        refine e_getI fl_X7_42 la_1 rfl dX7_arrange_32 ?_
        refine WW.ec (y := M 1 0) (by simp [up]) ?_
        refine e_iconst dX7_arrange_35 rfl kc_1 ?_
        refine e_icmp_ge (tgt := 41) dX7_arrange_36 (by decide) (fun h36 => ?_) (fun h => absurd h (by omega))
        refine e_iconst dX7_arrange_41 rfl kc_0 ?_
        refine e_istore1 dX7_arrange_42 rfl ?_
        exact loop n 0 _ (by omega) f0 (up_s _ _ _ _) (fun k hk => absurd hk (by omega))
theorem ct_X7_partnerOf (hd : 2 ≤ d) (hI : IB M) {c : Int} (hc : isC M c) : PI l w yX7_partnerOf cX7_partnerOf 2 d [vR 130, vI c] M (M 133 c.toNat) M := by
  have hb := hI.2.1
  refine MT.of [some (vR 130), some (vI c)] ⟨by decide, rfl⟩ rfl (Nat.le_of_ble_eq_true rfl) (fun hA hM => ?_)
  refine e_aload0 dX7_partnerOf_0 ?_
  refine e_getR fl_X7_25 la_130 rfl dX7_partnerOf_1 ?_
  refine e_iload1 dX7_partnerOf_4 ?_
  refine e_cVZ (ct_X0_isCandle (d := d - 1) (by omega)) cy_X0_isCandle cv_X0_isCandle ml_X7_33 la_1 rfl rfl rfl (rok (by omega) (by decide)) (Nat.le_of_ble_eq_true rfl) dX7_partnerOf_5 (fun g5 => ?_) (fun g5 => ?_)
  · refine e_if_eq (tgt := 20) dX7_partnerOf_8 (by decide) (fun h => absurd h (by decide)) (fun _ => ?_)
    refine e_aload0 dX7_partnerOf_11 ?_
    refine e_getR fl_X7_18 la_130 rfl dX7_partnerOf_12 ?_
    refine e_iload1 dX7_partnerOf_15 ?_
    refine e_iald la_133 (⟨by omega, by omega⟩) dX7_partnerOf_16 ?_
    refine e_goto (tgt := 21) dX7_partnerOf_17 (by decide) ?_
    refine e_iret dX7_partnerOf_21 ?_
    first | exact ⟨rfl, rfl⟩ | exact absurd hc g5
  · refine e_if_eq (tgt := 20) dX7_partnerOf_8 (by decide) (fun _ => ?_) (fun h => absurd h (by decide))
    refine e_iconst dX7_partnerOf_20 rfl kc_m1 ?_
    refine e_iret dX7_partnerOf_21 ?_
    first | exact ⟨rfl, rfl⟩ | exact absurd hc g5
end WED2
