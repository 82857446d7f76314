/-! LAW (object 119: names 120, stack 121) -/
def clampW (w v : Int) : Int := max (if w = 1 then 1 else 0) (min (if w = 3 then 10 else 99) v)
def untoldV (w : Int) (nm : Nat → Int) : Int := if w = 0 then nm 3 else if w = 1 then 10 * nm 3 else if w = 3 then nm 1 else 0
def lawV (o : Option (List Int)) (w : Int) (nm : Nat → Int) : Int := clampW w (match o with | some cs => (rpn nm cs []).headD 0 | none => untoldV w nm)
def nameV (h dr c th ln i wx db : Int) (k : Nat) : Int := if k = 0 then h else if k = 1 then dr else if k = 2 then c else if k = 3 then th else if k = 4 then ln else if k = 5 then i else if k = 6 then wx else db
/-- the codes of law w in THE TEXT -/
def lawC (M : Mem) (w : Nat) : Option (List Int) :=
  if isT M (M 1 16) ∧ 0 < M (93 + 6 * (M 1 16).toNat) w then some (seg (M (91 + 6 * (M 1 16).toNat)) (M (92 + 6 * (M 1 16).toNat) w).toNat (M (93 + 6 * (M 1 16).toNat) w - M (92 + 6 * (M 1 16).toNat) w).toNat) else none
def TxOk (M : Mem) (t : Nat) : Prop := ∀ w, w < 4 → 0 < M (93 + 6 * t) w → (0 ≤ M (92 + 6 * t) w ∧ M (92 + 6 * t) w ≤ M (93 + 6 * t) w ∧ M (93 + 6 * t) w ≤ 300) ∧ wfc (seg (M (91 + 6 * t)) (M (92 + 6 * t) w).toNat (M (93 + 6 * t) w - M (92 + 6 * t) w).toNat) 0 1
/-- what the law asks of the memory -/
def LW (M : Mem) : Prop := IB M ∧ (∀ h, h < 8 → (0 ≤ M 2 h ∧ M 2 h ≤ 9) ∧ (0 ≤ M 3 h ∧ M 3 h ≤ 999) ∧ (0 ≤ M 4 h ∧ M 4 h ≤ 999)) ∧ (∀ c, c < 6 → 0 ≤ M 6 c ∧ M 6 c ≤ 9) ∧ M 1 15 ≤ 4 ∧ (isT M (M 1 16) → TxOk M (M 1 16).toNat)
/-- the same but for the law's own rows -/
def Fr2 (M M1 : Mem) : Prop := ∀ o, o ≠ 120 → o ≠ 121 → M1 o = M o
theorem Fr2.rf (M : Mem) : Fr2 M M := fun _ _ _ => rfl
theorem Fr2.tr {M M1 M2 : Mem} (h : Fr2 M M1) (h2 : Fr2 M1 M2) : Fr2 M M2 := fun o a b => (h2 o a b).trans (h o a b)
theorem Fr2.up {M M1 : Mem} {o k : Nat} {v : Int} (h : Fr2 M M1) (ho : o = 120 ∨ o = 121) : Fr2 M (up M1 o k v) := fun q a b => by
  rw [up_row (by omega)]
  exact h q a b
theorem LW.fr {M M1 : Mem} (h : Fr2 M M1) (hl : LW M) : LW M1 := by
  unfold LW IB isT TxOk at hl ⊢
  rw [h 1 (by decide) (by decide), h 7 (by decide) (by decide), h 2 (by decide) (by decide), h 3 (by decide) (by decide), h 4 (by decide) (by decide), h 6 (by decide) (by decide)]
  refine ⟨hl.1, hl.2.1, hl.2.2.1, hl.2.2.2.1, fun ht => ?_⟩
  have h4 : (M 1 16).toNat < 4 := by have := hl.2.2.2.1; omega
  rw [h (93 + 6 * (M 1 16).toNat) (by omega) (by omega), h (92 + 6 * (M 1 16).toNat) (by omega) (by omega), h (91 + 6 * (M 1 16).toNat) (by omega) (by omega)]
  exact hl.2.2.2.2 ht
/-- the stack row holds the list, its top last -/
def stk (M : Mem) : List Int → Prop
  | [] => True
  | x :: r => M 121 r.length = x ∧ stk M r
theorem stk_up {M : Mem} {k : Nat} {v : Int} : ∀ {st : List Int}, st.length ≤ k → stk M st → stk (up M 121 k v) st
  | [], _, _ => trivial
  | x :: r, h, q => ⟨by rw [up_k (by have : (x :: r).length = r.length + 1 := rfl; omega)]; exact q.1, stk_up (by have : (x :: r).length = r.length + 1 := rfl; omega) q.2⟩
theorem mulB {x y : Int} (hx : bnd x) (hy : bnd y) : -1000000000000 ≤ x * y ∧ x * y ≤ 1000000000000 := by
  have h1 : x.natAbs ≤ 1000000 := by have := hx.1; have := hx.2; omega
  have h2 : y.natAbs ≤ 1000000 := by have := hy.1; have := hy.2; omega
  have h3 : (x * y).natAbs ≤ 1000000 * 1000000 := by rw [Int.natAbs_mul]; exact Nat.mul_le_mul h1 h2
  omega
theorem tdivB {x y : Int} (hx : bnd x) : -1000000 ≤ x.tdiv y ∧ x.tdiv y ≤ 1000000 := by
  have h1 : x.natAbs ≤ 1000000 := by have := hx.1; have := hx.2; omega
  have h3 : (x.tdiv y).natAbs ≤ x.natAbs := by rw [Int.natAbs_tdiv]; exact Nat.div_le_self _ _
  omega
section LAWS
variable {l : Launch} {w : Wd} {d : Nat} {M : Mem} {Q : Option MV → Mem → Prop}
theorem ct_X1_combine (hd : 1 ≤ d) {c x y : Int} (hc : 10008 ≤ c ∧ c < 10012) (hx : bnd x) (hy : bnd y) : PI l w yX1_combine cX1_combine 5 d [vI c, vI x, vI y] M (comb c x y) M := by
  have hm := mulB hx hy
  have hq := tdivB (y := y) hx
  unfold bnd at hx hy
  refine MT.of [some (vI c), some (vI x), some (vI y), none, none] ⟨by decide, rfl⟩ rfl (Nat.le_of_ble_eq_true rfl) (fun hA hM => ?_)
  refine e_iload0 dX1_combine_0 ?_
  refine e_table (tgt := 53) dX1_combine_1 (by decide) (fun hl1 hh1 => ?_) (fun h1 => ?_)
  · rcases (show c = 10008 ∨ c = 10009 ∨ c = 10010 by omega) with hs1 | hs1 | hs1
    · refine ⟨27, 28, (by rw [hs1]; rfl), by decide, ?_⟩
      refine e_iload1 dX1_combine_28 ?_
      refine e_iload2 dX1_combine_29 ?_
      refine e_iadd dX1_combine_30 (⟨by omega, by omega⟩) ?_
      refine e_i2l dX1_combine_31 ?_
      refine e_lstore3 dX1_combine_32 rfl ?_
      refine e_goto (tgt := 66) dX1_combine_33 (by decide) ?_
      refine e_ldc2 dX1_combine_66 kl_X1_107 ⟨by decide, by decide⟩ ?_
      refine e_ldc2 dX1_combine_69 kl_X1_109 ⟨by decide, by decide⟩ ?_
      refine e_lload3 dX1_combine_72 ?_
      refine e_mminL ml9_X1_111 (rok1 (by omega)) rfl dX1_combine_73 ?_
      refine e_mmaxL ml9_X1_114 (rok1 (by omega)) rfl dX1_combine_76 ?_
      refine e_l2i dX1_combine_79 (⟨by omega, by omega⟩) ?_
      refine e_iret dX1_combine_80 ?_
      first | (subst hs1; exact ⟨rfl, rfl⟩) | (obtain rfl : c = 10011 := (by omega); exact ⟨rfl, by simp [comb, clampS, h54]⟩)
    · refine ⟨35, 36, (by rw [hs1]; rfl), by decide, ?_⟩
      refine e_iload1 dX1_combine_36 ?_
      refine e_iload2 dX1_combine_37 ?_
      refine e_isub dX1_combine_38 (⟨by omega, by omega⟩) ?_
      refine e_i2l dX1_combine_39 ?_
      refine e_lstore3 dX1_combine_40 rfl ?_
      refine e_goto (tgt := 66) dX1_combine_41 (by decide) ?_
      refine e_ldc2 dX1_combine_66 kl_X1_107 ⟨by decide, by decide⟩ ?_
      refine e_ldc2 dX1_combine_69 kl_X1_109 ⟨by decide, by decide⟩ ?_
      refine e_lload3 dX1_combine_72 ?_
      refine e_mminL ml9_X1_111 (rok1 (by omega)) rfl dX1_combine_73 ?_
      refine e_mmaxL ml9_X1_114 (rok1 (by omega)) rfl dX1_combine_76 ?_
      refine e_l2i dX1_combine_79 (⟨by omega, by omega⟩) ?_
      refine e_iret dX1_combine_80 ?_
      first | (subst hs1; exact ⟨rfl, rfl⟩) | (obtain rfl : c = 10011 := (by omega); exact ⟨rfl, by simp [comb, clampS, h54]⟩)
    · refine ⟨43, 44, (by rw [hs1]; rfl), by decide, ?_⟩
      refine e_iload1 dX1_combine_44 ?_
      refine e_i2l dX1_combine_45 ?_
      refine e_iload2 dX1_combine_46 ?_
      refine e_i2l dX1_combine_47 ?_
      refine e_lmul dX1_combine_48 (⟨by omega, by omega⟩) ?_
      refine e_lstore3 dX1_combine_49 rfl ?_
      refine e_goto (tgt := 66) dX1_combine_50 (by decide) ?_
      refine e_ldc2 dX1_combine_66 kl_X1_107 ⟨by decide, by decide⟩ ?_
      refine e_ldc2 dX1_combine_69 kl_X1_109 ⟨by decide, by decide⟩ ?_
      refine e_lload3 dX1_combine_72 ?_
      refine e_mminL ml9_X1_111 (rok1 (by omega)) rfl dX1_combine_73 ?_
      refine e_mmaxL ml9_X1_114 (rok1 (by omega)) rfl dX1_combine_76 ?_
      refine e_l2i dX1_combine_79 (⟨by omega, by omega⟩) ?_
      refine e_iret dX1_combine_80 ?_
      first | (subst hs1; exact ⟨rfl, rfl⟩) | (obtain rfl : c = 10011 := (by omega); exact ⟨rfl, by simp [comb, clampS, h54]⟩)
  · refine e_iload2 dX1_combine_53 ?_
    refine e_if_ne (tgt := 61) dX1_combine_54 (by decide) (fun h54 => ?_) (fun h54 => ?_)
    · refine e_iload1 dX1_combine_61 ?_
      refine e_iload2 dX1_combine_62 ?_
      refine e_idiv dX1_combine_63 (by omega) (⟨by omega, by omega⟩) ?_
      refine e_i2l dX1_combine_64 ?_
      refine e_lstore3 dX1_combine_65 rfl ?_
      refine e_ldc2 dX1_combine_66 kl_X1_107 ⟨by decide, by decide⟩ ?_
      refine e_ldc2 dX1_combine_69 kl_X1_109 ⟨by decide, by decide⟩ ?_
      refine e_lload3 dX1_combine_72 ?_
      refine e_mminL ml9_X1_111 (rok1 (by omega)) rfl dX1_combine_73 ?_
      refine e_mmaxL ml9_X1_114 (rok1 (by omega)) rfl dX1_combine_76 ?_
      refine e_l2i dX1_combine_79 (⟨by omega, by omega⟩) ?_
      refine e_iret dX1_combine_80 ?_
      first | (subst hs1; exact ⟨rfl, rfl⟩) | (obtain rfl : c = 10011 := (by omega); exact ⟨rfl, by simp [comb, clampS, h54]⟩)
    · refine e_lconst0 dX1_combine_57 ?_
      refine e_goto (tgt := 65) dX1_combine_58 (by decide) ?_
      refine e_lstore3 dX1_combine_65 rfl ?_
      refine e_ldc2 dX1_combine_66 kl_X1_107 ⟨by decide, by decide⟩ ?_
      refine e_ldc2 dX1_combine_69 kl_X1_109 ⟨by decide, by decide⟩ ?_
      refine e_lload3 dX1_combine_72 ?_
      refine e_mminL ml9_X1_111 (rok1 (by omega)) rfl dX1_combine_73 ?_
      refine e_mmaxL ml9_X1_114 (rok1 (by omega)) rfl dX1_combine_76 ?_
      refine e_l2i dX1_combine_79 (⟨by omega, by omega⟩) ?_
      refine e_iret dX1_combine_80 ?_
      first | (subst hs1; exact ⟨rfl, rfl⟩) | (obtain rfl : c = 10011 := (by omega); exact ⟨rfl, by simp [comb, clampS, h54]⟩)
theorem lp_X1_reckon (hd : 2 ≤ d) {j : Nat} (hj : j < 4) {M0 : Mem} {fr t : Int} (ht : t ≤ 300) (hn : ∀ k, k < 8 → bnd (M0 120 k)) {v : Int}
    (k : ∀ (M1 : Mem) (h i : Int) (x6 : Option MV), Fr2 M0 M1 → M1 120 = M0 120 → M1 121 0 = v → WM l w RX1 cX1_reckon 7 (some .int) d Q 171 [some (vR 119), some (vR (90 + 6 * j)), some (vI fr), some (vI t), some (vI h), some (vI i), x6] [] M1) :
    ∀ (n i : Nat) (st : List Int) (M1 : Mem) (x6 : Option MV), (i : Int) + n = t → Fr2 M0 M1 → M1 120 = M0 120 → st.length ≤ 20 → stk M1 st → (∀ z ∈ st, bnd z) → wfc (seg (M0 (91 + 6 * j)) i n) st.length 1 → (rpn (M0 120) (seg (M0 (91 + 6 * j)) i n) st).headD 0 = v →
      WM l w RX1 cX1_reckon 7 (some .int) d Q 6 [some (vR 119), some (vR (90 + 6 * j)), some (vI fr), some (vI t), some (vI st.length), some (vI i), x6] [] M1 := by
  intro n
  induction n with
  | zero =>
    intro i st M1 x6 hi hf h120 hh hs hb hw hv
    have hl : st.length = 1 := hw
    refine e_iload5 dX1_reckon_6 ?_
    refine e_if_lt (tgt := 171) dX1_reckon_8 (by decide) (fun h => absurd h (by omega)) (fun h8 => ?_)
    refine e_iload5 dX1_reckon_11 ?_
    refine e_iload3 dX1_reckon_13 ?_
    refine e_icmp_ge (tgt := 171) dX1_reckon_14 (by decide) (fun h14 => ?_) (fun h => absurd h (by omega))
    refine k M1 _ _ _ hf h120 ?_
    cases st with
    | nil => cases hl
    | cons x r =>
      cases r with
      | nil => exact hs.1.trans hv
      | cons y r => cases hl
  | succ n ih =>
    intro i st M1 x6 hi hf h120 hh hs hb hw hv
    have hcode : M1 (91 + 6 * j) i = M0 (91 + 6 * j) i := by rw [hf (91 + 6 * j) (by omega) (by omega)]
    have hw0 := hw
    have hlen := opS_len (nm := M0 120) hw
    have hbb := opS_b hn hw hb
    obtain ⟨c0, hw⟩ := hw
    refine e_iload5 dX1_reckon_6 ?_
    refine e_if_lt (tgt := 171) dX1_reckon_8 (by decide) (fun h => absurd h (by omega)) (fun h8 => ?_)
    refine e_iload5 dX1_reckon_11 ?_
    refine e_iload3 dX1_reckon_13 ?_
    refine e_icmp_ge (tgt := 171) dX1_reckon_14 (by decide) (fun h => absurd h (by omega)) (fun h14 => ?_)
    refine e_iload5 dX1_reckon_17 ?_
    refine e_aload1 dX1_reckon_19 ?_
    refine e_getR fl_X1_100 (la_S0 hj) rfl dX1_reckon_20 ?_
    refine e_alen (la_S1 hj) (by decide) (by decide) dX1_reckon_23 ?_
    refine e_icmp_ge (tgt := 171) dX1_reckon_24 (by decide) (fun h => absurd h (by omega)) (fun h24 => ?_)
    refine e_aload1 dX1_reckon_27 ?_
    refine e_getR fl_X1_100 (la_S0 hj) rfl dX1_reckon_28 ?_
    refine e_iload5 dX1_reckon_31 ?_
    refine e_iald (la_S1 hj) (⟨by omega, by omega⟩) dX1_reckon_33 ?_
    refine WW.ec (y := M0 (91 + 6 * j) i) (by rw [Int.toNat_natCast, hcode]) ?_
    refine e_istore6 dX1_reckon_34 rfl ?_
    generalize hcc : M0 (91 + 6 * j) i = c at *
    rcases hw with ⟨c1, c2, c3⟩ | ⟨c1, c2, c3⟩ | ⟨c1, c2, c3, c4⟩
    · have ho : opS (M0 120) c st = (if c < 10000 then c else M0 120 (c - 10000).toNat) :: st := by unfold opS; rw [if_pos c1]
      rw [show rpn (M0 120) (seg (M0 (91 + 6 * j)) i (n + 1)) st = rpn (M0 120) (seg (M0 (91 + 6 * j)) (i + 1) n) (opS (M0 120) c st) by rw [← hcc]; rfl] at hv
      rw [ho] at hv hlen hbb
      refine e_iload6 dX1_reckon_36 ?_
      refine e_sipush dX1_reckon_38 rfl ks_10008 ?_
      refine e_icmp_ge (tgt := 91) dX1_reckon_41 (by decide) (fun h => absurd h (by omega)) (fun h41 => ?_)
      refine e_iload4 dX1_reckon_44 ?_
      refine e_aload0 dX1_reckon_46 ?_
      refine e_getR fl_X1_15 la_119 rfl dX1_reckon_47 ?_
      refine e_alen la_121 (by decide) (by decide) dX1_reckon_50 ?_
      refine e_icmp_ge (tgt := 91) dX1_reckon_51 (by decide) (fun h => absurd h (by omega)) (fun h51 => ?_)
      refine e_aload0 dX1_reckon_54 ?_
      refine e_getR fl_X1_15 la_119 rfl dX1_reckon_55 ?_
      refine e_iload4 dX1_reckon_58 ?_
      refine e_iload6 dX1_reckon_60 ?_
      refine e_sipush dX1_reckon_62 rfl ks_10000 ?_
      refine e_icmp_ge (tgt := 73) dX1_reckon_65 (by decide) (fun h65 => ?_) (fun h65 => ?_)
      · refine e_aload0 dX1_reckon_73 ?_
        refine e_getR fl_X1_9 la_119 rfl dX1_reckon_74 ?_
        refine e_iload6 dX1_reckon_77 ?_
        refine e_sipush dX1_reckon_79 rfl ks_10000 ?_
        refine e_isub dX1_reckon_82 (⟨by omega, by omega⟩) ?_
        refine e_iald la_120 (⟨by omega, by omega⟩) dX1_reckon_83 ?_
        refine WW.ec (y := M0 120 (c - 10000).toNat) (by rw [h120]) ?_
        refine e_iast la_121 (⟨by omega, by omega⟩) dX1_reckon_84 ?_
        refine e_iinc4 dX1_reckon_85 rfl (⟨by omega, by omega⟩) rfl ?_
        refine e_goto (tgt := 165) dX1_reckon_88 (by decide) ?_
        refine e_iinc5 dX1_reckon_165 rfl (⟨by omega, by omega⟩) rfl ?_
        refine e_goto (tgt := 6) dX1_reckon_168 (by decide) ?_
        first | rw [if_pos (by omega)] at hv hlen hbb | rw [if_neg (by omega)] at hv hlen hbb
        exact ih (i + 1) (_ :: st) _ _ (by omega) (hf.up (Or.inr rfl)) ((up_row (by decide)).trans h120) (by simp at hh ⊢; omega) ⟨by simp [up], by rw [Int.toNat_natCast]; exact stk_up (Nat.le_refl _) hs⟩ hbb hlen hv
      · refine e_iload6 dX1_reckon_68 ?_
        refine e_goto (tgt := 84) dX1_reckon_70 (by decide) ?_
        refine e_iast la_121 (⟨by omega, by omega⟩) dX1_reckon_84 ?_
        refine e_iinc4 dX1_reckon_85 rfl (⟨by omega, by omega⟩) rfl ?_
        refine e_goto (tgt := 165) dX1_reckon_88 (by decide) ?_
        refine e_iinc5 dX1_reckon_165 rfl (⟨by omega, by omega⟩) rfl ?_
        refine e_goto (tgt := 6) dX1_reckon_168 (by decide) ?_
        first | rw [if_pos (by omega)] at hv hlen hbb | rw [if_neg (by omega)] at hv hlen hbb
        exact ih (i + 1) (_ :: st) _ _ (by omega) (hf.up (Or.inr rfl)) ((up_row (by decide)).trans h120) (by simp at hh ⊢; omega) ⟨by simp [up], by rw [Int.toNat_natCast]; exact stk_up (Nat.le_refl _) hs⟩ hbb hlen hv
    · subst c1
      cases st with
      | nil => exact absurd c2 (by simp)
      | cons x r =>
        have ho : opS (M0 120) 10012 (x :: r) = (-x) :: r := rfl
        rw [show rpn (M0 120) (seg (M0 (91 + 6 * j)) i (n + 1)) (x :: r) = rpn (M0 120) (seg (M0 (91 + 6 * j)) (i + 1) n) (opS (M0 120) 10012 (x :: r)) by rw [← hcc]; rfl] at hv
        rw [ho] at hv hlen hbb
        have hx := hb x List.mem_cons_self
        unfold bnd at hx
        have e1 : (((x :: r).length : Nat) : Int) = (r.length : Int) + 1 := rfl
        have e2 : M1 121 (((x :: r).length : Int) - 1).toNat = x := by rw [e1, show ((r.length : Int) + 1 - 1).toNat = r.length by omega]; exact hs.1
        have c3' : r.length + 1 ≤ 20 := by simp at hh; omega
        refine e_iload6 dX1_reckon_36 ?_
        refine e_sipush dX1_reckon_38 rfl ks_10008 ?_
        refine e_icmp_ge (tgt := 91) dX1_reckon_41 (by decide) (fun _ => ?_) (fun h => absurd h (by decide))
        refine e_iload6 dX1_reckon_91 ?_
        refine e_sipush dX1_reckon_93 rfl ks_10012 ?_
        refine e_icmp_ne (tgt := 126) dX1_reckon_96 (by decide) (fun h => absurd h (by decide)) (fun _ => ?_)
        refine e_iload4 dX1_reckon_99 ?_
        refine e_if_le (tgt := 126) dX1_reckon_101 (by decide) (fun h => absurd h (by simp <;> omega)) (fun h101 => ?_)
        refine e_aload0 dX1_reckon_104 ?_
        refine e_getR fl_X1_15 la_119 rfl dX1_reckon_105 ?_
        refine e_iload4 dX1_reckon_108 ?_
        refine e_iconst dX1_reckon_110 rfl kc_1 ?_
        refine e_isub dX1_reckon_111 (⟨by omega, by omega⟩) ?_
        refine e_aload0 dX1_reckon_112 ?_
        refine e_getR fl_X1_15 la_119 rfl dX1_reckon_113 ?_
        refine e_iload4 dX1_reckon_116 ?_
        refine e_iconst dX1_reckon_118 rfl kc_1 ?_
        refine e_isub dX1_reckon_119 (⟨by omega, by omega⟩) ?_
        refine e_iald la_121 (⟨by omega, by omega⟩) dX1_reckon_120 ?_
        refine WW.ec (y := x) (e2) ?_
        refine e_ineg dX1_reckon_121 (⟨by omega, by omega⟩) ?_
        refine e_iast la_121 (⟨by omega, by omega⟩) dX1_reckon_122 ?_
        refine e_goto (tgt := 165) dX1_reckon_123 (by decide) ?_
        refine e_iinc5 dX1_reckon_165 rfl (⟨by omega, by omega⟩) rfl ?_
        refine e_goto (tgt := 6) dX1_reckon_168 (by decide) ?_
        exact ih (i + 1) ((-x) :: r) _ _ (by omega) (hf.up (Or.inr rfl)) ((up_row (by decide)).trans h120) (by simp at hh ⊢; omega) ⟨by rw [e1, show ((r.length : Int) + 1 - 1).toNat = r.length by omega]; exact up_s _ _ _ _, by rw [e1, show ((r.length : Int) + 1 - 1).toNat = r.length by omega]; exact stk_up (Nat.le_refl _) hs.2⟩ hbb hlen hv
    · cases st with
      | nil => exact absurd c3 (by simp)
      | cons y r =>
        cases r with
        | nil => exact absurd c3 (by simp)
        | cons x r =>
        have ho : opS (M0 120) c (y :: x :: r) = comb c x y :: r := by unfold opS; rw [if_neg (by omega), if_neg (by omega)]
        rw [show rpn (M0 120) (seg (M0 (91 + 6 * j)) i (n + 1)) (y :: x :: r) = rpn (M0 120) (seg (M0 (91 + 6 * j)) (i + 1) n) (opS (M0 120) c (y :: x :: r)) by rw [← hcc]; rfl] at hv
        rw [ho] at hv hlen hbb
        have hy := hb y List.mem_cons_self
        have hx := hb x (List.mem_cons_of_mem _ List.mem_cons_self)
        have e1 : (((y :: x :: r).length : Nat) : Int) = (r.length : Int) + 2 := by simp; omega
        have c3' : r.length + 2 ≤ 20 := by simp at hh; omega
        refine WW.cv (L' := [some (vR 119), some (vR (90 + 6 * j)), some (vI fr), some (vI t), some (vI ((r.length : Int) + 2)), some (vI i), some (vI c)]) (by rw [e1]) rfl rfl ?_
        refine e_iload6 dX1_reckon_36 ?_
        refine e_sipush dX1_reckon_38 rfl ks_10008 ?_
        refine e_icmp_ge (tgt := 91) dX1_reckon_41 (by decide) (fun h41 => ?_) (fun h => absurd h (by omega))
        refine e_iload6 dX1_reckon_91 ?_
        refine e_sipush dX1_reckon_93 rfl ks_10012 ?_
        refine e_icmp_ne (tgt := 126) dX1_reckon_96 (by decide) (fun h96 => ?_) (fun h => absurd h (by omega))
        refine e_iload4 dX1_reckon_126 ?_
        refine e_iconst dX1_reckon_128 rfl kc_1 ?_
        refine e_icmp_le (tgt := 165) dX1_reckon_129 (by decide) (fun h => absurd h (by omega)) (fun h129 => ?_)
        refine e_iinc4 dX1_reckon_132 rfl (⟨by omega, by omega⟩) rfl ?_
        refine e_aload0 dX1_reckon_135 ?_
        refine e_getR fl_X1_15 la_119 rfl dX1_reckon_136 ?_
        refine e_iload4 dX1_reckon_139 ?_
        refine e_iconst dX1_reckon_141 rfl kc_1 ?_
        refine e_isub dX1_reckon_142 (⟨by omega, by omega⟩) ?_
        refine e_iload6 dX1_reckon_143 ?_
        refine e_aload0 dX1_reckon_145 ?_
        refine e_getR fl_X1_15 la_119 rfl dX1_reckon_146 ?_
        refine e_iload4 dX1_reckon_149 ?_
        refine e_iconst dX1_reckon_151 rfl kc_1 ?_
        refine e_isub dX1_reckon_152 (⟨by omega, by omega⟩) ?_
        refine e_iald la_121 (⟨by omega, by omega⟩) dX1_reckon_153 ?_
        refine WW.ec (y := x) (by rw [show ((r.length : Int) + 2 + -1 - 1).toNat = r.length by omega]; exact hs.2.1) ?_
        refine e_aload0 dX1_reckon_154 ?_
        refine e_getR fl_X1_15 la_119 rfl dX1_reckon_155 ?_
        refine e_iload4 dX1_reckon_158 ?_
        refine e_iald la_121 (⟨by omega, by omega⟩) dX1_reckon_160 ?_
        refine WW.ec (y := y) (by rw [show ((r.length : Int) + 2 + -1).toNat = r.length + 1 by omega]; exact hs.1) ?_
        refine e_cSI (ct_X1_combine (d := d - 1) (by omega) ⟨c1, c2⟩ hx hy) cy_X1_combine cs_X1_combine ml_X1_103 rfl rfl (rok (by omega) (by decide)) (Nat.le_of_ble_eq_true rfl) dX1_reckon_161 ?_
        refine e_iast la_121 (⟨by omega, by omega⟩) dX1_reckon_164 ?_
        refine e_iinc5 dX1_reckon_165 rfl (⟨by omega, by omega⟩) rfl ?_
        refine e_goto (tgt := 6) dX1_reckon_168 (by decide) ?_
        refine WW.cv (L' := [some (vR 119), some (vR (90 + 6 * j)), some (vI fr), some (vI t), some (vI ((comb c x y :: r).length : Int)), some (vI ((i + 1 : Nat) : Int)), some (vI c)]) (by simp; omega) rfl rfl ?_
        exact ih (i + 1) (comb c x y :: r) _ _ (by omega) (hf.up (Or.inr rfl)) ((up_row (by decide)).trans h120) (by simp at hh ⊢; omega) ⟨by rw [show ((r.length : Int) + 2 + -1 - 1).toNat = r.length by omega]; exact up_s _ _ _ _, by rw [show ((r.length : Int) + 2 + -1 - 1).toNat = r.length by omega]; exact stk_up (Nat.le_refl _) hs.2.2⟩ hbb hlen hv
theorem ct_X1_reckon (hd : 2 ≤ d) {j : Nat} (hj : j < 4) {f t : Int} (h0 : 0 ≤ f) (h1 : f ≤ t) (h2 : t ≤ 300) (hn : ∀ k, k < 8 → bnd (M 120 k)) (hw : wfc (seg (M (91 + 6 * j)) f.toNat (t - f).toNat) 0 1) :
    GI l w yX1_reckon cX1_reckon 7 .int d [vR 119, vR (90 + 6 * j), vI f, vI t] M (fun x M1 => x = (rpn (M 120) (seg (M (91 + 6 * j)) f.toNat (t - f).toNat) []).headD 0 ∧ Fr2 M M1) := by
  refine MT.of [some (vR 119), some (vR (90 + 6 * j)), some (vI f), some (vI t), none, none, none] ⟨by decide, rfl⟩ rfl (Nat.le_of_ble_eq_true rfl) (fun hA hM => ?_)
  refine e_iconst dX1_reckon_0 rfl kc_0 ?_
  refine e_istore4 dX1_reckon_1 rfl ?_
  refine e_iload2 dX1_reckon_3 ?_
  refine e_istore5 dX1_reckon_4 rfl ?_
  refine WW.cv (L' := [some (vR 119), some (vR (90 + 6 * j)), some (vI f), some (vI t), some (vI (([] : List Int).length : Int)), some (vI ((f.toNat : Nat) : Int)), none]) (by simp; omega) rfl rfl (lp_X1_reckon hd hj h2 hn ?_ (t - f).toNat f.toNat [] M none (by omega) (Fr2.rf M) rfl (by simp) trivial (fun z hz => by cases hz) hw rfl)
  intro M1 h i x6 hf h120 hv
  refine e_aload0 dX1_reckon_171 ?_
  refine e_getR fl_X1_15 la_119 rfl dX1_reckon_172 ?_
  refine e_iconst dX1_reckon_175 rfl kc_0 ?_
  refine e_iald la_121 (⟨by omega, by omega⟩) dX1_reckon_176 ?_
  refine e_iret dX1_reckon_177 ?_
  exact ⟨_, rfl, hv, hf⟩
theorem ct_X1_untold (hd : 1 ≤ d) {k : Int} (hb : ∀ k, k < 8 → bnd (M 120 k)) (hk : 0 ≤ k ∧ k < 4) : PI l w yX1_untold cX1_untold 2 d [vR 119, vI k] M (untoldV k (M 120)) M := by
  have h3 := hb 3 (by omega)
  unfold bnd at h3
  refine MT.of [some (vR 119), some (vI k)] ⟨by decide, rfl⟩ rfl (Nat.le_of_ble_eq_true rfl) (fun hA hM => ?_)
  refine e_iload1 dX1_untold_0 ?_
  refine e_table (tgt := 56) dX1_untold_1 (by decide) (fun hl1 hh1 => ?_) (fun h1 => ?_)
  · rcases (show k = 0 ∨ k = 1 ∨ k = 2 ∨ k = 3 by omega) with hs1 | hs1 | hs1 | hs1
    · refine ⟨31, 32, (by rw [hs1]; rfl), by decide, ?_⟩
      refine e_aload0 dX1_untold_32 ?_
      refine e_getR fl_X1_9 la_119 rfl dX1_untold_33 ?_
      refine e_iconst dX1_untold_36 rfl kc_3 ?_
      refine e_iald la_120 (⟨by omega, by omega⟩) dX1_untold_37 ?_
      refine e_iret dX1_untold_38 ?_
      subst hs1; exact ⟨rfl, rfl⟩
    · refine ⟨38, 39, (by rw [hs1]; rfl), by decide, ?_⟩
      refine e_bipush dX1_untold_39 rfl kb_10 ?_
      refine e_aload0 dX1_untold_41 ?_
      refine e_getR fl_X1_9 la_119 rfl dX1_untold_42 ?_
      refine e_iconst dX1_untold_45 rfl kc_3 ?_
      refine e_iald la_120 (⟨by omega, by omega⟩) dX1_untold_46 ?_
      refine e_imul dX1_untold_47 (by simp only [Int.toNat] at *; exact ⟨by omega, by omega⟩) ?_
      refine e_iret dX1_untold_48 ?_
      subst hs1; exact ⟨rfl, rfl⟩
    · refine ⟨55, 56, (by rw [hs1]; rfl), by decide, ?_⟩
      refine e_iconst dX1_untold_56 rfl kc_0 ?_
      refine e_iret dX1_untold_57 ?_
      first | (subst hs1; exact ⟨rfl, rfl⟩) | (exfalso; omega)
    · refine ⟨48, 49, (by rw [hs1]; rfl), by decide, ?_⟩
      refine e_aload0 dX1_untold_49 ?_
      refine e_getR fl_X1_9 la_119 rfl dX1_untold_50 ?_
      refine e_iconst dX1_untold_53 rfl kc_1 ?_
      refine e_iald la_120 (⟨by omega, by omega⟩) dX1_untold_54 ?_
      refine e_iret dX1_untold_55 ?_
      subst hs1; exact ⟨rfl, rfl⟩
  · refine e_iconst dX1_untold_56 rfl kc_0 ?_
    refine e_iret dX1_untold_57 ?_
    first | (subst hs1; exact ⟨rfl, rfl⟩) | (exfalso; omega)
theorem ct_X1_nameInch (hd : 1 ≤ d) {c th ln i : Int} : PV l w yX1_nameInch cX1_nameInch 5 d [vR 119, vI c, vI th, vI ln, vI i] M (up (up (up (up M 120 2 c) 120 3 th) 120 4 ln) 120 5 i) := by
  refine MT.of [some (vR 119), some (vI c), some (vI th), some (vI ln), some (vI i)] ⟨by decide, rfl⟩ rfl (Nat.le_of_ble_eq_true rfl) (fun hA hM => ?_)
  refine e_aload0 dX1_nameInch_0 ?_
  refine e_getR fl_X1_9 la_119 rfl dX1_nameInch_1 ?_
  refine e_iconst dX1_nameInch_4 rfl kc_2 ?_
  refine e_iload1 dX1_nameInch_5 ?_
  refine e_iast la_120 (⟨by omega, by omega⟩) dX1_nameInch_6 ?_
  refine e_aload0 dX1_nameInch_7 ?_
  refine e_getR fl_X1_9 la_119 rfl dX1_nameInch_8 ?_
  refine e_iconst dX1_nameInch_11 rfl kc_3 ?_
  refine e_iload2 dX1_nameInch_12 ?_
  refine e_iast la_120 (⟨by omega, by omega⟩) dX1_nameInch_13 ?_
  refine e_aload0 dX1_nameInch_14 ?_
  refine e_getR fl_X1_9 la_119 rfl dX1_nameInch_15 ?_
  refine e_iconst dX1_nameInch_18 rfl kc_4 ?_
  refine e_iload3 dX1_nameInch_19 ?_
  refine e_iast la_120 (⟨by omega, by omega⟩) dX1_nameInch_20 ?_
  refine e_aload0 dX1_nameInch_21 ?_
  refine e_getR fl_X1_9 la_119 rfl dX1_nameInch_22 ?_
  refine e_iconst dX1_nameInch_25 rfl kc_5 ?_
  refine e_iload4 dX1_nameInch_26 ?_
  refine e_iast la_120 (⟨by omega, by omega⟩) dX1_nameInch_28 ?_
  refine e_vret dX1_nameInch_29 ?_
  exact ⟨rfl, rfl⟩
theorem ct_X1_nameHouse (hd : 1 ≤ d) (hI : IB M) {h : Int} (hh : isH M h) : PV l w yX1_nameHouse cX1_nameHouse 2 d [vR 119, vI h] M (up (up (up (up M 120 0 h) 120 1 (M 2 h.toNat)) 120 6 (M 3 h.toNat)) 120 7 (M 4 h.toNat)) := by
  have hb := hI.1
  refine MT.of [some (vR 119), some (vI h)] ⟨by decide, rfl⟩ rfl (Nat.le_of_ble_eq_true rfl) (fun hA hM => ?_)
  refine e_aload0 dX1_nameHouse_0 ?_
  refine e_getR fl_X1_9 la_119 rfl dX1_nameHouse_1 ?_
  refine e_iconst dX1_nameHouse_4 rfl kc_0 ?_
  refine e_iload1 dX1_nameHouse_5 ?_
  refine e_iast la_120 (⟨by omega, by omega⟩) dX1_nameHouse_6 ?_
  refine e_aload0 dX1_nameHouse_7 ?_
  refine e_getR fl_X1_9 la_119 rfl dX1_nameHouse_8 ?_
  refine e_iconst dX1_nameHouse_11 rfl kc_1 ?_
  refine e_aload0 dX1_nameHouse_12 ?_
  refine e_getR fl_X1_18 la_119 rfl dX1_nameHouse_13 ?_
  refine e_getR fl_X1_58 la_1 rfl dX1_nameHouse_16 ?_
  refine e_iload1 dX1_nameHouse_19 ?_
  refine e_iald la_2 (⟨by omega, by omega⟩) dX1_nameHouse_20 ?_
  refine WW.ec (y := M 2 h.toNat) (by simp [up]) ?_
  refine e_iast la_120 (⟨by omega, by omega⟩) dX1_nameHouse_21 ?_
  refine e_aload0 dX1_nameHouse_22 ?_
  refine e_getR fl_X1_9 la_119 rfl dX1_nameHouse_23 ?_
  refine e_bipush dX1_nameHouse_26 rfl kb_6 ?_
  refine e_aload0 dX1_nameHouse_28 ?_
  refine e_getR fl_X1_18 la_119 rfl dX1_nameHouse_29 ?_
  refine e_getR fl_X1_61 la_1 rfl dX1_nameHouse_32 ?_
  refine e_iload1 dX1_nameHouse_35 ?_
  refine e_iald la_3 (⟨by omega, by omega⟩) dX1_nameHouse_36 ?_
  refine WW.ec (y := M 3 h.toNat) (by simp [up]) ?_
  refine e_iast la_120 (⟨by omega, by omega⟩) dX1_nameHouse_37 ?_
  refine e_aload0 dX1_nameHouse_38 ?_
  refine e_getR fl_X1_9 la_119 rfl dX1_nameHouse_39 ?_
  refine e_bipush dX1_nameHouse_42 rfl kb_7 ?_
  refine e_aload0 dX1_nameHouse_44 ?_
  refine e_getR fl_X1_18 la_119 rfl dX1_nameHouse_45 ?_
  refine e_getR fl_X1_64 la_1 rfl dX1_nameHouse_48 ?_
  refine e_iload1 dX1_nameHouse_51 ?_
  refine e_iald la_4 (⟨by omega, by omega⟩) dX1_nameHouse_52 ?_
  refine WW.ec (y := M 4 h.toNat) (by simp [up]) ?_
  refine e_iast la_120 (⟨by omega, by omega⟩) dX1_nameHouse_53 ?_
  refine e_vret dX1_nameHouse_54 ?_
  exact ⟨rfl, rfl⟩
end LAWS
