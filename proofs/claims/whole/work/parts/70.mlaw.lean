/-! THE MODEL'S LAW -/
abbrev enc (c o v : Int) : Prop := (c < 10000 ∧ o = 400 ∧ v = c) ∨ (10000 ≤ c ∧ c < 10008 ∧ o = 401 ∧ v = c - 10000) ∨ (c = 10012 ∧ o = 402) ∨ ((o = 43 ∨ o = 45 ∨ o = 42 ∨ o = 47) ∧ c = ofS o)
theorem ofS_r (o : Int) : 10008 ≤ ofS o ∧ ofS o ≤ 10011 := by
  unfold ofS
  split
  · omega
  · split
    · omega
    · split <;> omega
def ORD (O V : Nat → Int) : Nat → List Int → Prop
  | p, [] => p < 1600 ∧ O p = 408
  | p, c :: cs => p < 1600 ∧ enc c (O p) (V p) ∧ ORD O V (p + 1) cs
/-- the same but for the model's names and pile -/
def FM (M M1 : Mem) : Prop := ∀ o, o ≠ 156 → o ≠ 157 → M1 o = M o
theorem FM.rf (M : Mem) : FM M M := fun _ _ _ => rfl
theorem FM.tr {M M1 M2 : Mem} (h : FM M M1) (h2 : FM M1 M2) : FM M M2 := fun o a b => (h2 o a b).trans (h o a b)
theorem FM.up {M M1 : Mem} {o k : Nat} {v : Int} (h : FM M M1) (ho : o = 156 ∨ o = 157) : FM M (up M1 o k v) := fun q a b => by rw [up_row (by omega)]; exact h q a b
def stkP (M : Mem) : List Int → Prop
  | [] => True
  | x :: r => M 157 r.length = x ∧ stkP M r
theorem stkP_up {M : Mem} {k : Nat} {v : Int} : ∀ {st : List Int}, st.length ≤ k → stkP M st → stkP (up M 157 k v) st
  | [], _, _ => trivial
  | x :: r, h, q => ⟨by rw [up_k (by have : (x :: r).length = r.length + 1 := rfl; omega)]; exact q.1, stkP_up (by have : (x :: r).length = r.length + 1 := rfl; omega) q.2⟩
section MLAW
variable {l : Launch} {w : Wd} {d : Nat} {M : Mem} {Q : Option MV → Mem → Prop}
theorem so_loop (hd : 2 ≤ d) {M0 : Mem} (hn : ∀ k, k < 8 → bnd (M0 156 k)) {v p0 : Int} (hQ : ∀ M1, FM M0 M1 → M1 156 = M0 156 → Q (some (vL v)) M1) :
    ∀ (cs : List Int) (p : Nat) (st : List Int) (M1 : Mem) (x4 : Option MV), ORD (M0 144) (M0 145) p cs → FM M0 M1 → M1 156 = M0 156 → st.length ≤ 20 → stkP M1 st → (∀ z ∈ st, bnd z) → wfc cs st.length 1 → (rpn (M0 156) cs st).headD 0 = v →
      WM l w RX9 cX9_saysOf 5 (some .long) d Q 4 [some (vR 134), some (vI p0), some (vI (st.length : Int)), some (vI (p : Int)), x4] [] M1 := by
  intro cs
  induction cs with
  | nil =>
    intro p st M1 x4 hO hf h156 hh hs hb hw hv
    have hl : st.length = 1 := hw
    have e144 : M1 144 p = 408 := by rw [hf 144 (by decide) (by decide)]; exact hO.2
    have ep : M1 157 0 = v := by
      cases st with
      | nil => cases hl
      | cons x r =>
        cases r with
        | nil => exact hs.1.trans hv
        | cons y r => cases hl
    have hp := hO.1
    refine e_aload0 dX9_saysOf_4 ?_
    refine e_getR fl_X9_45 la_134 rfl dX9_saysOf_5 ?_
    refine e_iload3 dX9_saysOf_8 ?_
    refine e_ialdK (k := p) la_144 (by omega) (by omega) dX9_saysOf_9 ?_
    refine WW.ec (y := 408) (e144) ?_
    refine e_sipush dX9_saysOf_10 rfl ks_408 ?_
    refine e_icmp_eq (tgt := 146) dX9_saysOf_13 (by decide) (fun h13 => ?_) (fun h13 => ?_)
    · refine e_aload0 dX9_saysOf_146 ?_
      refine e_getR fl_X9_84 la_134 rfl dX9_saysOf_147 ?_
      refine e_iconst dX9_saysOf_150 rfl kc_0 ?_
      refine e_laldK (k := 0) la_157 (by decide) (rfl) dX9_saysOf_151 ?_
      refine e_lret dX9_saysOf_152 ?_
      rw [ep]; exact hQ M1 hf h156
    · omega
  | cons c cs ih =>
    intro p st M1 x4 hO hf h156 hh hs hb hw hv
    have hp := hO.1
    have e144 : M1 144 p = M0 144 p := by rw [hf 144 (by decide) (by decide)]
    have e145 : M1 145 p = M0 145 p := by rw [hf 145 (by decide) (by decide)]
    have hen := hO.2.1
    have hof := ofS_r (M0 144 p)
    have hlen := opS_len (nm := M0 156) hw
    have hbb := opS_b hn hw hb
    obtain ⟨c0, hw⟩ := hw
    have hv2 : (rpn (M0 156) cs (opS (M0 156) c st)).headD 0 = v := hv
    rcases hw with ⟨c1, c2, c3⟩ | ⟨c1, c2, c3⟩ | ⟨c1, c2, c3, c4⟩
    · have ho : opS (M0 156) c st = (if c < 10000 then c else M0 156 (c - 10000).toNat) :: st := by unfold opS; rw [if_pos c1]
      rw [ho] at hv2 hlen hbb
      by_cases q : c < 10000
      · have eo : M0 144 p = 400 ∧ M0 145 p = c := by omega
        rw [if_pos q] at hv2 hlen hbb
        have hx := ih (p + 1) (c :: st) (up M1 157 st.length c) (some (vI 400)) hO.2.2 (hf.up (Or.inr rfl)) ((up_row (by decide)).trans h156) (by simp at hh ⊢; omega) ⟨up_s _ _ _ _, stkP_up (Nat.le_refl _) hs⟩ hbb hlen hv2
        refine e_aload0 dX9_saysOf_4 ?_
        refine e_getR fl_X9_45 la_134 rfl dX9_saysOf_5 ?_
        refine e_iload3 dX9_saysOf_8 ?_
        refine e_ialdK (k := p) la_144 (by omega) (by omega) dX9_saysOf_9 ?_
        refine WW.ec (y := 400) (by rw [e144]; exact eo.1) ?_
        refine e_sipush dX9_saysOf_10 rfl ks_408 ?_
        refine e_icmp_eq (tgt := 146) dX9_saysOf_13 (by decide) (fun h => absurd h (by decide)) (fun h13 => ?_)
        refine e_aload0 dX9_saysOf_16 ?_
        refine e_getR fl_X9_45 la_134 rfl dX9_saysOf_17 ?_
        refine e_iload3 dX9_saysOf_20 ?_
        refine e_ialdK (k := p) la_144 (by omega) (by omega) dX9_saysOf_21 ?_
        refine WW.ec (y := 400) (by rw [e144]; exact eo.1) ?_
        refine e_istore4 dX9_saysOf_22 rfl ?_
        refine e_iload4 dX9_saysOf_24 ?_
        refine e_sipush dX9_saysOf_26 rfl ks_400 ?_
        refine e_icmp_eq (tgt := 40) dX9_saysOf_29 (by decide) (fun h29 => ?_) (fun h => absurd h (by decide))
        refine e_aload0 dX9_saysOf_40 ?_
        refine e_getR fl_X9_84 la_134 rfl dX9_saysOf_41 ?_
        refine e_iload2 dX9_saysOf_44 ?_
        refine e_iload4 dX9_saysOf_45 ?_
        refine e_sipush dX9_saysOf_47 rfl ks_400 ?_
        refine e_icmp_ne (tgt := 63) dX9_saysOf_50 (by decide) (fun h => absurd h (by decide)) (fun h50 => ?_)
        refine e_aload0 dX9_saysOf_53 ?_
        refine e_getR fl_X9_48 la_134 rfl dX9_saysOf_54 ?_
        refine e_iload3 dX9_saysOf_57 ?_
        refine e_ialdK (k := p) la_145 (by omega) (by omega) dX9_saysOf_58 ?_
        refine WW.ec (y := c) (by rw [e145]; exact eo.2) ?_
        refine e_i2l dX9_saysOf_59 ?_
        refine e_goto (tgt := 75) dX9_saysOf_60 (by decide) ?_
        refine e_lastK (k := st.length) la_157 (by omega) (by omega) dX9_saysOf_75 ?_
        refine e_iinc2 dX9_saysOf_76 rfl (⟨by omega, by omega⟩) rfl ?_
        refine e_goto (tgt := 140) dX9_saysOf_79 (by decide) ?_
        refine e_iinc3 dX9_saysOf_140 rfl (⟨by omega, by omega⟩) rfl ?_
        refine e_goto (tgt := 4) dX9_saysOf_143 (by decide) ?_
        exact hx
      · have eo : M0 144 p = 401 ∧ M0 145 p = c - 10000 := by omega
        rw [if_neg q] at hv2 hlen hbb
        have hx := ih (p + 1) (M0 156 (c - 10000).toNat :: st) (up M1 157 st.length (M0 156 (c - 10000).toNat)) (some (vI 401)) hO.2.2 (hf.up (Or.inr rfl)) ((up_row (by decide)).trans h156) (by simp at hh ⊢; omega) ⟨up_s _ _ _ _, stkP_up (Nat.le_refl _) hs⟩ hbb hlen hv2
        refine e_aload0 dX9_saysOf_4 ?_
        refine e_getR fl_X9_45 la_134 rfl dX9_saysOf_5 ?_
        refine e_iload3 dX9_saysOf_8 ?_
        refine e_ialdK (k := p) la_144 (by omega) (by omega) dX9_saysOf_9 ?_
        refine WW.ec (y := 401) (by rw [e144]; exact eo.1) ?_
        refine e_sipush dX9_saysOf_10 rfl ks_408 ?_
        refine e_icmp_eq (tgt := 146) dX9_saysOf_13 (by decide) (fun h => absurd h (by decide)) (fun h13 => ?_)
        refine e_aload0 dX9_saysOf_16 ?_
        refine e_getR fl_X9_45 la_134 rfl dX9_saysOf_17 ?_
        refine e_iload3 dX9_saysOf_20 ?_
        refine e_ialdK (k := p) la_144 (by omega) (by omega) dX9_saysOf_21 ?_
        refine WW.ec (y := 401) (by rw [e144]; exact eo.1) ?_
        refine e_istore4 dX9_saysOf_22 rfl ?_
        refine e_iload4 dX9_saysOf_24 ?_
        refine e_sipush dX9_saysOf_26 rfl ks_400 ?_
        refine e_icmp_eq (tgt := 40) dX9_saysOf_29 (by decide) (fun h => absurd h (by decide)) (fun h29 => ?_)
        refine e_iload4 dX9_saysOf_32 ?_
        refine e_sipush dX9_saysOf_34 rfl ks_401 ?_
        refine e_icmp_ne (tgt := 82) dX9_saysOf_37 (by decide) (fun h => absurd h (fun z => z rfl)) (fun h37 => ?_)
        refine e_aload0 dX9_saysOf_40 ?_
        refine e_getR fl_X9_84 la_134 rfl dX9_saysOf_41 ?_
        refine e_iload2 dX9_saysOf_44 ?_
        refine e_iload4 dX9_saysOf_45 ?_
        refine e_sipush dX9_saysOf_47 rfl ks_400 ?_
        refine e_icmp_ne (tgt := 63) dX9_saysOf_50 (by decide) (fun h50 => ?_) (fun h => absurd h (by decide))
        refine e_aload0 dX9_saysOf_63 ?_
        refine e_getR fl_X9_81 la_134 rfl dX9_saysOf_64 ?_
        refine e_aload0 dX9_saysOf_67 ?_
        refine e_getR fl_X9_48 la_134 rfl dX9_saysOf_68 ?_
        refine e_iload3 dX9_saysOf_71 ?_
        refine e_ialdK (k := p) la_145 (by omega) (by omega) dX9_saysOf_72 ?_
        refine WW.ec (y := c - 10000) (by rw [e145]; exact eo.2) ?_
        refine e_iald la_156 (⟨by omega, by omega⟩) dX9_saysOf_73 ?_
        refine WW.ec (y := M0 156 (c - 10000).toNat) (by rw [h156]) ?_
        refine e_i2l dX9_saysOf_74 ?_
        refine e_lastK (k := st.length) la_157 (by omega) (by omega) dX9_saysOf_75 ?_
        refine e_iinc2 dX9_saysOf_76 rfl (⟨by omega, by omega⟩) rfl ?_
        refine e_goto (tgt := 140) dX9_saysOf_79 (by decide) ?_
        refine e_iinc3 dX9_saysOf_140 rfl (⟨by omega, by omega⟩) rfl ?_
        refine e_goto (tgt := 4) dX9_saysOf_143 (by decide) ?_
        exact hx
    · subst c1
      have eo : M0 144 p = 402 := by omega
      cases st with
      | nil => exact absurd c2 (by simp)
      | cons x r =>
        have ho : opS (M0 156) 10012 (x :: r) = (-x) :: r := rfl
        rw [ho] at hv2 hlen hbb
        have hxb := hb x List.mem_cons_self
        unfold bnd at hxb
        have hr : (x :: r).length = r.length + 1 := rfl
        have hx := ih (p + 1) ((-x) :: r) (up M1 157 r.length (-x)) (some (vI 402)) hO.2.2 (hf.up (Or.inr rfl)) ((up_row (by decide)).trans h156) (by simp at hh ⊢; omega) ⟨up_s _ _ _ _, stkP_up (Nat.le_refl _) hs.2⟩ hbb hlen hv2
        rw [hr]
        refine e_aload0 dX9_saysOf_4 ?_
        refine e_getR fl_X9_45 la_134 rfl dX9_saysOf_5 ?_
        refine e_iload3 dX9_saysOf_8 ?_
        refine e_ialdK (k := p) la_144 (by omega) (by omega) dX9_saysOf_9 ?_
        refine WW.ec (y := 402) (by rw [e144]; exact eo) ?_
        refine e_sipush dX9_saysOf_10 rfl ks_408 ?_
        refine e_icmp_eq (tgt := 146) dX9_saysOf_13 (by decide) (fun h => absurd h (by decide)) (fun h13 => ?_)
        refine e_aload0 dX9_saysOf_16 ?_
        refine e_getR fl_X9_45 la_134 rfl dX9_saysOf_17 ?_
        refine e_iload3 dX9_saysOf_20 ?_
        refine e_ialdK (k := p) la_144 (by omega) (by omega) dX9_saysOf_21 ?_
        refine WW.ec (y := 402) (by rw [e144]; exact eo) ?_
        refine e_istore4 dX9_saysOf_22 rfl ?_
        refine e_iload4 dX9_saysOf_24 ?_
        refine e_sipush dX9_saysOf_26 rfl ks_400 ?_
        refine e_icmp_eq (tgt := 40) dX9_saysOf_29 (by decide) (fun h => absurd h (by decide)) (fun h29 => ?_)
        refine e_iload4 dX9_saysOf_32 ?_
        refine e_sipush dX9_saysOf_34 rfl ks_401 ?_
        refine e_icmp_ne (tgt := 82) dX9_saysOf_37 (by decide) (fun h37 => ?_) (fun h => absurd h (by decide))
        refine e_iload4 dX9_saysOf_82 ?_
        refine e_sipush dX9_saysOf_84 rfl ks_402 ?_
        refine e_icmp_ne (tgt := 110) dX9_saysOf_87 (by decide) (fun h => absurd h (fun z => z rfl)) (fun h87 => ?_)
        refine e_aload0 dX9_saysOf_90 ?_
        refine e_getR fl_X9_84 la_134 rfl dX9_saysOf_91 ?_
        refine e_iload2 dX9_saysOf_94 ?_
        refine e_iconst dX9_saysOf_95 rfl kc_1 ?_
        refine e_isub dX9_saysOf_96 (⟨by omega, by omega⟩) ?_
        refine e_aload0 dX9_saysOf_97 ?_
        refine e_getR fl_X9_84 la_134 rfl dX9_saysOf_98 ?_
        refine e_iload2 dX9_saysOf_101 ?_
        refine e_iconst dX9_saysOf_102 rfl kc_1 ?_
        refine e_isub dX9_saysOf_103 (⟨by omega, by omega⟩) ?_
        refine e_laldK (k := r.length) la_157 (by omega) (by omega) dX9_saysOf_104 ?_
        refine WW.el (y := x) hs.1 ?_
        refine e_lneg dX9_saysOf_105 (⟨by omega, by omega⟩) ?_
        refine e_lastK (k := r.length) la_157 (by omega) (by omega) dX9_saysOf_106 ?_
        refine e_goto (tgt := 140) dX9_saysOf_107 (by decide) ?_
        refine e_iinc3 dX9_saysOf_140 rfl (⟨by omega, by omega⟩) rfl ?_
        refine e_goto (tgt := 4) dX9_saysOf_143 (by decide) ?_
        exact hx
    · cases st with
      | nil => exact absurd c3 (by simp)
      | cons y r =>
        cases r with
        | nil => exact absurd c3 (by simp)
        | cons x r =>
          have eo : (M0 144 p = 43 ∨ M0 144 p = 45 ∨ M0 144 p = 42 ∨ M0 144 p = 47) ∧ c = ofS (M0 144 p) := by
            rcases hen with h | h | h | h
            · omega
            · omega
            · omega
            · exact h
          have ho : opS (M0 156) c (y :: x :: r) = comb c x y :: r := by unfold opS; rw [if_neg (by omega), if_neg (by omega)]
          rw [ho] at hv2 hlen hbb
          have hxb := hb x (List.mem_cons_of_mem _ List.mem_cons_self)
          have hyb := hb y List.mem_cons_self
          have hr : (y :: x :: r).length = r.length + 2 := rfl
          have hx := ih (p + 1) (comb c x y :: r) (up M1 157 r.length (comb c x y)) (some (vI (M0 144 p))) hO.2.2 (hf.up (Or.inr rfl)) ((up_row (by decide)).trans h156) (by simp at hh ⊢; omega) ⟨up_s _ _ _ _, stkP_up (Nat.le_refl _) hs.2.2⟩ hbb hlen hv2
          have hs1 : M1 157 (r.length + 1) = y := hs.1
          have hs2 : M1 157 r.length = x := hs.2.1
          have hcall := ct_X9_worked (l := l) (w := w) (d := d - 1) (M := M1) (by omega) eo.1 hxb hyb
          rw [← eo.2] at hcall
          rw [hr]
          refine e_aload0 dX9_saysOf_4 ?_
          refine e_getR fl_X9_45 la_134 rfl dX9_saysOf_5 ?_
          refine e_iload3 dX9_saysOf_8 ?_
          refine e_ialdK (k := p) la_144 (by omega) (by omega) dX9_saysOf_9 ?_
          refine WW.ec (y := M0 144 p) (e144) ?_
          refine e_sipush dX9_saysOf_10 rfl ks_408 ?_
          refine e_icmp_eq (tgt := 146) dX9_saysOf_13 (by decide) (fun h => absurd h (by omega)) (fun h13 => ?_)
          refine e_aload0 dX9_saysOf_16 ?_
          refine e_getR fl_X9_45 la_134 rfl dX9_saysOf_17 ?_
          refine e_iload3 dX9_saysOf_20 ?_
          refine e_ialdK (k := p) la_144 (by omega) (by omega) dX9_saysOf_21 ?_
          refine WW.ec (y := M0 144 p) (e144) ?_
          refine e_istore4 dX9_saysOf_22 rfl ?_
          refine e_iload4 dX9_saysOf_24 ?_
          refine e_sipush dX9_saysOf_26 rfl ks_400 ?_
          refine e_icmp_eq (tgt := 40) dX9_saysOf_29 (by decide) (fun h => absurd h (by omega)) (fun h29 => ?_)
          refine e_iload4 dX9_saysOf_32 ?_
          refine e_sipush dX9_saysOf_34 rfl ks_401 ?_
          refine e_icmp_ne (tgt := 82) dX9_saysOf_37 (by decide) (fun h37 => ?_) (fun h => absurd h (by omega))
          refine e_iload4 dX9_saysOf_82 ?_
          refine e_sipush dX9_saysOf_84 rfl ks_402 ?_
          refine e_icmp_ne (tgt := 110) dX9_saysOf_87 (by decide) (fun h87 => ?_) (fun h => absurd h (by omega))
          refine e_iinc2 dX9_saysOf_110 rfl (⟨by omega, by omega⟩) rfl ?_
          refine e_aload0 dX9_saysOf_113 ?_
          refine e_getR fl_X9_84 la_134 rfl dX9_saysOf_114 ?_
          refine e_iload2 dX9_saysOf_117 ?_
          refine e_iconst dX9_saysOf_118 rfl kc_1 ?_
          refine e_isub dX9_saysOf_119 (⟨by omega, by omega⟩) ?_
          refine e_iload4 dX9_saysOf_120 ?_
          refine e_aload0 dX9_saysOf_122 ?_
          refine e_getR fl_X9_84 la_134 rfl dX9_saysOf_123 ?_
          refine e_iload2 dX9_saysOf_126 ?_
          refine e_iconst dX9_saysOf_127 rfl kc_1 ?_
          refine e_isub dX9_saysOf_128 (⟨by omega, by omega⟩) ?_
          refine e_laldK (k := r.length) la_157 (by omega) (by omega) dX9_saysOf_129 ?_
          refine WW.el (y := x) hs2 ?_
          refine e_aload0 dX9_saysOf_130 ?_
          refine e_getR fl_X9_84 la_134 rfl dX9_saysOf_131 ?_
          refine e_iload2 dX9_saysOf_134 ?_
          refine e_laldK (k := r.length + 1) la_157 (by omega) (by omega) dX9_saysOf_135 ?_
          refine WW.el (y := y) hs1 ?_
          refine e_cSL (hcall) cy_X9_worked cs_X9_worked ml_X9_292 rfl rfl (rok (by omega) (by decide)) (Nat.le_of_ble_eq_true rfl) dX9_saysOf_136 ?_
          refine e_lastK (k := r.length) la_157 (by omega) (by omega) dX9_saysOf_139 ?_
          refine e_iinc3 dX9_saysOf_140 rfl (⟨by omega, by omega⟩) rfl ?_
          refine e_goto (tgt := 4) dX9_saysOf_143 (by decide) ?_
          rw [show (((r.length + 2 : Nat) : Int) + -1) = ((r.length + 1 : Nat) : Int) by omega]
          exact hx
theorem ct_X9_saysOf (hd : 2 ≤ d) {p : Nat} {cs : List Int} (hO : ORD (M 144) (M 145) p cs) (hw : wfc cs 0 1) (hn : ∀ k, k < 8 → bnd (M 156 k)) : GL l w yX9_saysOf cX9_saysOf 5 d [vR 134, vI (p : Int)] M (fun x M1 => x = (rpn (M 156) cs []).headD 0 ∧ FM M M1 ∧ M1 156 = M 156) := by
  have h := so_loop (l := l) (w := w) (d := d) (Q := fun r M1 => ∃ x, r = some (vL x) ∧ x = (rpn (M 156) cs []).headD 0 ∧ FM M M1 ∧ M1 156 = M 156) hd hn (p0 := p) (fun M1 a b => ⟨_, rfl, rfl, a, b⟩) cs p [] M none hO (FM.rf M) rfl (by decide) trivial (fun z hz => by cases hz) hw rfl
  refine MT.of [some (vR 134), some (vI (p : Int)), none, none, none] ⟨by decide, rfl⟩ rfl (Nat.le_of_ble_eq_true rfl) (fun hA hM => ?_)
  refine e_iconst dX9_saysOf_0 rfl kc_0 ?_
  refine e_istore2 dX9_saysOf_1 rfl ?_
  refine e_iload1 dX9_saysOf_2 ?_
  refine e_istore3 dX9_saysOf_3 rfl ?_
  exact h
end MLAW
