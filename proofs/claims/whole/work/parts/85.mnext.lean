/-! THE MODEL'S TOKENS -/
/-- the model's tape is the class's bytes, signed -/
def TPE (T B : Nat → Int) (L : Nat) : Prop := ∀ i, i < L → (0 ≤ B i ∧ B i ≤ 255) ∧ ((B i < 128 ∧ T i = B i) ∨ (128 ≤ B i ∧ T i = B i - 256))
def TKR (k v s u : Int) : Prop := (k = 0 ∧ s = 0) ∨ (k = 1 ∧ s = 2 ∧ ((v < 10000 ∧ u = v) ∨ (v = 10000 ∧ 10000 ≤ u))) ∨ (k = 2 ∧ ((0 ≤ v ∧ s = 1 ∧ u = v) ∨ (v = -1 ∧ s = 4))) ∨ (isSg k ∧ s = 3 ∧ u = k) ∨ (k = 3 ∧ (s = 4 ∨ (s = 3 ∧ ¬ isSg u)))
abbrev NV (v u : Int) : Prop := (v < 10000 ∧ u = v) ∨ (v = 10000 ∧ 10000 ≤ u)
def NX (B : Nat → Int) (L : Nat) (M : Mem) (t : Nat) : Prop := ∃ a n : Nat, M 134 15 = a ∧ a ≤ L ∧ L ≤ n + a ∧ (tks B L).drop t = LX B L n a
def CT (B : Nat → Int) (L : Nat) (M : Mem) (t : Nat) : Prop := M 134 16 = tkP B L t ∧ TKR (tkK B L t) (tkV B L t) (M 134 17) (M 134 18) ∧ (tkK B L t ≠ 0 → tkK B L t ≠ 3 → NX B L M (t + 1))
/-- the same but for the reader's place -/
def FN (M M1 : Mem) : Prop := (∀ o, o ≠ 134 → M1 o = M o) ∧ ∀ k, k < 15 ∨ 18 < k → M1 134 k = M 134 k
theorem FN.rf (M : Mem) : FN M M := ⟨fun _ _ => rfl, fun _ _ => rfl⟩
theorem FN.tr {M M1 M2 : Mem} (h : FN M M1) (h2 : FN M1 M2) : FN M M2 := ⟨fun o a => (h2.1 o a).trans (h.1 o a), fun k a => (h2.2 k a).trans (h.2 k a)⟩
theorem FN.up {M M1 : Mem} {k : Nat} {v : Int} (h : FN M M1) (hk : 15 ≤ k ∧ k ≤ 18) : FN M (up M1 134 k v) := ⟨fun o a => by rw [up_row a]; exact h.1 o a, fun q a => by rw [up_k (by omega)]; exact h.2 q a⟩
theorem tk_drop {B : Nat → Int} {L t : Nat} {x : Int × Nat × Int} {rest : List (Int × Nat × Int)} (h : (tks B L).drop t = x :: rest) : tkA B L t = x ∧ (tks B L).drop (t + 1) = rest := by
  have h1 : (tks B L)[t]? = some x := by
    have := List.getElem?_drop (xs := tks B L) (i := t) (j := 0)
    rw [h, Nat.add_zero] at this
    exact this.symm
  refine ⟨by unfold tkA; rw [h1]; rfl, ?_⟩
  rw [← List.drop_drop, h]
  rfl
theorem LX_end {B : Nat → Int} {L n a : Nat} (h : L ≤ a) : LX B L n a = [(0, L, 0)] := by
  cases n with
  | zero => rfl
  | succ n =>
    unfold LX
    rw [if_neg (by omega)]
section MNEXT0
variable {l : Launch} {w : Wd} {d : Nat} {M : Mem}
theorem ct_X9_isLetter (hd : 1 ≤ d) {x : Int} : PZ l w yX9_isLetter cX9_isLetter 1 d [vI x] M (isLt x) := by
  refine MT.of [some (vI x)] ⟨by decide, rfl⟩ rfl (Nat.le_of_ble_eq_true rfl) (fun hA hM => ?_)
  refine e_iload0 dX9_isLetter_0 ?_
  refine e_bipush dX9_isLetter_1 rfl kb_97 ?_
  refine e_bipush dX9_isLetter_3 rfl kb_122 ?_
  refine e_cSZ (ct_X9_in (d := d - 1)) cy_X9_in cs_X9_in ml_X9_120 rfl rfl (rok (by omega) (by decide)) (Nat.le_of_ble_eq_true rfl) dX9_isLetter_5 (fun g5 => ?_) (fun g5 => ?_)
  · refine e_if_ne (tgt := 22) dX9_isLetter_8 (by decide) (fun _ => ?_) (fun h => absurd h (by decide))
    refine e_iconst dX9_isLetter_22 rfl kc_1 ?_
    refine e_goto (tgt := 27) dX9_isLetter_23 (by decide) ?_
    refine e_zret dX9_isLetter_27 (by decide) ?_
    exact ⟨rfl, Or.inl ⟨rfl, by omega⟩⟩
  · refine e_if_ne (tgt := 22) dX9_isLetter_8 (by decide) (fun h => absurd h (by decide)) (fun _ => ?_)
    refine e_iload0 dX9_isLetter_11 ?_
    refine e_bipush dX9_isLetter_12 rfl kb_65 ?_
    refine e_bipush dX9_isLetter_14 rfl kb_90 ?_
    refine e_cSZ (ct_X9_in (d := d - 1)) cy_X9_in cs_X9_in ml_X9_120 rfl rfl (rok (by omega) (by decide)) (Nat.le_of_ble_eq_true rfl) dX9_isLetter_16 (fun g16 => ?_) (fun g16 => ?_)
    · refine e_if_eq (tgt := 26) dX9_isLetter_19 (by decide) (fun h => absurd h (by decide)) (fun _ => ?_)
      refine e_iconst dX9_isLetter_22 rfl kc_1 ?_
      refine e_goto (tgt := 27) dX9_isLetter_23 (by decide) ?_
      refine e_zret dX9_isLetter_27 (by decide) ?_
      exact ⟨rfl, Or.inl ⟨rfl, by omega⟩⟩
    · refine e_if_eq (tgt := 26) dX9_isLetter_19 (by decide) (fun _ => ?_) (fun h => absurd h (by decide))
      refine e_iconst dX9_isLetter_26 rfl kc_0 ?_
      refine e_zret dX9_isLetter_27 (by decide) ?_
      exact ⟨rfl, Or.inr ⟨rfl, by omega⟩⟩
end MNEXT0
section MNEXT
variable {l : Launch} {w : Wd} {d : Nat} {M : Mem} {Q : Option MV → Mem → Prop} {B : Nat → Int} {L t : Nat}
/-- letters -/
theorem nl_loop {f : Nat} {x : Int} (hd : 3 ≤ d) (hL : L ≤ 300) (hT : TPE (M 137) B L) (h14 : M 134 14 = L)
    (hQ : ∀ (N : Mem) (j : Nat) (v : Int), FN M N → N 134 15 = ((f + j : Nat) : Int) → N 134 16 = M 134 16 → f + j = ltE B L L f → (∀ i, i < j → isLt (B (f + i))) → (j ≤ 8 → v = en B f j) → WM l w RX9 cX9_next 5 none d Q 173 [some (vR 134), some (vI x), some (vL v), none, some (vI (j : Int))] [] N) :
    ∀ (q j : Nat) (N : Mem) (v : Int), f + j ≤ L → L ≤ q + (f + j) → ltE B L q (f + j) = ltE B L L f → FN M N → N 134 15 = ((f + j : Nat) : Int) → N 134 16 = M 134 16 → (∀ i, i < j → isLt (B (f + i))) → (j ≤ 8 → v = en B f j) → (0 ≤ v ∧ v ≤ 281474976710656) → WM l w RX9 cX9_next 5 none d Q 99 [some (vR 134), some (vI x), some (vL v), none, some (vI (j : Int))] [] N
  | 0, j, N, v, h1, h2, he, hf, h15, h16, hl, hv, hb => by
    have hq := hQ N j v hf h15 h16 (by rw [← he]; rfl) hl hv
    have e14 : N 134 14 = (L : Int) := by rw [hf.2 14 (by decide)]; exact h14
    refine e_aload0 dX9_next_99 ?_
    refine e_getI fl_X9_171 la_134 rfl dX9_next_100 ?_
    refine WW.ec (y := ((f + j : Nat) : Int)) (h15) ?_
    refine e_aload0 dX9_next_103 ?_
    refine e_getI fl_X9_174 la_134 rfl dX9_next_104 ?_
    refine WW.ec (y := (L : Int)) (e14) ?_
    refine e_icmp_ge (tgt := 173) dX9_next_107 (by decide) (fun h107 => ?_) (fun h107 => ?_)
    · exact hq
    · omega
  | q + 1, j, N, v, h1, h2, he, hf, h15, h16, hl, hv, hb => by
    have e14 : N 134 14 = (L : Int) := by rw [hf.2 14 (by decide)]; exact h14
    have e137 : N 137 = M 137 := hf.1 137 (by decide)
    rw [show ltE B L (q + 1) (f + j) = if f + j < L ∧ isLt (B (f + j)) then ltE B L q (f + j + 1) else f + j from rfl] at he
    have stopQ : ¬ (f + j < L ∧ isLt (B (f + j))) → WM l w RX9 cX9_next 5 none d Q 173 [some (vR 134), some (vI x), some (vL v), none, some (vI (j : Int))] [] N := by
      intro z
      rw [if_neg z] at he
      exact hQ N j v hf h15 h16 he hl hv
    by_cases hlt : f + j < L
    · have ht := hT (f + j) hlt
      by_cases hle : isLt (B (f + j))
      · rw [if_pos ⟨hlt, hle⟩] at he
        have et : N 137 (f + j) = B (f + j) := by rw [e137]; omega
        have hnl : ∀ i, i < j + 1 → isLt (B (f + i)) := fun i hi => by
          rcases Nat.lt_succ_iff_lt_or_eq.mp hi with z | z
          · exact hl i z
          · rw [z]; exact hle
        have go : ∀ v2 : Int, (j + 1 ≤ 8 → v2 = en B f (j + 1)) → (0 ≤ v2 ∧ v2 ≤ 281474976710656) → WM l w RX9 cX9_next 5 none d Q 99 [some (vR 134), some (vI x), some (vL v2), none, some (vI ((j + 1 : Nat) : Int))] [] (up N 134 15 (((f + j : Nat) : Int) + 1)) := fun v2 a b => nl_loop hd hL hT h14 hQ q (j + 1) _ v2 (by omega) (by omega) he (hf.up (by decide)) (by rw [up_s]; omega) (by rw [up_k (by decide)]; exact h16) hnl a b
        by_cases j8 : j < 8
        · have ev := hv (by omega)
          have hb1 := en_b (B := B) (f := f) (j + 1) (fun i hi => by have := hnl i hi; omega)
          have hp : (64 : Int) ^ (j + 1) ≤ 281474976710656 := by
            rcases (show j = 0 ∨ j = 1 ∨ j = 2 ∨ j = 3 ∨ j = 4 ∨ j = 5 ∨ j = 6 ∨ j = 7 by omega) with z | z | z | z | z | z | z | z <;> subst z <;> decide
          have e1 : en B f (j + 1) = 64 * v + B (f + j) - 64 := by rw [ev]; rfl
          have hgo := go (64 * v + B (f + j) - 64) (fun _ => e1.symm) (by rw [← e1]; omega)
          refine e_aload0 dX9_next_99 ?_
          refine e_getI fl_X9_171 la_134 rfl dX9_next_100 ?_
          refine WW.ec (y := ((f + j : Nat) : Int)) (h15) ?_
          refine e_aload0 dX9_next_103 ?_
          refine e_getI fl_X9_174 la_134 rfl dX9_next_104 ?_
          refine WW.ec (y := (L : Int)) (e14) ?_
          refine e_icmp_ge (tgt := 173) dX9_next_107 (by decide) (fun h107 => ?_) (fun h107 => ?_)
          · first | (exfalso; omega) | exact absurd hle g119
          · refine e_aload0 dX9_next_110 ?_
            refine e_getR fl_X9_16 la_134 rfl dX9_next_111 ?_
            refine e_aload0 dX9_next_114 ?_
            refine e_getI fl_X9_171 la_134 rfl dX9_next_115 ?_
            refine WW.ec (y := ((f + j : Nat) : Int)) (h15) ?_
            refine e_baldK (k := f + j) la_137 (by omega) (by omega) dX9_next_118 ?_
            refine WW.ec (y := B (f + j)) (et) ?_
            refine e_cSZ (ct_X9_isLetter (d := d - 1) (by omega)) cy_X9_isLetter cs_X9_isLetter ml_X9_183 rfl rfl (rok (by omega) (by decide)) (Nat.le_of_ble_eq_true rfl) dX9_next_119 (fun g119 => ?_) (fun g119 => ?_)
            · refine e_if_eq (tgt := 173) dX9_next_122 (by decide) (fun h => absurd h (by decide)) (fun _ => ?_)
              refine e_iload4 dX9_next_125 ?_
              refine e_bipush dX9_next_127 rfl kb_8 ?_
              refine e_icmp_ge (tgt := 155) dX9_next_129 (by decide) (fun h => absurd h (by omega)) (fun h129 => ?_)
              refine e_ldc2 dX9_next_132 kl_X9_187 ⟨by decide, by decide⟩ ?_
              refine e_lload2 dX9_next_135 ?_
              refine e_lmul dX9_next_136 (⟨by omega, by omega⟩) ?_
              refine e_aload0 dX9_next_137 ?_
              refine e_getR fl_X9_16 la_134 rfl dX9_next_138 ?_
              refine e_aload0 dX9_next_141 ?_
              refine e_getI fl_X9_171 la_134 rfl dX9_next_142 ?_
              refine WW.ec (y := ((f + j : Nat) : Int)) (h15) ?_
              refine e_baldK (k := f + j) la_137 (by omega) (by omega) dX9_next_145 ?_
              refine WW.ec (y := B (f + j)) (et) ?_
              refine e_i2l dX9_next_146 ?_
              refine e_ladd dX9_next_147 (⟨by omega, by omega⟩) ?_
              refine e_ldc2 dX9_next_148 kl_X9_187 ⟨by decide, by decide⟩ ?_
              refine e_lsub dX9_next_151 (⟨by omega, by omega⟩) ?_
              refine e_goto (tgt := 156) dX9_next_152 (by decide) ?_
              refine e_lstore2 dX9_next_156 rfl ?_
              refine e_iinc4 dX9_next_157 rfl (⟨by omega, by omega⟩) rfl ?_
              refine e_aload0 dX9_next_160 ?_
              refine e_dup dX9_next_161 rfl ?_
              refine e_getI fl_X9_171 la_134 rfl dX9_next_162 ?_
              refine WW.ec (y := ((f + j : Nat) : Int)) (h15) ?_
              refine e_iconst dX9_next_165 rfl kc_1 ?_
              refine e_iadd dX9_next_166 (⟨by omega, by omega⟩) ?_
              refine e_putI fp_X9_171 la_134 rfl dX9_next_167 ?_
              refine e_goto (tgt := 99) dX9_next_170 (by decide) ?_
              exact hgo
            · refine e_if_eq (tgt := 173) dX9_next_122 (by decide) (fun _ => ?_) (fun h => absurd h (by decide))
              first | (exfalso; omega) | exact absurd hle g119
        · have hgo := go v (fun z => by omega) hb
          refine e_aload0 dX9_next_99 ?_
          refine e_getI fl_X9_171 la_134 rfl dX9_next_100 ?_
          refine WW.ec (y := ((f + j : Nat) : Int)) (h15) ?_
          refine e_aload0 dX9_next_103 ?_
          refine e_getI fl_X9_174 la_134 rfl dX9_next_104 ?_
          refine WW.ec (y := (L : Int)) (e14) ?_
          refine e_icmp_ge (tgt := 173) dX9_next_107 (by decide) (fun h107 => ?_) (fun h107 => ?_)
          · first | (exfalso; omega) | exact absurd hle g119
          · refine e_aload0 dX9_next_110 ?_
            refine e_getR fl_X9_16 la_134 rfl dX9_next_111 ?_
            refine e_aload0 dX9_next_114 ?_
            refine e_getI fl_X9_171 la_134 rfl dX9_next_115 ?_
            refine WW.ec (y := ((f + j : Nat) : Int)) (h15) ?_
            refine e_baldK (k := f + j) la_137 (by omega) (by omega) dX9_next_118 ?_
            refine WW.ec (y := B (f + j)) (et) ?_
            refine e_cSZ (ct_X9_isLetter (d := d - 1) (by omega)) cy_X9_isLetter cs_X9_isLetter ml_X9_183 rfl rfl (rok (by omega) (by decide)) (Nat.le_of_ble_eq_true rfl) dX9_next_119 (fun g119 => ?_) (fun g119 => ?_)
            · refine e_if_eq (tgt := 173) dX9_next_122 (by decide) (fun h => absurd h (by decide)) (fun _ => ?_)
              refine e_iload4 dX9_next_125 ?_
              refine e_bipush dX9_next_127 rfl kb_8 ?_
              refine e_icmp_ge (tgt := 155) dX9_next_129 (by decide) (fun h129 => ?_) (fun h => absurd h (by omega))
              refine e_lload2 dX9_next_155 ?_
              refine e_lstore2 dX9_next_156 rfl ?_
              refine e_iinc4 dX9_next_157 rfl (⟨by omega, by omega⟩) rfl ?_
              refine e_aload0 dX9_next_160 ?_
              refine e_dup dX9_next_161 rfl ?_
              refine e_getI fl_X9_171 la_134 rfl dX9_next_162 ?_
              refine WW.ec (y := ((f + j : Nat) : Int)) (h15) ?_
              refine e_iconst dX9_next_165 rfl kc_1 ?_
              refine e_iadd dX9_next_166 (⟨by omega, by omega⟩) ?_
              refine e_putI fp_X9_171 la_134 rfl dX9_next_167 ?_
              refine e_goto (tgt := 99) dX9_next_170 (by decide) ?_
              exact hgo
            · refine e_if_eq (tgt := 173) dX9_next_122 (by decide) (fun _ => ?_) (fun h => absurd h (by decide))
              first | (exfalso; omega) | exact absurd hle g119
      · have hs := stopQ (fun z => hle z.2)
        have et : N 137 (f + j) = M 137 (f + j) := by rw [e137]
        refine e_aload0 dX9_next_99 ?_
        refine e_getI fl_X9_171 la_134 rfl dX9_next_100 ?_
        refine WW.ec (y := ((f + j : Nat) : Int)) (h15) ?_
        refine e_aload0 dX9_next_103 ?_
        refine e_getI fl_X9_174 la_134 rfl dX9_next_104 ?_
        refine WW.ec (y := (L : Int)) (e14) ?_
        refine e_icmp_ge (tgt := 173) dX9_next_107 (by decide) (fun h107 => ?_) (fun h107 => ?_)
        · exact hs
        · refine e_aload0 dX9_next_110 ?_
          refine e_getR fl_X9_16 la_134 rfl dX9_next_111 ?_
          refine e_aload0 dX9_next_114 ?_
          refine e_getI fl_X9_171 la_134 rfl dX9_next_115 ?_
          refine WW.ec (y := ((f + j : Nat) : Int)) (h15) ?_
          refine e_baldK (k := f + j) la_137 (by omega) (by omega) dX9_next_118 ?_
          refine WW.ec (y := M 137 (f + j)) (et) ?_
          refine e_cSZ (ct_X9_isLetter (d := d - 1) (by omega)) cy_X9_isLetter cs_X9_isLetter ml_X9_183 rfl rfl (rok (by omega) (by decide)) (Nat.le_of_ble_eq_true rfl) dX9_next_119 (fun g119 => ?_) (fun g119 => ?_)
          · refine e_if_eq (tgt := 173) dX9_next_122 (by decide) (fun h => absurd h (by decide)) (fun _ => ?_)
            exfalso; omega
          · refine e_if_eq (tgt := 173) dX9_next_122 (by decide) (fun _ => ?_) (fun h => absurd h (by decide))
            exact hs
    · have hs := stopQ (fun z => hlt z.1)
      refine e_aload0 dX9_next_99 ?_
      refine e_getI fl_X9_171 la_134 rfl dX9_next_100 ?_
      refine WW.ec (y := ((f + j : Nat) : Int)) (h15) ?_
      refine e_aload0 dX9_next_103 ?_
      refine e_getI fl_X9_174 la_134 rfl dX9_next_104 ?_
      refine WW.ec (y := (L : Int)) (e14) ?_
      refine e_icmp_ge (tgt := 173) dX9_next_107 (by decide) (fun h107 => ?_) (fun h107 => ?_)
      · exact hs
      · omega
/-- digits -/
theorem nd_loop {x : Int} {f : Nat} (hd : 2 ≤ d) (hL : L ≤ 300) (hT : TPE (M 137) B L) (h14 : M 134 14 = L)
    (hQ : ∀ (N : Mem) (a : Nat) (u : Int), FN M N → N 134 15 = a → N 134 16 = M 134 16 → N 134 17 = 2 → N 134 18 = u → a = dgE B L L f → NV (dgV B L L f 0) u → Q none N) :
    ∀ (q a : Nat) (N : Mem) (v u : Int), a ≤ L → L ≤ q + a → dgE B L q a = dgE B L L f → dgV B L q a v = dgV B L L f 0 → FN M N → N 134 15 = a → N 134 16 = M 134 16 → N 134 17 = 2 → N 134 18 = u → (0 ≤ v ∧ v ≤ 10000) → NV v u → u ≤ 999999 → WM l w RX9 cX9_next 5 none d Q 232 [some (vR 134), some (vI x), none, none, none] [] N
  | 0, a, N, v, u, h1, h2, he, hev, hf, h15, h16, h17, h18, hv, hr, hu => by
    have hq := hQ N a u hf h15 h16 h17 h18 he (by rw [← hev]; exact hr)
    have e14 : N 134 14 = (L : Int) := by rw [hf.2 14 (by decide)]; exact h14
    refine e_aload0 dX9_next_232 ?_
    refine e_getI fl_X9_171 la_134 rfl dX9_next_233 ?_
    refine WW.ec (y := (a : Int)) (h15) ?_
    refine e_aload0 dX9_next_236 ?_
    refine e_getI fl_X9_174 la_134 rfl dX9_next_237 ?_
    refine WW.ec (y := (L : Int)) (e14) ?_
    refine e_icmp_ge (tgt := 439) dX9_next_240 (by decide) (fun h240 => ?_) (fun h240 => ?_)
    · refine e_vret dX9_next_439 ?_
      exact hq
    · omega
  | q + 1, a, N, v, u, h1, h2, he, hev, hf, h15, h16, h17, h18, hv, hr, hu => by
    have e14 : N 134 14 = (L : Int) := by rw [hf.2 14 (by decide)]; exact h14
    have e137 : N 137 = M 137 := hf.1 137 (by decide)
    rw [show dgE B L (q + 1) a = if a < L ∧ isDg (B a) then dgE B L q (a + 1) else a from rfl] at he
    rw [show dgV B L (q + 1) a v = if a < L ∧ isDg (B a) then dgV B L q (a + 1) (min 10000 (v * 10 + B a - 48)) else v from rfl] at hev
    have stopQ : ¬ (a < L ∧ isDg (B a)) → Q none N := by
      intro z
      rw [if_neg z] at he hev
      exact hQ N a u hf h15 h16 h17 h18 he (by rw [← hev]; exact hr)
    by_cases hlt : a < L
    · have ht := hT a hlt
      have et : N 137 a = M 137 a := by rw [e137]
      by_cases hdg : isDg (B a)
      · rw [if_pos ⟨hlt, hdg⟩] at he hev
        have et2 : M 137 a = B a := by omega
        clear ht
        have go : ∀ u2 : Int, NV (min 10000 (v * 10 + B a - 48)) u2 → u2 ≤ 999999 → WM l w RX9 cX9_next 5 none d Q 232 [some (vR 134), some (vI x), none, none, none] [] (up (up N 134 18 u2) 134 15 ((a : Int) + 1)) := fun u2 p1 p2 => nd_loop hd hL hT h14 hQ q (a + 1) _ _ u2 (by omega) (by omega) he hev ((hf.up (by decide)).up (by decide)) (by rw [up_s]; omega) (by rw [up_k (by decide), up_k (by decide)]; exact h16) (by rw [up_k (by decide), up_k (by decide)]; exact h17) (by rw [up_k (by decide), up_s]) (by omega) p1 p2
        by_cases big : 99999 < u
        · have hgo := go u (by omega) hu
          refine e_aload0 dX9_next_232 ?_
          refine e_getI fl_X9_171 la_134 rfl dX9_next_233 ?_
          refine WW.ec (y := (a : Int)) (h15) ?_
          refine e_aload0 dX9_next_236 ?_
          refine e_getI fl_X9_174 la_134 rfl dX9_next_237 ?_
          refine WW.ec (y := (L : Int)) (e14) ?_
          refine e_icmp_ge (tgt := 439) dX9_next_240 (by decide) (fun h240 => ?_) (fun h240 => ?_)
          · refine e_vret dX9_next_439 ?_
            first | (exfalso; omega) | exact absurd hdg g256
          · refine e_aload0 dX9_next_243 ?_
            refine e_getR fl_X9_16 la_134 rfl dX9_next_244 ?_
            refine e_aload0 dX9_next_247 ?_
            refine e_getI fl_X9_171 la_134 rfl dX9_next_248 ?_
            refine WW.ec (y := (a : Int)) (h15) ?_
            refine e_baldK (k := a) la_137 (by omega) (by omega) dX9_next_251 ?_
            refine WW.ec (y := B a) (by rw [et, et2]) ?_
            refine e_bipush dX9_next_252 rfl kb_48 ?_
            refine e_bipush dX9_next_254 rfl kb_57 ?_
            refine e_cSZ (ct_X9_in (d := d - 1)) cy_X9_in cs_X9_in ml_X9_120 rfl rfl (rok (by omega) (by decide)) (Nat.le_of_ble_eq_true rfl) dX9_next_256 (fun g256 => ?_) (fun g256 => ?_)
            · refine e_if_eq (tgt := 439) dX9_next_259 (by decide) (fun h => absurd h (by decide)) (fun _ => ?_)
              refine e_aload0 dX9_next_262 ?_
              refine e_aload0 dX9_next_263 ?_
              refine e_getI fl_X9_193 la_134 rfl dX9_next_264 ?_
              refine WW.ec (y := u) (h18) ?_
              refine e_ldc dX9_next_267 ki_X9_196 ⟨by decide, by decide⟩ ?_
              refine e_icmp_le (tgt := 279) dX9_next_269 (by decide) (fun h => absurd h (by omega)) (fun h269 => ?_)
              refine e_aload0 dX9_next_272 ?_
              refine e_getI fl_X9_193 la_134 rfl dX9_next_273 ?_
              refine WW.ec (y := u) (h18) ?_
              refine e_goto (tgt := 299) dX9_next_276 (by decide) ?_
              refine e_putI fp_X9_193 la_134 rfl dX9_next_299 ?_
              refine e_aload0 dX9_next_302 ?_
              refine e_dup dX9_next_303 rfl ?_
              refine e_getI fl_X9_171 la_134 rfl dX9_next_304 ?_
              refine WW.ec (y := (a : Int)) (by rw [up_k (by decide)]; exact h15) ?_
              refine e_iconst dX9_next_307 rfl kc_1 ?_
              refine e_iadd dX9_next_308 (⟨by omega, by omega⟩) ?_
              refine e_putI fp_X9_171 la_134 rfl dX9_next_309 ?_
              refine e_goto (tgt := 232) dX9_next_312 (by decide) ?_
              exact hgo
            · refine e_if_eq (tgt := 439) dX9_next_259 (by decide) (fun _ => ?_) (fun h => absurd h (by decide))
              refine e_vret dX9_next_439 ?_
              first | (exfalso; omega) | exact absurd hdg g256
        · have hgo := go (10 * u + B a - 48) (by omega) (by omega)
          refine e_aload0 dX9_next_232 ?_
          refine e_getI fl_X9_171 la_134 rfl dX9_next_233 ?_
          refine WW.ec (y := (a : Int)) (h15) ?_
          refine e_aload0 dX9_next_236 ?_
          refine e_getI fl_X9_174 la_134 rfl dX9_next_237 ?_
          refine WW.ec (y := (L : Int)) (e14) ?_
          refine e_icmp_ge (tgt := 439) dX9_next_240 (by decide) (fun h240 => ?_) (fun h240 => ?_)
          · refine e_vret dX9_next_439 ?_
            first | (exfalso; omega) | exact absurd hdg g256
          · refine e_aload0 dX9_next_243 ?_
            refine e_getR fl_X9_16 la_134 rfl dX9_next_244 ?_
            refine e_aload0 dX9_next_247 ?_
            refine e_getI fl_X9_171 la_134 rfl dX9_next_248 ?_
            refine WW.ec (y := (a : Int)) (h15) ?_
            refine e_baldK (k := a) la_137 (by omega) (by omega) dX9_next_251 ?_
            refine WW.ec (y := B a) (by rw [et, et2]) ?_
            refine e_bipush dX9_next_252 rfl kb_48 ?_
            refine e_bipush dX9_next_254 rfl kb_57 ?_
            refine e_cSZ (ct_X9_in (d := d - 1)) cy_X9_in cs_X9_in ml_X9_120 rfl rfl (rok (by omega) (by decide)) (Nat.le_of_ble_eq_true rfl) dX9_next_256 (fun g256 => ?_) (fun g256 => ?_)
            · refine e_if_eq (tgt := 439) dX9_next_259 (by decide) (fun h => absurd h (by decide)) (fun _ => ?_)
              refine e_aload0 dX9_next_262 ?_
              refine e_aload0 dX9_next_263 ?_
              refine e_getI fl_X9_193 la_134 rfl dX9_next_264 ?_
              refine WW.ec (y := u) (h18) ?_
              refine e_ldc dX9_next_267 ki_X9_196 ⟨by decide, by decide⟩ ?_
              refine e_icmp_le (tgt := 279) dX9_next_269 (by decide) (fun h269 => ?_) (fun h => absurd h (by omega))
              refine e_bipush dX9_next_279 rfl kb_10 ?_
              refine e_aload0 dX9_next_281 ?_
              refine e_getI fl_X9_193 la_134 rfl dX9_next_282 ?_
              refine WW.ec (y := u) (h18) ?_
              refine e_imul dX9_next_285 (⟨by omega, by omega⟩) ?_
              refine e_aload0 dX9_next_286 ?_
              refine e_getR fl_X9_16 la_134 rfl dX9_next_287 ?_
              refine e_aload0 dX9_next_290 ?_
              refine e_getI fl_X9_171 la_134 rfl dX9_next_291 ?_
              refine WW.ec (y := (a : Int)) (h15) ?_
              refine e_baldK (k := a) la_137 (by omega) (by omega) dX9_next_294 ?_
              refine WW.ec (y := B a) (by rw [et, et2]) ?_
              refine e_iadd dX9_next_295 (⟨by omega, by omega⟩) ?_
              refine e_bipush dX9_next_296 rfl kb_48 ?_
              refine e_isub dX9_next_298 (⟨by omega, by omega⟩) ?_
              refine e_putI fp_X9_193 la_134 rfl dX9_next_299 ?_
              refine e_aload0 dX9_next_302 ?_
              refine e_dup dX9_next_303 rfl ?_
              refine e_getI fl_X9_171 la_134 rfl dX9_next_304 ?_
              refine WW.ec (y := (a : Int)) (by rw [up_k (by decide)]; exact h15) ?_
              refine e_iconst dX9_next_307 rfl kc_1 ?_
              refine e_iadd dX9_next_308 (⟨by omega, by omega⟩) ?_
              refine e_putI fp_X9_171 la_134 rfl dX9_next_309 ?_
              refine e_goto (tgt := 232) dX9_next_312 (by decide) ?_
              exact hgo
            · refine e_if_eq (tgt := 439) dX9_next_259 (by decide) (fun _ => ?_) (fun h => absurd h (by decide))
              refine e_vret dX9_next_439 ?_
              first | (exfalso; omega) | exact absurd hdg g256
      · have hs := stopQ (fun z => hdg z.2)
        refine e_aload0 dX9_next_232 ?_
        refine e_getI fl_X9_171 la_134 rfl dX9_next_233 ?_
        refine WW.ec (y := (a : Int)) (h15) ?_
        refine e_aload0 dX9_next_236 ?_
        refine e_getI fl_X9_174 la_134 rfl dX9_next_237 ?_
        refine WW.ec (y := (L : Int)) (e14) ?_
        refine e_icmp_ge (tgt := 439) dX9_next_240 (by decide) (fun h240 => ?_) (fun h240 => ?_)
        · refine e_vret dX9_next_439 ?_
          exact hs
        · refine e_aload0 dX9_next_243 ?_
          refine e_getR fl_X9_16 la_134 rfl dX9_next_244 ?_
          refine e_aload0 dX9_next_247 ?_
          refine e_getI fl_X9_171 la_134 rfl dX9_next_248 ?_
          refine WW.ec (y := (a : Int)) (h15) ?_
          refine e_baldK (k := a) la_137 (by omega) (by omega) dX9_next_251 ?_
          refine WW.ec (y := M 137 a) (et) ?_
          refine e_bipush dX9_next_252 rfl kb_48 ?_
          refine e_bipush dX9_next_254 rfl kb_57 ?_
          refine e_cSZ (ct_X9_in (d := d - 1)) cy_X9_in cs_X9_in ml_X9_120 rfl rfl (rok (by omega) (by decide)) (Nat.le_of_ble_eq_true rfl) dX9_next_256 (fun g256 => ?_) (fun g256 => ?_)
          · refine e_if_eq (tgt := 439) dX9_next_259 (by decide) (fun h => absurd h (by decide)) (fun _ => ?_)
            exfalso; omega
          · refine e_if_eq (tgt := 439) dX9_next_259 (by decide) (fun _ => ?_) (fun h => absurd h (by decide))
            refine e_vret dX9_next_439 ?_
            exact hs
    · have hs := stopQ (fun z => hlt z.1)
      refine e_aload0 dX9_next_232 ?_
      refine e_getI fl_X9_171 la_134 rfl dX9_next_233 ?_
      refine WW.ec (y := (a : Int)) (h15) ?_
      refine e_aload0 dX9_next_236 ?_
      refine e_getI fl_X9_174 la_134 rfl dX9_next_237 ?_
      refine WW.ec (y := (L : Int)) (e14) ?_
      refine e_icmp_ge (tgt := 439) dX9_next_240 (by decide) (fun h240 => ?_) (fun h240 => ?_)
      · refine e_vret dX9_next_439 ?_
        exact hs
      · omega
end MNEXT
