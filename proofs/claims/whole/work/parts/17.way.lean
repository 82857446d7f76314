/-! WAY (object 122: candle 4, from 5, to 6, upper 7, lower 8; rows houses 123, outs 124) -/
/-- the same but for what questions scribble on (law, way, supper, weddings) -/
def FrS (M M1 : Mem) : Prop := ∀ o, (o < 119 ∨ 133 < o) → M1 o = M o
theorem FrS.rf (M : Mem) : FrS M M := fun _ _ => rfl
theorem FrS.tr {M M1 M2 : Mem} (h : FrS M M1) (h2 : FrS M1 M2) : FrS M M2 := fun o a => (h2 o a).trans (h o a)
theorem Fr2.frs {M M1 : Mem} (h : Fr2 M M1) : FrS M M1 := fun o a => h o (by omega) (by omega)
theorem FrS.up {M M1 : Mem} {o k : Nat} {v : Int} (h : FrS M M1) (ho : 119 ≤ o ∧ o ≤ 133) : FrS M (up M1 o k v) := fun q a => by
  rw [up_row (by omega)]
  exact h q a
theorem IB.frs {M M1 : Mem} (h : FrS M M1) (hl : IB M) : IB M1 := by
  unfold IB at hl ⊢
  rw [h 1 (by omega), h 7 (by omega)]
  exact hl
theorem LW.frs {M M1 : Mem} (h : FrS M M1) (hl : LW M) : LW M1 := by
  unfold LW IB isT TxOk at hl ⊢
  rw [h 1 (by omega), h 7 (by omega), h 2 (by omega), h 3 (by omega), h 4 (by omega), h 6 (by omega)]
  refine ⟨hl.1, hl.2.1, hl.2.2.1, hl.2.2.2.1, fun ht => ?_⟩
  have h4 : (M 1 16).toNat < 4 := by have := hl.2.2.2.1; omega
  rw [h (93 + 6 * (M 1 16).toNat) (by omega), h (92 + 6 * (M 1 16).toNat) (by omega), h (91 + 6 * (M 1 16).toNat) (by omega)]
  exact hl.2.2.2.2 ht
theorem lawC_frs {M M1 : Mem} (h : FrS M M1) (ht : M 1 15 ≤ 4) (k : Nat) : lawC M1 k = lawC M k := by
  unfold lawC isT
  rw [h 1 (by omega)]
  by_cases q : 0 ≤ M 1 16 ∧ M 1 16 < M 1 15
  · rw [h (93 + 6 * (M 1 16).toNat) (by omega), h (92 + 6 * (M 1 16).toNat) (by omega), h (91 + 6 * (M 1 16).toNat) (by omega)]
  · rw [if_neg (fun z => q z.1), if_neg (fun z => q z.1)]
theorem tellV_frs {M M1 : Mem} (h : FrS M M1) (ht : M 1 15 ≤ 4) (k a c i : Int) : tellV M1 k a c i = tellV M k a c i := by
  unfold tellV nmOf
  rw [lawC_frs h ht, h 2 (by omega), h 3 (by omega), h 4 (by omega), h 6 (by omega), h 7 (by omega)]
theorem tellN_frs {M M1 : Mem} (h : FrS M M1) (ht : M 1 15 ≤ 4) (k a th ln i : Int) : tellN M1 k a th ln i = tellN M k a th ln i := by
  unfold tellN nmOf
  rw [lawC_frs h ht, h 1 (by omega), h 2 (by omega), h 3 (by omega), h 4 (by omega)]
theorem ownr_frs {M M1 : Mem} (h : FrS M M1) (c i : Int) : ownr M1 c i = ownr M c i := by
  unfold ownr isIn isC
  rw [h 1 (by omega), h 7 (by omega), h 11 (by omega)]
theorem isH_frs {M M1 : Mem} (h : FrS M M1) (a : Int) : isH M1 a = isH M a := by unfold isH; rw [h 1 (by omega)]
theorem isC_frs {M M1 : Mem} (h : FrS M M1) (a : Int) : isC M1 a = isC M a := by unfold isC; rw [h 1 (by omega)]
theorem isIn_frs {M M1 : Mem} (h : FrS M M1) (c a : Int) : isIn M1 c a = isIn M c a := by unfold isIn; rw [isC_frs h, h 7 (by omega)]
def stH (M : Mem) (c : Nat) : Int := if M 8 c = 0 then ownr M c 0 else M 9 c
def wH (M : Mem) (c nx : Nat) : Nat → Int
  | 0 => stH M c
  | n + 1 => if ownr M c ((nx + (n + 1) : Nat) : Int) ≠ -1 ∧ ownr M c ((nx + (n + 1) : Nat) : Int) ≠ wH M c nx n then ownr M c ((nx + (n + 1) : Nat) : Int) else wH M c nx n
def wO (M : Mem) (c nx : Nat) : Nat → Int
  | 0 => -1
  | n + 1 => if ownr M c ((nx + (n + 1) : Nat) : Int) ≠ -1 ∧ ownr M c ((nx + (n + 1) : Nat) : Int) ≠ wH M c nx n then tellV M 3 (ownr M c ((nx + (n + 1) : Nat) : Int)) c ((nx + (n + 1) : Nat) : Int) else -1
def hasW (M : Mem) (c : Int) : Prop := isC M c ∧ M 8 c.toNat ≠ 3 ∧ isH M (stH M c.toNat)
/-- who owns is a house; NEXT lies in the candle -/
def OWN (M : Mem) : Prop := (∀ c i, isIn M c i → ownr M c i = -1 ∨ isH M (ownr M c i)) ∧ ∀ c, isC M c → 0 ≤ M 10 c.toNat ∧ M 10 c.toNat ≤ M 7 c.toNat
theorem wH_h {M : Mem} (hO : OWN M) {c nx ln : Nat} (hc : isC M c) (hw : isH M (stH M c)) (hl : M 7 c = ln) : ∀ n, nx + n < ln ∨ n = 0 → isH M (wH M c nx n)
  | 0, _ => hw
  | n + 1, h => by
    unfold wH
    split
    · rename_i q
      exact (hO.1 c ((nx + (n + 1) : Nat) : Int) ⟨hc, by omega, by rw [Int.toNat_natCast, hl]; omega⟩).resolve_left q.1
    · exact wH_h hO hc hw hl n (Or.inl (by omega))
theorem wO_b (M : Mem) (c nx : Nat) : ∀ n, wO M c nx n = -1 ∨ (0 ≤ wO M c nx n ∧ wO M c nx n ≤ 10)
  | 0 => Or.inl rfl
  | n + 1 => by
    by_cases q : ownr M c ((nx + (n + 1) : Nat) : Int) ≠ -1 ∧ ownr M c ((nx + (n + 1) : Nat) : Int) ≠ wH M c nx n
    · have := tellV_b M 3 (ownr M c ((nx + (n + 1) : Nat) : Int)) c ((nx + (n + 1) : Nat) : Int)
      rw [wO, if_pos q]
      exact Or.inr ⟨this.1.1, this.2.2 rfl⟩
    · rw [wO, if_neg q]
      exact Or.inl rfl
def WP (M : Mem) (c nx ln n : Nat) (M1 : Mem) : Prop := FrS M M1 ∧ (M1 122 4 = c ∧ M1 122 5 = nx ∧ M1 122 6 = ln) ∧ ∀ m, m < n → M1 123 (nx + m) = wH M c nx m ∧ M1 124 (nx + m) = wO M c nx m
theorem WP.fr {M : Mem} {c nx ln n : Nat} {M1 M2 : Mem} (h : WP M c nx ln n M1) (h2 : Fr2 M1 M2) : WP M c nx ln n M2 := by
  refine ⟨h.1.tr h2.frs, ?_, ?_⟩
  · rw [h2 122 (by decide) (by decide)]; exact h.2.1
  · rw [h2 123 (by decide) (by decide), h2 124 (by decide) (by decide)]; exact h.2.2
theorem WP.put {M : Mem} {c nx ln n : Nat} {M1 : Mem} (h : WP M c nx ln n M1) {a b : Int} (ha : a = wH M c nx n) (hb : b = wO M c nx n) : WP M c nx ln (n + 1) (up (up M1 123 (nx + n) a) 124 (nx + n) b) := by
  refine ⟨(h.1.up (by omega)).up (by omega), ?_, fun m hm => ?_⟩
  · rw [up_row (by decide), up_row (by decide)]; exact h.2.1
  · rw [up_row (by decide : (123 : Nat) ≠ 124)]
    by_cases e : m = n
    · subst e
      rw [up_s, up_s]
      exact ⟨ha, hb⟩
    · rw [up_k (by omega), up_k (by omega), up_o (by decide)]
      exact h.2.2 m (by omega)
section WAY
variable {l : Launch} {w : Wd} {d : Nat} {M : Mem} {Q : Option MV → Mem → Prop}
theorem lp_X6_plan (hd : 5 ≤ d) (hL : LW M) (hO : OWN M) {c nx ln : Nat} (hc : isC M c) (hw : isH M (stH M c)) (hnx : M 10 c = nx) (hln : M 7 c = ln)
    (k : ∀ (M1 : Mem) (h i : Int) (x4 x5 : Option MV), WP M c nx ln (ln - nx) M1 → WM l w RX6 cX6_plan 6 (some .boolean) d Q 251 [some (vR 122), some (vI c), some (vI h), some (vI i), x4, x5] [] M1) :
    ∀ (q n : Nat) (M1 : Mem) (x4 x5 : Option MV), isL x4 = false → n + 1 + q = ln - nx → WP M c nx ln (n + 1) M1 → WM l w RX6 cX6_plan 6 (some .boolean) d Q 134 [some (vR 122), some (vI c), some (vI (wH M c nx n)), some (vI ((nx + (n + 1) : Nat) : Int)), x4, x5] [] M1 := by
  have hl12 := hL.1.len hc
  rw [Int.toNat_natCast, hln] at hl12
  intro q
  induction q with
  | zero =>
    intro n M1 x4 x5 hx4 hn hW
    refine e_iload3 dX6_plan_134 ?_
    refine e_if_lt (tgt := 251) dX6_plan_135 (by decide) (fun h => absurd h (by omega)) (fun h135 => ?_)
    refine e_iload3 dX6_plan_138 ?_
    refine e_aload0 dX6_plan_139 ?_
    refine e_getI fl_X6_25 la_122 rfl dX6_plan_140 ?_
    refine WW.ec (y := (ln : Int)) (hW.2.1.2.2) ?_
    refine e_icmp_ge (tgt := 251) dX6_plan_143 (by decide) (fun h143 => ?_) (fun h => absurd h (by omega))
    exact k M1 _ _ _ _ (by rw [← hn]; exact hW)
  | succ q ih =>
    intro n M1 x4 x5 hx4 hn hW
    have hin : isIn M c ((nx + (n + 1) : Nat) : Int) := ⟨hc, by omega, by rw [Int.toNat_natCast, hln]; omega⟩
    have hown := hO.1 _ _ hin
    generalize ho : ownr M c ((nx + (n + 1) : Nat) : Int) = o at hown
    have hwn : wH M c nx (n + 1) = if o ≠ -1 ∧ o ≠ wH M c nx n then o else wH M c nx n := by rw [wH, ho]
    have hwo : wO M c nx (n + 1) = if o ≠ -1 ∧ o ≠ wH M c nx n then tellV M 3 o c ((nx + (n + 1) : Nat) : Int) else -1 := by rw [wO, ho]
    by_cases h1 : o = -1
    · rw [if_neg (fun z => z.1 h1)] at hwn hwo
      refine e_iload3 dX6_plan_134 ?_
      refine e_if_lt (tgt := 251) dX6_plan_135 (by decide) (fun h => absurd h (by omega)) (fun h135 => ?_)
      refine e_iload3 dX6_plan_138 ?_
      refine e_aload0 dX6_plan_139 ?_
      refine e_getI fl_X6_25 la_122 rfl dX6_plan_140 ?_
      refine WW.ec (y := (ln : Int)) (hW.2.1.2.2) ?_
      refine e_icmp_ge (tgt := 251) dX6_plan_143 (by decide) (fun h => absurd h (by omega)) (fun h143 => ?_)
      refine e_iload3 dX6_plan_146 ?_
      refine e_bipush dX6_plan_147 rfl kb_12 ?_
      refine e_icmp_ge (tgt := 251) dX6_plan_149 (by decide) (fun h => absurd h (by omega)) (fun h149 => ?_)
      refine e_iload3 dX6_plan_152 ?_
      refine e_aload0 dX6_plan_153 ?_
      refine e_getI fl_X6_22 la_122 rfl dX6_plan_154 ?_
      refine WW.ec (y := (nx : Int)) (hW.2.1.2.1) ?_
      refine e_icmp_ne (tgt := 164) dX6_plan_157 (by decide) (fun h157 => ?_) (fun h => absurd h (by omega))
      refine e_aload0 dX6_plan_164 ?_
      refine e_getR fl_X6_35 la_122 rfl dX6_plan_165 ?_
      refine e_aload0 dX6_plan_168 ?_
      refine e_getI fl_X6_18 la_122 rfl dX6_plan_169 ?_
      refine WW.ec (y := (c : Int)) (hW.2.1.1) ?_
      refine e_iload3 dX6_plan_172 ?_
      refine e_cVI (ct_X0_ownerOf (d := d - 1) (by omega) (hL.1.frs hW.1)) cy_X0_ownerOf cv_X0_ownerOf ml_X6_52 la_1 rfl rfl rfl (rok (by omega) (by decide)) (Nat.le_of_ble_eq_true rfl) dX6_plan_173 ?_
      refine WW.ec (y := o) (by rw [ownr_frs hW.1]; exact ho) ?_
      refine e_istore4 dX6_plan_176 rfl ?_
      refine e_iload4 dX6_plan_178 ?_
      refine e_iconst dX6_plan_180 rfl kc_m1 ?_
      refine e_icmp_eq (tgt := 194) dX6_plan_181 (by decide) (fun h181 => ?_) (fun h => absurd h (fun q => q h1))
      refine e_iconst dX6_plan_194 rfl kc_0 ?_
      refine e_istore5 dX6_plan_195 rfl ?_
      refine e_iload5 dX6_plan_197 ?_
      refine e_if_eq (tgt := 207) dX6_plan_199 (by decide) (fun _ => ?_) (fun h => absurd h (by decide))
      refine e_iload2 dX6_plan_207 ?_
      refine e_istore2 dX6_plan_208 rfl ?_
      refine e_aload0 dX6_plan_209 ?_
      refine e_getR fl_X6_9 la_122 rfl dX6_plan_210 ?_
      refine e_iload3 dX6_plan_213 ?_
      refine e_iload2 dX6_plan_214 ?_
      refine e_iast la_123 (⟨by omega, by omega⟩) dX6_plan_215 ?_
      refine e_aload0 dX6_plan_216 ?_
      refine e_getR fl_X6_15 la_122 rfl dX6_plan_217 ?_
      refine e_iload3 dX6_plan_220 ?_
      refine e_iload5 dX6_plan_221 ?_
      refine e_if_eq (tgt := 243) dX6_plan_223 (by decide) (fun _ => ?_) (fun h => absurd h (by decide))
      refine e_iconst dX6_plan_243 rfl kc_m1 ?_
      refine e_iast la_124 (⟨by omega, by omega⟩) dX6_plan_244 ?_
      refine e_iinc3 dX6_plan_245 rfl (⟨by omega, by omega⟩) rfl ?_
      refine e_goto (tgt := 134) dX6_plan_248 (by decide) ?_
      refine WW.cv ?_ rfl ?_ (ih (n + 1) _ (some (vI o)) (some (vI 0)) rfl (by omega) (hW.put hwn.symm hwo.symm))
      · rw [hwn]; rfl
      · rfl
    · by_cases h2 : o = wH M c nx n
      · rw [if_neg (fun z => z.2 h2)] at hwn hwo
        refine e_iload3 dX6_plan_134 ?_
        refine e_if_lt (tgt := 251) dX6_plan_135 (by decide) (fun h => absurd h (by omega)) (fun h135 => ?_)
        refine e_iload3 dX6_plan_138 ?_
        refine e_aload0 dX6_plan_139 ?_
        refine e_getI fl_X6_25 la_122 rfl dX6_plan_140 ?_
        refine WW.ec (y := (ln : Int)) (hW.2.1.2.2) ?_
        refine e_icmp_ge (tgt := 251) dX6_plan_143 (by decide) (fun h => absurd h (by omega)) (fun h143 => ?_)
        refine e_iload3 dX6_plan_146 ?_
        refine e_bipush dX6_plan_147 rfl kb_12 ?_
        refine e_icmp_ge (tgt := 251) dX6_plan_149 (by decide) (fun h => absurd h (by omega)) (fun h149 => ?_)
        refine e_iload3 dX6_plan_152 ?_
        refine e_aload0 dX6_plan_153 ?_
        refine e_getI fl_X6_22 la_122 rfl dX6_plan_154 ?_
        refine WW.ec (y := (nx : Int)) (hW.2.1.2.1) ?_
        refine e_icmp_ne (tgt := 164) dX6_plan_157 (by decide) (fun h157 => ?_) (fun h => absurd h (by omega))
        refine e_aload0 dX6_plan_164 ?_
        refine e_getR fl_X6_35 la_122 rfl dX6_plan_165 ?_
        refine e_aload0 dX6_plan_168 ?_
        refine e_getI fl_X6_18 la_122 rfl dX6_plan_169 ?_
        refine WW.ec (y := (c : Int)) (hW.2.1.1) ?_
        refine e_iload3 dX6_plan_172 ?_
        refine e_cVI (ct_X0_ownerOf (d := d - 1) (by omega) (hL.1.frs hW.1)) cy_X0_ownerOf cv_X0_ownerOf ml_X6_52 la_1 rfl rfl rfl (rok (by omega) (by decide)) (Nat.le_of_ble_eq_true rfl) dX6_plan_173 ?_
        refine WW.ec (y := o) (by rw [ownr_frs hW.1]; exact ho) ?_
        refine e_istore4 dX6_plan_176 rfl ?_
        refine e_iload4 dX6_plan_178 ?_
        refine e_iconst dX6_plan_180 rfl kc_m1 ?_
        refine e_icmp_eq (tgt := 194) dX6_plan_181 (by decide) (fun h => absurd h (h1)) (fun h181 => ?_)
        refine e_iload4 dX6_plan_184 ?_
        refine e_iload2 dX6_plan_186 ?_
        refine e_icmp_eq (tgt := 194) dX6_plan_187 (by decide) (fun h187 => ?_) (fun h => absurd h (fun q => q h2))
        refine e_iconst dX6_plan_194 rfl kc_0 ?_
        refine e_istore5 dX6_plan_195 rfl ?_
        refine e_iload5 dX6_plan_197 ?_
        refine e_if_eq (tgt := 207) dX6_plan_199 (by decide) (fun _ => ?_) (fun h => absurd h (by decide))
        refine e_iload2 dX6_plan_207 ?_
        refine e_istore2 dX6_plan_208 rfl ?_
        refine e_aload0 dX6_plan_209 ?_
        refine e_getR fl_X6_9 la_122 rfl dX6_plan_210 ?_
        refine e_iload3 dX6_plan_213 ?_
        refine e_iload2 dX6_plan_214 ?_
        refine e_iast la_123 (⟨by omega, by omega⟩) dX6_plan_215 ?_
        refine e_aload0 dX6_plan_216 ?_
        refine e_getR fl_X6_15 la_122 rfl dX6_plan_217 ?_
        refine e_iload3 dX6_plan_220 ?_
        refine e_iload5 dX6_plan_221 ?_
        refine e_if_eq (tgt := 243) dX6_plan_223 (by decide) (fun _ => ?_) (fun h => absurd h (by decide))
        refine e_iconst dX6_plan_243 rfl kc_m1 ?_
        refine e_iast la_124 (⟨by omega, by omega⟩) dX6_plan_244 ?_
        refine e_iinc3 dX6_plan_245 rfl (⟨by omega, by omega⟩) rfl ?_
        refine e_goto (tgt := 134) dX6_plan_248 (by decide) ?_
        refine WW.cv ?_ rfl ?_ (ih (n + 1) _ (some (vI o)) (some (vI 0)) rfl (by omega) (hW.put hwn.symm hwo.symm))
        · rw [hwn]; rfl
        · rfl
      · rw [if_pos ⟨h1, h2⟩] at hwn hwo
        refine e_iload3 dX6_plan_134 ?_
        refine e_if_lt (tgt := 251) dX6_plan_135 (by decide) (fun h => absurd h (by omega)) (fun h135 => ?_)
        refine e_iload3 dX6_plan_138 ?_
        refine e_aload0 dX6_plan_139 ?_
        refine e_getI fl_X6_25 la_122 rfl dX6_plan_140 ?_
        refine WW.ec (y := (ln : Int)) (hW.2.1.2.2) ?_
        refine e_icmp_ge (tgt := 251) dX6_plan_143 (by decide) (fun h => absurd h (by omega)) (fun h143 => ?_)
        refine e_iload3 dX6_plan_146 ?_
        refine e_bipush dX6_plan_147 rfl kb_12 ?_
        refine e_icmp_ge (tgt := 251) dX6_plan_149 (by decide) (fun h => absurd h (by omega)) (fun h149 => ?_)
        refine e_iload3 dX6_plan_152 ?_
        refine e_aload0 dX6_plan_153 ?_
        refine e_getI fl_X6_22 la_122 rfl dX6_plan_154 ?_
        refine WW.ec (y := (nx : Int)) (hW.2.1.2.1) ?_
        refine e_icmp_ne (tgt := 164) dX6_plan_157 (by decide) (fun h157 => ?_) (fun h => absurd h (by omega))
        refine e_aload0 dX6_plan_164 ?_
        refine e_getR fl_X6_35 la_122 rfl dX6_plan_165 ?_
        refine e_aload0 dX6_plan_168 ?_
        refine e_getI fl_X6_18 la_122 rfl dX6_plan_169 ?_
        refine WW.ec (y := (c : Int)) (hW.2.1.1) ?_
        refine e_iload3 dX6_plan_172 ?_
        refine e_cVI (ct_X0_ownerOf (d := d - 1) (by omega) (hL.1.frs hW.1)) cy_X0_ownerOf cv_X0_ownerOf ml_X6_52 la_1 rfl rfl rfl (rok (by omega) (by decide)) (Nat.le_of_ble_eq_true rfl) dX6_plan_173 ?_
        refine WW.ec (y := o) (by rw [ownr_frs hW.1]; exact ho) ?_
        refine e_istore4 dX6_plan_176 rfl ?_
        refine e_iload4 dX6_plan_178 ?_
        refine e_iconst dX6_plan_180 rfl kc_m1 ?_
        refine e_icmp_eq (tgt := 194) dX6_plan_181 (by decide) (fun h => absurd h (h1)) (fun h181 => ?_)
        refine e_iload4 dX6_plan_184 ?_
        refine e_iload2 dX6_plan_186 ?_
        refine e_icmp_eq (tgt := 194) dX6_plan_187 (by decide) (fun h => absurd h (h2)) (fun h187 => ?_)
        refine e_iconst dX6_plan_190 rfl kc_1 ?_
        refine e_goto (tgt := 195) dX6_plan_191 (by decide) ?_
        refine e_istore5 dX6_plan_195 rfl ?_
        refine e_iload5 dX6_plan_197 ?_
        refine e_if_eq (tgt := 207) dX6_plan_199 (by decide) (fun h => absurd h (by decide)) (fun _ => ?_)
        refine e_iload4 dX6_plan_202 ?_
        refine e_goto (tgt := 208) dX6_plan_204 (by decide) ?_
        refine e_istore2 dX6_plan_208 rfl ?_
        refine e_aload0 dX6_plan_209 ?_
        refine e_getR fl_X6_9 la_122 rfl dX6_plan_210 ?_
        refine e_iload3 dX6_plan_213 ?_
        refine e_iload2 dX6_plan_214 ?_
        refine e_iast la_123 (⟨by omega, by omega⟩) dX6_plan_215 ?_
        refine e_aload0 dX6_plan_216 ?_
        refine e_getR fl_X6_15 la_122 rfl dX6_plan_217 ?_
        refine e_iload3 dX6_plan_220 ?_
        refine e_iload5 dX6_plan_221 ?_
        refine e_if_eq (tgt := 243) dX6_plan_223 (by decide) (fun h => absurd h (by decide)) (fun _ => ?_)
        have hf9 : FrS M (up M1 123 ((nx + (n + 1) : Nat) : Int).toNat o) := hW.1.up (by omega)
        have hh9 : isH M o := hown.resolve_left h1
        refine e_aload0 dX6_plan_226 ?_
        refine e_getR fl_X6_39 la_122 rfl dX6_plan_227 ?_
        refine e_iconst dX6_plan_230 rfl kc_3 ?_
        refine e_iload2 dX6_plan_231 ?_
        refine e_aload0 dX6_plan_232 ?_
        refine e_getI fl_X6_18 la_122 rfl dX6_plan_233 ?_
        refine WW.ec (y := (c : Int)) (by rw [up_row (by decide)]; exact hW.2.1.1) ?_
        refine e_iload3 dX6_plan_236 ?_
        refine e_cVGI (ct_X1_tell (d := d - 1) (by omega) (hL.frs hf9) (by omega) (by rw [isH_frs hf9]; exact hh9) (by rw [isIn_frs hf9]; exact hin)) cy_X1_tell cv_X1_tell ml_X6_68 la_119 rfl rfl rfl (rok (by omega) (by decide)) (Nat.le_of_ble_eq_true rfl) dX6_plan_237 (fun x M2 hq => ?_)
        refine e_goto (tgt := 244) dX6_plan_240 (by decide) ?_
        refine e_iast la_124 (⟨by omega, by omega⟩) dX6_plan_244 ?_
        refine e_iinc3 dX6_plan_245 rfl (⟨by omega, by omega⟩) rfl ?_
        refine e_goto (tgt := 134) dX6_plan_248 (by decide) ?_
        have hM2 : WP M c nx ln (n + 1 + 1) (up M2 124 (nx + (n + 1)) x) := by
          refine ⟨(hf9.tr hq.2.frs).up (by omega), ?_, ?_⟩
          · rw [up_row (by decide), hq.2 122 (by decide) (by decide), up_row (by decide)]; exact hW.2.1
          · intro m hm
            rw [up_row (by decide : (123 : Nat) ≠ 124), hq.2 123 (by decide) (by decide), Int.toNat_natCast]
            have hx : x = wO M c nx (n + 1) := by rw [hwo, hq.1, tellV_frs hf9 hL.2.2.2.1]
            by_cases e : m = n + 1
            · subst e
              rw [up_s, up_s]
              exact ⟨hwn.symm, hx⟩
            · rw [up_k (by omega), up_k (by omega), hq.2 124 (by decide) (by decide), up_o (by decide)]
              exact hW.2.2 m (by omega)
        refine WW.cv ?_ rfl ?_ (ih (n + 1) _ (some (vI o)) (some (vI 1)) rfl (by omega) hM2)
        · rw [hwn]; rfl
        · rfl
end WAY
