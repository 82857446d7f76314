/-! THE MODEL READS A TEXT, whole -/
def cp1 (M : Mem) (tt k : Nat) : Mem := fun o q => if (139 ≤ o ∧ o ≤ 143) ∧ 24 * tt ≤ q ∧ q < 24 * tt + k then (if o = 140 then 400 * (tt : Int) + M 150 (q - 24 * tt) else M (o + 10) (q - 24 * tt)) else M o q
def cp2 (M : Mem) (tt k : Nat) : Mem := fun o q => if (o = 144 ∨ o = 145) ∧ 400 * tt ≤ q ∧ q < 400 * tt + k then M (o + 10) (q - 400 * tt) else M o q
theorem cp1_o {M : Mem} {tt k o : Nat} (h : o < 139 ∨ 143 < o) : cp1 M tt k o = M o := by funext q; unfold cp1; rw [if_neg (by omega)]
theorem cp2_o {M : Mem} {tt k o : Nat} (h : o ≠ 144) (h2 : o ≠ 145) : cp2 M tt k o = M o := by funext q; unfold cp2; rw [if_neg (by omega)]
theorem cp1_s (M : Mem) (tt k : Nat) : up (up (up (up (up (cp1 M tt k) 139 (24 * tt + k) (M 149 k)) 140 (24 * tt + k) (400 * (tt : Int) + M 150 k)) 141 (24 * tt + k) (M 151 k)) 142 (24 * tt + k) (M 152 k)) 143 (24 * tt + k) (M 153 k) = cp1 M tt (k + 1) := by
  funext o q
  by_cases hq : q = 24 * tt + k
  · subst hq
    by_cases ho : 139 ≤ o ∧ o ≤ 143
    · have e : cp1 M tt (k + 1) o (24 * tt + k) = if o = 140 then 400 * (tt : Int) + M 150 k else M (o + 10) k := by
        unfold cp1
        rw [if_pos (by omega), show 24 * tt + k - 24 * tt = k by omega]
      rw [e]
      rcases (show o = 139 ∨ o = 140 ∨ o = 141 ∨ o = 142 ∨ o = 143 by omega) with z | z | z | z | z <;> subst z
      · rw [up_o (by decide), up_o (by decide), up_o (by decide), up_o (by decide), up_s, if_neg (by decide)]
      · rw [up_o (by decide), up_o (by decide), up_o (by decide), up_s, if_pos rfl]
      · rw [up_o (by decide), up_o (by decide), up_s, if_neg (by decide)]
      · rw [up_o (by decide), up_s, if_neg (by decide)]
      · rw [up_s, if_neg (by decide)]
    · rw [up_o (by omega), up_o (by omega), up_o (by omega), up_o (by omega), up_o (by omega), cp1_o (by omega), cp1_o (by omega)]
  · rw [up_k hq, up_k hq, up_k hq, up_k hq, up_k hq]
    unfold cp1
    by_cases z : (139 ≤ o ∧ o ≤ 143) ∧ 24 * tt ≤ q ∧ q < 24 * tt + k
    · rw [if_pos z, if_pos (show (139 ≤ o ∧ o ≤ 143) ∧ 24 * tt ≤ q ∧ q < 24 * tt + (k + 1) by omega)]
    · rw [if_neg z, if_neg (show ¬ ((139 ≤ o ∧ o ≤ 143) ∧ 24 * tt ≤ q ∧ q < 24 * tt + (k + 1)) by omega)]
theorem cp1_0 (M : Mem) (tt : Nat) : cp1 M tt 0 = M := by funext o q; unfold cp1; rw [if_neg (by omega)]
theorem cp2_0 (M : Mem) (tt : Nat) : cp2 M tt 0 = M := by funext o q; unfold cp2; rw [if_neg (by omega)]
theorem cp2_s (M : Mem) (tt k : Nat) : up (up (cp2 M tt k) 144 (400 * tt + k) (M 154 k)) 145 (400 * tt + k) (M 155 k) = cp2 M tt (k + 1) := by
  funext o q
  by_cases hq : q = 400 * tt + k
  · subst hq
    by_cases ho : o = 144 ∨ o = 145
    · have e : cp2 M tt (k + 1) o (400 * tt + k) = M (o + 10) k := by
        unfold cp2
        rw [if_pos (by omega), show 400 * tt + k - 400 * tt = k by omega]
      rw [e]
      rcases ho with z | z <;> subst z
      · rw [up_o (by decide), up_s]
      · rw [up_s]
    · rw [up_o (by omega), up_o (by omega), cp2_o (by omega) (by omega), cp2_o (by omega) (by omega)]
  · rw [up_k hq, up_k hq]
    unfold cp2
    by_cases z : (o = 144 ∨ o = 145) ∧ 400 * tt ≤ q ∧ q < 400 * tt + k
    · rw [if_pos z, if_pos (show (o = 144 ∨ o = 145) ∧ 400 * tt ≤ q ∧ q < 400 * tt + (k + 1) by omega)]
    · rw [if_neg z, if_neg (show ¬ ((o = 144 ∨ o = 145) ∧ 400 * tt ≤ q ∧ q < 400 * tt + (k + 1)) by omega)]
theorem enc_cd {x : Int} (h : (x < 10008) ∨ x = 10012 ∨ (10008 ≤ x ∧ x < 10012)) : enc x (cd x).1 (cd x).2 := by
  unfold cd
  by_cases a : x < 10000
  · rw [if_pos a]; exact Or.inl ⟨a, rfl, rfl⟩
  rw [if_neg a]
  by_cases b : x < 10008
  · rw [if_pos b]; exact Or.inr (Or.inl ⟨by omega, b, rfl, rfl⟩)
  rw [if_neg b]
  by_cases c : x = 10012
  · rw [if_pos c]; exact Or.inr (Or.inr (Or.inl ⟨c, rfl⟩))
  rw [if_neg c]
  rcases (show x = 10008 ∨ x = 10009 ∨ x = 10010 ∨ x = 10011 by omega) with rfl | rfl | rfl | rfl
  · exact Or.inr (Or.inr (Or.inr ⟨Or.inl rfl, rfl⟩))
  · exact Or.inr (Or.inr (Or.inr ⟨Or.inr (Or.inl rfl), rfl⟩))
  · exact Or.inr (Or.inr (Or.inr ⟨Or.inr (Or.inr (Or.inl rfl)), rfl⟩))
  · exact Or.inr (Or.inr (Or.inr ⟨Or.inr (Or.inr (Or.inr rfl)), rfl⟩))
theorem ORD_of {O V : Nat → Int} : ∀ (cs : List Int) (p h h2 : Nat), wfc cs h h2 → p + cs.length < 1600 → (∀ (i : Nat) (x : Int), cs[i]? = some x → O (p + i) = (cd x).1 ∧ V (p + i) = (cd x).2) → O (p + cs.length) = 408 → ORD O V p cs
  | [], p, h, h2, _, hp, _, he => ⟨by simpa using hp, by simpa using he⟩
  | c :: cs, p, h, h2, hw, hp, ho, he => by
    have hl : (c :: cs).length = cs.length + 1 := rfl
    have h0 := ho 0 c rfl
    rw [Nat.add_zero] at h0
    have hcc : (c < 10008) ∨ c = 10012 ∨ (10008 ≤ c ∧ c < 10012) := by
      obtain ⟨_, e | e | e⟩ := hw
      · exact Or.inl e.1
      · exact Or.inr (Or.inl e.1)
      · exact Or.inr (Or.inr ⟨e.1, e.2.1⟩)
    have hrest : ∃ h', wfc cs h' h2 := by
      obtain ⟨_, e | e | e⟩ := hw
      · exact ⟨_, e.2.2⟩
      · exact ⟨_, e.2.2⟩
      · exact ⟨_, e.2.2.2⟩
    obtain ⟨h', hw'⟩ := hrest
    refine ⟨by omega, by rw [h0.1, h0.2]; exact enc_cd hcc, ORD_of cs (p + 1) h' h2 hw' (by omega) (fun i x hx => ?_) ?_⟩
    · have := ho (i + 1) x hx
      rw [show p + 1 + i = p + (i + 1) by omega]
      exact this
    · rw [show p + 1 + cs.length = p + (cs.length + 1) by omega]; exact he
theorem ORD_fr {O V O1 V1 : Nat → Int} : ∀ (cs : List Int) (p : Nat), (∀ i, p ≤ i → i ≤ p + cs.length → O1 i = O i ∧ V1 i = V i) → ORD O V p cs → ORD O1 V1 p cs
  | [], p, h, ho => ⟨ho.1, by rw [(h p (Nat.le_refl _) (by simp)).1]; exact ho.2⟩
  | c :: cs, p, h, ho => by
    have hl : (c :: cs).length = cs.length + 1 := rfl
    have h0 := h p (Nat.le_refl _) (by omega)
    exact ⟨ho.1, by rw [h0.1, h0.2]; exact ho.2.1, ORD_fr cs (p + 1) (fun i a b => h i (by omega) (by omega)) ho.2.2⟩
section MTEXT2
variable {l : Launch} {w : Wd} {d : Nat} {M : Mem} {Q : Option MV → Mem → Prop} {B : Nat → Int} {L : Nat}
theorem tc1_loop {tt c : Nat} (htt : tt < 4) (hc : c ≤ 24) (h28 : M 134 28 = c) (hp : ∀ k, k < c → 0 ≤ M 150 k ∧ M 150 k ≤ 400) (hQ : WM l w RX9 cX9_text 3 (some .int) d Q 282 [some (vR 134), some (vI (tt : Int)), some (vI (c : Int))] [] (cp1 M tt c)) : ∀ q k : Nat, k + q = c → WM l w RX9 cX9_text 3 (some .int) d Q 177 [some (vR 134), some (vI (tt : Int)), some (vI (k : Int))] [] (cp1 M tt k)
  | 0, k, hk => by
    obtain rfl : k = c := by omega
    have e28 : cp1 M tt k 134 28 = (k : Int) := by rw [cp1_o (by decide)]; exact h28
    refine e_iload2 dX9_text_177 ?_
    refine e_aload0 dX9_text_178 ?_
    refine e_getI fl_X9_259 la_134 rfl dX9_text_179 ?_
    refine WW.ec (y := (k : Int)) (e28) ?_
    refine e_icmp_ge (tgt := 282) dX9_text_182 (by decide) (fun h182 => ?_) (fun h182 => ?_)
    · exact hQ
    · omega
  | q + 1, k, hk => by
    have ih := tc1_loop htt hc h28 hp hQ q (k + 1) (by omega)
    have e28 : cp1 M tt k 134 28 = (c : Int) := by rw [cp1_o (by decide)]; exact h28
    have hpk := hp k (by omega)
    have er : ∀ o, 149 ≤ o → cp1 M tt k o = M o := fun o ho => cp1_o (by omega)
    rw [← cp1_s] at ih
    refine e_iload2 dX9_text_177 ?_
    refine e_aload0 dX9_text_178 ?_
    refine e_getI fl_X9_259 la_134 rfl dX9_text_179 ?_
    refine WW.ec (y := (c : Int)) (e28) ?_
    refine e_icmp_ge (tgt := 282) dX9_text_182 (by decide) (fun h182 => ?_) (fun h182 => ?_)
    · omega
    · refine e_aload0 dX9_text_185 ?_
      refine e_getR fl_X9_30 la_134 rfl dX9_text_186 ?_
      refine e_bipush dX9_text_189 rfl kb_24 ?_
      refine e_iload1 dX9_text_191 ?_
      refine e_imul dX9_text_192 (⟨by omega, by omega⟩) ?_
      refine e_iload2 dX9_text_193 ?_
      refine e_iadd dX9_text_194 (⟨by omega, by omega⟩) ?_
      refine WW.ec (y := ((24 * tt + k : Nat) : Int)) (by omega) ?_
      refine e_aload0 dX9_text_195 ?_
      refine e_getR fl_X9_60 la_134 rfl dX9_text_196 ?_
      refine e_iload2 dX9_text_199 ?_
      refine e_ialdK (k := k) la_149 (by omega) (by omega) dX9_text_200 ?_
      refine WW.ec (y := M 149 k) (by rw [er 149 (by decide)]) ?_
      refine e_iastK (k := 24 * tt + k) la_139 (by omega) (by omega) dX9_text_201 ?_
      refine e_aload0 dX9_text_202 ?_
      refine e_getR fl_X9_33 la_134 rfl dX9_text_203 ?_
      refine e_bipush dX9_text_206 rfl kb_24 ?_
      refine e_iload1 dX9_text_208 ?_
      refine e_imul dX9_text_209 (⟨by omega, by omega⟩) ?_
      refine e_iload2 dX9_text_210 ?_
      refine e_iadd dX9_text_211 (⟨by omega, by omega⟩) ?_
      refine WW.ec (y := ((24 * tt + k : Nat) : Int)) (by omega) ?_
      refine e_sipush dX9_text_212 rfl ks_400 ?_
      refine e_iload1 dX9_text_215 ?_
      refine e_imul dX9_text_216 (⟨by omega, by omega⟩) ?_
      refine e_aload0 dX9_text_217 ?_
      refine e_getR fl_X9_63 la_134 rfl dX9_text_218 ?_
      refine e_iload2 dX9_text_221 ?_
      refine e_ialdK (k := k) la_150 (by omega) (by omega) dX9_text_222 ?_
      refine WW.ec (y := M 150 k) (by rw [up_o (by decide), er 150 (by decide)]) ?_
      refine e_iadd dX9_text_223 (⟨by omega, by omega⟩) ?_
      refine e_iastK (k := 24 * tt + k) la_140 (by omega) (by omega) dX9_text_224 ?_
      refine e_aload0 dX9_text_225 ?_
      refine e_getR fl_X9_36 la_134 rfl dX9_text_226 ?_
      refine e_bipush dX9_text_229 rfl kb_24 ?_
      refine e_iload1 dX9_text_231 ?_
      refine e_imul dX9_text_232 (⟨by omega, by omega⟩) ?_
      refine e_iload2 dX9_text_233 ?_
      refine e_iadd dX9_text_234 (⟨by omega, by omega⟩) ?_
      refine WW.ec (y := ((24 * tt + k : Nat) : Int)) (by omega) ?_
      refine e_aload0 dX9_text_235 ?_
      refine e_getR fl_X9_66 la_134 rfl dX9_text_236 ?_
      refine e_iload2 dX9_text_239 ?_
      refine e_ialdK (k := k) la_151 (by omega) (by omega) dX9_text_240 ?_
      refine WW.ec (y := M 151 k) (by rw [up_o (by decide), up_o (by decide), er 151 (by decide)]) ?_
      refine e_iastK (k := 24 * tt + k) la_141 (by omega) (by omega) dX9_text_241 ?_
      refine e_aload0 dX9_text_242 ?_
      refine e_getR fl_X9_39 la_134 rfl dX9_text_243 ?_
      refine e_bipush dX9_text_246 rfl kb_24 ?_
      refine e_iload1 dX9_text_248 ?_
      refine e_imul dX9_text_249 (⟨by omega, by omega⟩) ?_
      refine e_iload2 dX9_text_250 ?_
      refine e_iadd dX9_text_251 (⟨by omega, by omega⟩) ?_
      refine WW.ec (y := ((24 * tt + k : Nat) : Int)) (by omega) ?_
      refine e_aload0 dX9_text_252 ?_
      refine e_getR fl_X9_69 la_134 rfl dX9_text_253 ?_
      refine e_iload2 dX9_text_256 ?_
      refine e_ialdK (k := k) la_152 (by omega) (by omega) dX9_text_257 ?_
      refine WW.ec (y := M 152 k) (by rw [up_o (by decide), up_o (by decide), up_o (by decide), er 152 (by decide)]) ?_
      refine e_iastK (k := 24 * tt + k) la_142 (by omega) (by omega) dX9_text_258 ?_
      refine e_aload0 dX9_text_259 ?_
      refine e_getR fl_X9_42 la_134 rfl dX9_text_260 ?_
      refine e_bipush dX9_text_263 rfl kb_24 ?_
      refine e_iload1 dX9_text_265 ?_
      refine e_imul dX9_text_266 (⟨by omega, by omega⟩) ?_
      refine e_iload2 dX9_text_267 ?_
      refine e_iadd dX9_text_268 (⟨by omega, by omega⟩) ?_
      refine WW.ec (y := ((24 * tt + k : Nat) : Int)) (by omega) ?_
      refine e_aload0 dX9_text_269 ?_
      refine e_getR fl_X9_72 la_134 rfl dX9_text_270 ?_
      refine e_iload2 dX9_text_273 ?_
      refine e_ialdK (k := k) la_153 (by omega) (by omega) dX9_text_274 ?_
      refine WW.ec (y := M 153 k) (by rw [up_o (by decide), up_o (by decide), up_o (by decide), up_o (by decide), er 153 (by decide)]) ?_
      refine e_iastK (k := 24 * tt + k) la_143 (by omega) (by omega) dX9_text_275 ?_
      refine e_iinc2 dX9_text_276 rfl (⟨by omega, by omega⟩) rfl ?_
      refine e_goto (tgt := 177) dX9_text_279 (by decide) ?_
      exact ih
theorem tc2_loop {tt c : Nat} (htt : tt < 4) (hc : c ≤ 300) (h35 : M 134 35 = c) (hQ : WM l w RX9 cX9_text 3 (some .int) d Q 334 [some (vR 134), some (vI (tt : Int)), some (vI (c : Int))] [] (cp2 M tt c)) : ∀ q k : Nat, k + q = c → WM l w RX9 cX9_text 3 (some .int) d Q 284 [some (vR 134), some (vI (tt : Int)), some (vI (k : Int))] [] (cp2 M tt k)
  | 0, k, hk => by
    obtain rfl : k = c := by omega
    have e35 : cp2 M tt k 134 35 = (k : Int) := by rw [cp2_o (by decide) (by decide)]; exact h35
    refine e_iload2 dX9_text_284 ?_
    refine e_aload0 dX9_text_285 ?_
    refine e_getI fl_X9_203 la_134 rfl dX9_text_286 ?_
    refine WW.ec (y := (k : Int)) (e35) ?_
    refine e_icmp_ge (tgt := 334) dX9_text_289 (by decide) (fun h289 => ?_) (fun h289 => ?_)
    · exact hQ
    · omega
  | q + 1, k, hk => by
    have ih := tc2_loop htt hc h35 hQ q (k + 1) (by omega)
    have e35 : cp2 M tt k 134 35 = (c : Int) := by rw [cp2_o (by decide) (by decide)]; exact h35
    rw [← cp2_s] at ih
    refine e_iload2 dX9_text_284 ?_
    refine e_aload0 dX9_text_285 ?_
    refine e_getI fl_X9_203 la_134 rfl dX9_text_286 ?_
    refine WW.ec (y := (c : Int)) (e35) ?_
    refine e_icmp_ge (tgt := 334) dX9_text_289 (by decide) (fun h289 => ?_) (fun h289 => ?_)
    · omega
    · refine e_aload0 dX9_text_292 ?_
      refine e_getR fl_X9_45 la_134 rfl dX9_text_293 ?_
      refine e_sipush dX9_text_296 rfl ks_400 ?_
      refine e_iload1 dX9_text_299 ?_
      refine e_imul dX9_text_300 (⟨by omega, by omega⟩) ?_
      refine e_iload2 dX9_text_301 ?_
      refine e_iadd dX9_text_302 (⟨by omega, by omega⟩) ?_
      refine e_aload0 dX9_text_303 ?_
      refine e_getR fl_X9_75 la_134 rfl dX9_text_304 ?_
      refine e_iload2 dX9_text_307 ?_
      refine e_ialdK (k := k) la_154 (by omega) (by omega) dX9_text_308 ?_
      refine WW.ec (y := M 154 k) (by rw [cp2_o (by decide) (by decide)]) ?_
      refine e_iastK (k := 400 * tt + k) la_144 (by omega) (by omega) dX9_text_309 ?_
      refine e_aload0 dX9_text_310 ?_
      refine e_getR fl_X9_48 la_134 rfl dX9_text_311 ?_
      refine e_sipush dX9_text_314 rfl ks_400 ?_
      refine e_iload1 dX9_text_317 ?_
      refine e_imul dX9_text_318 (⟨by omega, by omega⟩) ?_
      refine e_iload2 dX9_text_319 ?_
      refine e_iadd dX9_text_320 (⟨by omega, by omega⟩) ?_
      refine e_aload0 dX9_text_321 ?_
      refine e_getR fl_X9_78 la_134 rfl dX9_text_322 ?_
      refine e_iload2 dX9_text_325 ?_
      refine e_ialdK (k := k) la_155 (by omega) (by omega) dX9_text_326 ?_
      refine WW.ec (y := M 155 k) (by rw [up_o (by decide), cp2_o (by decide) (by decide)]) ?_
      refine e_iastK (k := 400 * tt + k) la_145 (by omega) (by omega) dX9_text_327 ?_
      refine e_iinc2 dX9_text_328 rfl (⟨by omega, by omega⟩) rfl ?_
      refine e_goto (tgt := 284) dX9_text_331 (by decide) ?_
      exact ih
/-- what text leaves in the model -/
def TXM (B : Nat → Int) (L : Nat) (M : Mem) (x : Int) (M1 : Mem) : Prop :=
  (M 135 2 = 4 ∧ x = -1 ∧ M1 = M) ∨
  (M 135 2 < 4 ∧ (∀ o, o ≠ 134 → o ≠ 135 → (o < 138 ∨ 155 < o) → M1 o = M o) ∧ M1 134 3 = 0 ∧
    (((txR B L).1 = 0 ∧ x = M 135 2 ∧ M1 135 = setN (M 135) 2 (M 135 2 + 1) ∧ (M1 134 4 = 0 ∧ M1 134 5 = -1) ∧ MSC (M 135 2).toNat M1 (txR B L).2.2 ∧ (∀ t : Nat, (t : Int) < M 135 2 → ∀ acc, acc.length ≤ 24 → MSC t M acc → MSC t M1 acc)) ∨
     ((txR B L).1 ≠ 0 ∧ x = -1 ∧ M1 135 = M 135 ∧ (M1 134 4 = (txR B L).1 ∧ M1 134 5 = tkP B L (txR B L).2.1) ∧ ∀ o, 138 ≤ o → o ≤ 145 → M1 o = M o)))
theorem ct_X9_text (hd : 7 ≤ d) (hL : L ≤ 300) (h3 : M 134 3 = L) (hT : TPE (M 137) B L) (h2 : 0 ≤ M 135 2 ∧ M 135 2 ≤ 4) : GI l w yX9_text cX9_text 3 .int d [vR 134] M (fun x M1 => TXM B L M x M1) := by
  have hNN : tkN B L ≤ 300 := Nat.le_trans (tk_all (B := B) (L := L)).1.2 hL
  have hK : ∀ t, tkN B L ≤ t → tkK B L t = 0 := fun t h => tkK_z h
  refine MT.of [some (vR 134), none, none] ⟨by decide, rfl⟩ rfl (Nat.le_of_ble_eq_true rfl) (fun hA hM => ?_)
  by_cases h4 : M 135 2 = 4
  · refine e_aload0 dX9_text_0 ?_
    refine e_getR fl_X9_7 la_134 rfl dX9_text_1 ?_
    refine e_iconst dX9_text_4 rfl kc_2 ?_
    refine e_ialdK (k := 2) la_135 (by decide) (rfl) dX9_text_5 ?_
    refine WW.ec (y := 4) (h4) ?_
    refine e_iconst dX9_text_6 rfl kc_4 ?_
    refine e_icmp_ne (tgt := 12) dX9_text_7 (by decide) (fun h7 => ?_) (fun h7 => ?_)
    · omega
    · refine e_iconst dX9_text_10 rfl kc_m1 ?_
      refine e_iret dX9_text_11 ?_
      exact ⟨_, rfl, Or.inl ⟨h4, rfl, rfl⟩⟩
  · obtain ⟨tt, htt⟩ : ∃ tt : Nat, M 135 2 = tt := ⟨(M 135 2).toNat, by omega⟩
    have start : ∀ N : Mem, (∀ o, o ≠ 134 → N o = M o) → N 134 3 = 0 → N 134 14 = L → N 134 15 = 0 → N 134 19 = 0 → N 134 20 = -1 → N 134 21 = 0 → N 134 22 = 0 → N 134 24 = 0 → N 134 27 = 4 → N 134 28 = 0 → N 134 35 = 0 → WM l w RX9 cX9_text 3 (some .int) d (fun r M1 => ∃ x, r = some (vI x) ∧ TXM B L M x M1) 70 [some (vR 134), none, none] [] N := by
      intro N ho n3 n14 n15 n19 n20 n21 n22 n24 n27 n28 n35
      have mb : MB B L N [] [] [] 0 := ⟨⟨n14, by rw [ho 137 (by decide)]; exact hT⟩, ⟨n19, n20, n21⟩, ⟨n22, trivial⟩, ⟨n24, trivial⟩, n35, fun i x hx => by simp at hx⟩
      have hnxt := ct_X9_next (l := l) (w := w) (d := d - 1) (M := N) (B := B) (L := L) (t := 0) (by omega) hL mb.1.2 mb.1.1 ⟨0, L, n15, by omega, by omega, rfl⟩
      refine e_aload0 dX9_text_70 ?_
      refine e_cVGV (hnxt) cy_X9_next cv_X9_next ml_X9_218 la_134 rfl rfl rfl (rok (by omega) (by decide)) (Nat.le_of_ble_eq_true rfl) dX9_text_71 (fun N1 hx => ?_)
      obtain ⟨hf, hct⟩ := hx
      have fr1 : ∀ N2, FCl N1 N2 → (∀ o, o ≠ 134 → (o < 146 ∨ 155 < o) → N2 o = M o) ∧ N2 134 3 = 0 := fun N2 fc => ⟨fun o a b => by rw [fc.1 o a b, hf.1 o a, ho o a], by rw [fc.2 3 (by decide) (by decide) (by decide) (by decide) (by decide) (by decide), hf.2 3 (by decide)]; exact n3⟩
      refine tx_loop (F := 1203) hd hL (by omega) (M0 := N1) 302 0 [] [] N1 (FCl.rf N1) ⟨hct, mb.fn hf, Nat.le_refl _⟩ (by rw [hf.2 27 (by decide)]; exact n27) ⟨by rw [hf.2 28 (by decide)]; exact n28, fun k c hc => by simp at hc⟩ (by decide) (Nat.zero_le _) (by omega) (fun z N2 E' fc hncl hemi hel h19 => ?_) (fun z N2 fc her => ?_)
      · -- a good text
        obtain ⟨fo, f3⟩ := fr1 N2 fc
        have z2 : (txR B L).1 = 0 := z
        have hncl2 : NCL N2 E' (txR B L).2.2 := hncl
        have hacc : accOk (txR B L).2.2 := Tx_ok hK (fun t h => tkV_1 t h) 302 0 [] ⟨by decide, fun c hc => by cases hc⟩
        have hunq : UNQ (txR B L).2.2 := Tx_unq hK 302 0 [] (fun k c hc => by simp at hc)
        have e135 : N2 135 = M 135 := fo 135 (by decide) (by decide)
        have hfin : TXM B L M tt (up (cp2 (cp1 (up (up (up N2 134 4 0) 134 5 (-1)) 138 tt ((txR B L).2.2.length : Int)) tt (txR B L).2.2.length) tt E'.length) 135 2 ((tt : Int) + 1)) := by
          have row : ∀ o, o ≠ 134 → o ≠ 135 → o ≠ 138 → (o < 139 ∨ 145 < o) → up (cp2 (cp1 (up (up (up N2 134 4 0) 134 5 (-1)) 138 tt ((txR B L).2.2.length : Int)) tt (txR B L).2.2.length) tt E'.length) 135 2 ((tt : Int) + 1) o = N2 o := fun o a b c e => by rw [up_row b, cp2_o (by omega) (by omega), cp1_o (by omega), up_row c, up_row a, up_row a]
          have k134 : ∀ q, up (cp2 (cp1 (up (up (up N2 134 4 0) 134 5 (-1)) 138 tt ((txR B L).2.2.length : Int)) tt (txR B L).2.2.length) tt E'.length) 135 2 ((tt : Int) + 1) 134 q = up (up N2 134 4 0) 134 5 (-1) 134 q := fun q => by rw [up_o (by decide), cp2_o (by decide) (by decide), cp1_o (by decide), up_o (by decide)]
          have k139 : ∀ o q, 139 ≤ o → o ≤ 143 → up (cp2 (cp1 (up (up (up N2 134 4 0) 134 5 (-1)) 138 tt ((txR B L).2.2.length : Int)) tt (txR B L).2.2.length) tt E'.length) 135 2 ((tt : Int) + 1) o q = if 24 * tt ≤ q ∧ q < 24 * tt + (txR B L).2.2.length then (if o = 140 then 400 * (tt : Int) + N2 150 (q - 24 * tt) else N2 (o + 10) (q - 24 * tt)) else M o q := by
            intro o q a b
            rw [up_o (by omega), cp2_o (by omega) (by omega)]
            unfold cp1
            have ro : ∀ p, p ≠ 134 → p ≠ 138 → up (up (up N2 134 4 0) 134 5 (-1)) 138 tt ((txR B L).2.2.length : Int) p = N2 p := fun p c e => by rw [up_row e, up_row c, up_row c]
            by_cases y : 24 * tt ≤ q ∧ q < 24 * tt + (txR B L).2.2.length
            · rw [if_pos ⟨⟨a, b⟩, y⟩, if_pos y, ro 150 (by decide) (by decide), ro (o + 10) (by omega) (by omega)]
            · rw [if_neg (fun z => y z.2), if_neg y, ro o (by omega) (by omega), fo o (by omega) (by omega)]
          have k144 : ∀ o q, (o = 144 ∨ o = 145) → up (cp2 (cp1 (up (up (up N2 134 4 0) 134 5 (-1)) 138 tt ((txR B L).2.2.length : Int)) tt (txR B L).2.2.length) tt E'.length) 135 2 ((tt : Int) + 1) o q = if 400 * tt ≤ q ∧ q < 400 * tt + E'.length then N2 (o + 10) (q - 400 * tt) else M o q := by
            intro o q a
            rw [up_o (by omega)]
            unfold cp2
            by_cases y : 400 * tt ≤ q ∧ q < 400 * tt + E'.length
            · rw [if_pos ⟨a, y⟩, if_pos y, cp1_o (by omega), up_row (by omega), up_row (by omega), up_row (by omega)]
            · rw [if_neg (fun z => y z.2), if_neg y, cp1_o (by omega), up_row (by omega), up_row (by omega), up_row (by omega), fo o (by omega) (by omega)]
          have k138 : ∀ q, up (cp2 (cp1 (up (up (up N2 134 4 0) 134 5 (-1)) 138 tt ((txR B L).2.2.length : Int)) tt (txR B L).2.2.length) tt E'.length) 135 2 ((tt : Int) + 1) 138 q = up N2 138 tt ((txR B L).2.2.length : Int) 138 q := fun q => by rw [up_o (by decide), cp2_o (by decide) (by decide), cp1_o (by decide)]; exact congrFun (up_c (by rw [up_row (by decide), up_row (by decide)]) rfl) q
          refine Or.inr ⟨by omega, fun o a b c => ?_, ?_, Or.inl ⟨z2, htt.symm, ?_, ⟨?_, ?_⟩, ?_, ?_⟩⟩
          · rw [row o a b (by omega) (by omega)]; exact fo o a (by omega)
          · rw [k134, up_k (by decide), up_k (by decide)]; exact f3
          · rw [htt, ← e135]
            funext q
            by_cases y : q = 2
            · rw [y, up_s, setN_s]
            · rw [up_k y, setN_o y, cp2_o (by decide) (by decide), cp1_o (by decide), up_row (by decide), up_row (by decide), up_row (by decide)]
          · rw [k134, up_k (by decide), up_s]
          · rw [k134, up_s]
          · rw [htt, toN]
            refine ⟨by rw [k138, up_s], fun k c hc => ?_⟩
            have hkl := (List.getElem?_eq_some_iff.mp hc).1
            obtain ⟨a1, ⟨p, a2, a3, a4⟩, a5, a6⟩ := hncl2.2 k c hc
            have hcb := (hacc.2 c (List.mem_of_getElem? hc))
            rw [k139 139 _ (by decide) (by decide), k139 140 _ (by decide) (by decide), k139 141 _ (by decide) (by decide), k139 142 _ (by decide) (by decide), k139 143 _ (by decide) (by decide), if_pos (show 24 * tt ≤ 24 * tt + k ∧ 24 * tt + k < 24 * tt + (txR B L).2.2.length by omega), if_neg (by decide), if_pos (show 24 * tt ≤ 24 * tt + k ∧ 24 * tt + k < 24 * tt + (txR B L).2.2.length by omega), if_pos rfl, if_pos (show 24 * tt ≤ 24 * tt + k ∧ 24 * tt + k < 24 * tt + (txR B L).2.2.length by omega), if_neg (by decide), if_pos (show 24 * tt ≤ 24 * tt + k ∧ 24 * tt + k < 24 * tt + (txR B L).2.2.length by omega), if_neg (by decide), if_pos (show 24 * tt ≤ 24 * tt + k ∧ 24 * tt + k < 24 * tt + (txR B L).2.2.length by omega), if_neg (by decide), show 24 * tt + k - 24 * tt = k by omega]
            refine ⟨a1, fun c4 => ⟨⟨400 * tt + p, by rw [a2]; omega, ?_, by omega, ?_⟩, hunq k c hc c4⟩, a5, a6⟩
            · have hend := (a4 c4).2
              have hpl := (List.getElem?_eq_some_iff.mp hend).1
              refine ORD_of c.2.2.2.2 _ 0 1 (hcb.2 c4) (by omega) (fun i x hx => ?_) ?_
              · have hi := (List.getElem?_eq_some_iff.mp hx).1
                have hm2 := hemi.2 _ _ ((a4 c4).1 i x hx)
                rw [k144 144 _ (by omega), k144 145 _ (by omega), if_pos (by omega), if_pos (by omega), show 400 * tt + p + i - 400 * tt = p + i by omega]
                exact hm2
              · have hm2 := hemi.2 _ _ hend
                rw [k144 144 _ (by omega), if_pos (by omega), show 400 * tt + p + c.2.2.2.2.length - 400 * tt = p + c.2.2.2.2.length by omega]
                exact hm2.1
            · have hpl := (List.getElem?_eq_some_iff.mp (a4 c4).2).1
              omega
          · intro t' ht' acc ha hms
            rw [htt] at ht'
            refine ⟨by rw [k138, up_k (by omega), fo 138 (by decide) (by decide)]; exact hms.1, fun k c hc => ?_⟩
            have hkl := (List.getElem?_eq_some_iff.mp hc).1
            have hold := hms.2 k c hc
            rw [k139 139 _ (by decide) (by decide), k139 140 _ (by decide) (by decide), k139 141 _ (by decide) (by decide), k139 142 _ (by decide) (by decide), k139 143 _ (by decide) (by decide), if_neg (by omega), if_neg (by omega), if_neg (by omega), if_neg (by omega), if_neg (by omega)]
            refine ⟨hold.1, fun c4 => ?_, hold.2.2⟩
            obtain ⟨⟨p, b1, b2, b3, b4⟩, b5⟩ := hold.2.1 c4
            refine ⟨⟨p, b1, ORD_fr _ _ (fun i c e => ?_) b2, b3, b4⟩, b5⟩
            rw [k144 144 _ (by omega), k144 145 _ (by omega), if_neg (by omega), if_neg (by omega)]
            exact ⟨rfl, rfl⟩
        have h2e : up (up N2 134 4 0) 134 5 (-1) 135 2 = (tt : Int) := by rw [up_o (by decide), up_o (by decide), e135]; exact htt
        have h334 : WM l w RX9 cX9_text 3 (some .int) d (fun r M1 => ∃ x, r = some (vI x) ∧ TXM B L M x M1) 334 [some (vR 134), some (vI (tt : Int)), some (vI (E'.length : Int))] [] (cp2 (cp1 (up (up (up N2 134 4 0) 134 5 (-1)) 138 tt ((txR B L).2.2.length : Int)) tt (txR B L).2.2.length) tt E'.length) := by
          have e2 : cp2 (cp1 (up (up (up N2 134 4 0) 134 5 (-1)) 138 tt ((txR B L).2.2.length : Int)) tt (txR B L).2.2.length) tt E'.length 135 2 = (tt : Int) := by rw [cp2_o (by decide) (by decide), cp1_o (by decide), up_o (by decide)]; exact h2e
          refine e_aload0 dX9_text_334 ?_
          refine e_getR fl_X9_7 la_134 rfl dX9_text_335 ?_
          refine e_iconst dX9_text_338 rfl kc_2 ?_
          refine e_dup2 dX9_text_339 rfl rfl ?_
          refine e_ialdK (k := 2) la_135 (by decide) (rfl) dX9_text_340 ?_
          refine WW.ec (y := (tt : Int)) (e2) ?_
          refine e_iconst dX9_text_341 rfl kc_1 ?_
          refine e_iadd dX9_text_342 (⟨by omega, by omega⟩) ?_
          refine e_iastK (k := 2) la_135 (by decide) (rfl) dX9_text_343 ?_
          refine e_iload1 dX9_text_344 ?_
          refine e_iret dX9_text_345 ?_
          exact ⟨_, rfl, hfin⟩
        have h284 := tc2_loop (l := l) (w := w) (d := d) (M := cp1 (up (up (up N2 134 4 0) 134 5 (-1)) 138 tt ((txR B L).2.2.length : Int)) tt (txR B L).2.2.length) (tt := tt) (c := E'.length) (by omega) hel (by rw [cp1_o (by decide), up_o (by decide), up_k (by decide), up_k (by decide)]; exact hemi.1) h334 E'.length 0 (by omega)
        rw [cp2_0] at h284
        have h282 : WM l w RX9 cX9_text 3 (some .int) d (fun r M1 => ∃ x, r = some (vI x) ∧ TXM B L M x M1) 282 [some (vR 134), some (vI (tt : Int)), some (vI ((txR B L).2.2.length : Int))] [] (cp1 (up (up (up N2 134 4 0) 134 5 (-1)) 138 tt ((txR B L).2.2.length : Int)) tt (txR B L).2.2.length) := by
          refine e_iconst dX9_text_282 rfl kc_0 ?_
          refine e_istore2 dX9_text_283 rfl ?_
          exact h284
        have h177 := tc1_loop (l := l) (w := w) (d := d) (M := up (up (up N2 134 4 0) 134 5 (-1)) 138 tt ((txR B L).2.2.length : Int)) (tt := tt) (c := (txR B L).2.2.length) (by omega) hacc.1 (by rw [up_o (by decide), up_k (by decide), up_k (by decide)]; exact hncl2.1) (fun k hk => by
          obtain ⟨c, hc⟩ : ∃ c, (txR B L).2.2[k]? = some c := ⟨_, List.getElem?_eq_getElem hk⟩
          obtain ⟨_, ⟨p, a2, a3, _⟩, _⟩ := hncl2.2 k c hc
          rw [up_o (by decide), up_o (by decide), up_o (by decide), a2]
          omega) h282 (txR B L).2.2.length 0 (by omega)
        rw [cp1_0] at h177
        have e28 : up (up N2 134 4 0) 134 5 (-1) 134 28 = ((txR B L).2.2.length : Int) := by rw [up_k (by decide), up_k (by decide)]; exact hncl2.1
        refine e_aload0 dX9_text_133 ?_
        refine e_aload0 dX9_text_134 ?_
        refine e_getI fl_X9_197 la_134 rfl dX9_text_135 ?_
        refine WW.ec (y := 0) (h19.1) ?_
        refine e_putI fp_X9_20 la_134 rfl dX9_text_138 ?_
        refine e_aload0 dX9_text_141 ?_
        refine e_aload0 dX9_text_142 ?_
        refine e_getI fl_X9_200 la_134 rfl dX9_text_143 ?_
        refine WW.ec (y := -1) (by rw [up_k (by decide)]; exact h19.2) ?_
        refine e_putI fp_X9_24 la_134 rfl dX9_text_146 ?_
        refine e_aload0 dX9_text_149 ?_
        refine e_getI fl_X9_197 la_134 rfl dX9_text_150 ?_
        refine WW.ec (y := 0) (by rw [up_k (by decide), up_k (by decide)]; exact h19.1) ?_
        refine e_if_le (tgt := 158) dX9_text_153 (by decide) (fun h153 => ?_) (fun h => absurd h (by decide))
        refine e_aload0 dX9_text_158 ?_
        refine e_getR fl_X9_7 la_134 rfl dX9_text_159 ?_
        refine e_iconst dX9_text_162 rfl kc_2 ?_
        refine e_ialdK (k := 2) la_135 (by decide) (rfl) dX9_text_163 ?_
        refine WW.ec (y := (tt : Int)) (h2e) ?_
        refine e_istore1 dX9_text_164 rfl ?_
        refine e_aload0 dX9_text_165 ?_
        refine e_getR fl_X9_27 la_134 rfl dX9_text_166 ?_
        refine e_iload1 dX9_text_169 ?_
        refine e_aload0 dX9_text_170 ?_
        refine e_getI fl_X9_259 la_134 rfl dX9_text_171 ?_
        refine WW.ec (y := ((txR B L).2.2.length : Int)) (e28) ?_
        refine e_iastK (k := tt) la_138 (by omega) (by omega) dX9_text_174 ?_
        refine e_iconst dX9_text_175 rfl kc_0 ?_
        refine e_istore2 dX9_text_176 rfl ?_
        exact h177
      · -- a fault
        obtain ⟨fo, f3⟩ := fr1 N2 fc
        have z2 : (txR B L).1 ≠ 0 := z
        have her2 : ER B L N2 (txR B L).1 (txR B L).2.1 := her
        have hpos : 0 ≤ (txR B L).1 := Tx_nn 302 0 []
        have hfin : TXM B L M (-1) (up (up N2 134 4 (txR B L).1) 134 5 (tkP B L (txR B L).2.1)) := Or.inr ⟨by omega, fun o a b c => by rw [up_row a, up_row a]; exact fo o a (by omega), by rw [up_k (by decide), up_k (by decide)]; exact f3, Or.inr ⟨z2, rfl, by rw [up_row (by decide), up_row (by decide)]; exact fo 135 (by decide) (by decide), ⟨by rw [up_k (by decide), up_s], by rw [up_s]⟩, fun o a b => by rw [up_row (by omega), up_row (by omega)]; exact fo o (by omega) (by omega)⟩⟩
        refine e_aload0 dX9_text_133 ?_
        refine e_aload0 dX9_text_134 ?_
        refine e_getI fl_X9_197 la_134 rfl dX9_text_135 ?_
        refine WW.ec (y := (txR B L).1) (her2.1) ?_
        refine e_putI fp_X9_20 la_134 rfl dX9_text_138 ?_
        refine e_aload0 dX9_text_141 ?_
        refine e_aload0 dX9_text_142 ?_
        refine e_getI fl_X9_200 la_134 rfl dX9_text_143 ?_
        refine WW.ec (y := (tkP B L (txR B L).2.1 : Int)) (by rw [up_k (by decide)]; exact her2.2) ?_
        refine e_putI fp_X9_24 la_134 rfl dX9_text_146 ?_
        refine e_aload0 dX9_text_149 ?_
        refine e_getI fl_X9_197 la_134 rfl dX9_text_150 ?_
        refine WW.ec (y := (txR B L).1) (by rw [up_k (by decide), up_k (by decide)]; exact her2.1) ?_
        refine e_if_le (tgt := 158) dX9_text_153 (by decide) (fun h153 => ?_) (fun h153 => ?_)
        · omega
        · refine e_iconst dX9_text_156 rfl kc_m1 ?_
          refine e_iret dX9_text_157 ?_
          exact ⟨_, rfl, hfin⟩
    refine e_aload0 dX9_text_0 ?_
    refine e_getR fl_X9_7 la_134 rfl dX9_text_1 ?_
    refine e_iconst dX9_text_4 rfl kc_2 ?_
    refine e_ialdK (k := 2) la_135 (by decide) (rfl) dX9_text_5 ?_
    refine e_iconst dX9_text_6 rfl kc_4 ?_
    refine e_icmp_ne (tgt := 12) dX9_text_7 (by decide) (fun h7 => ?_) (fun h7 => ?_)
    · refine e_aload0 dX9_text_12 ?_
      refine e_aload0 dX9_text_13 ?_
      refine e_getI fl_X9_128 la_134 rfl dX9_text_14 ?_
      refine WW.ec (y := (L : Int)) (h3) ?_
      refine e_putI fp_X9_174 la_134 rfl dX9_text_17 ?_
      refine e_aload0 dX9_text_20 ?_
      refine e_iconst dX9_text_21 rfl kc_0 ?_
      refine e_putI fp_X9_128 la_134 rfl dX9_text_22 ?_
      refine e_aload0 dX9_text_25 ?_
      refine e_iconst dX9_text_26 rfl kc_0 ?_
      refine e_putI fp_X9_171 la_134 rfl dX9_text_27 ?_
      refine e_aload0 dX9_text_30 ?_
      refine e_iconst dX9_text_31 rfl kc_0 ?_
      refine e_putI fp_X9_197 la_134 rfl dX9_text_32 ?_
      refine e_aload0 dX9_text_35 ?_
      refine e_iconst dX9_text_36 rfl kc_m1 ?_
      refine e_putI fp_X9_200 la_134 rfl dX9_text_37 ?_
      refine e_aload0 dX9_text_40 ?_
      refine e_iconst dX9_text_41 rfl kc_0 ?_
      refine e_putI fp_X9_209 la_134 rfl dX9_text_42 ?_
      refine e_aload0 dX9_text_45 ?_
      refine e_iconst dX9_text_46 rfl kc_0 ?_
      refine e_putI fp_X9_206 la_134 rfl dX9_text_47 ?_
      refine e_aload0 dX9_text_50 ?_
      refine e_iconst dX9_text_51 rfl kc_0 ?_
      refine e_putI fp_X9_221 la_134 rfl dX9_text_52 ?_
      refine e_aload0 dX9_text_55 ?_
      refine e_iconst dX9_text_56 rfl kc_4 ?_
      refine e_putI fp_X9_250 la_134 rfl dX9_text_57 ?_
      refine e_aload0 dX9_text_60 ?_
      refine e_iconst dX9_text_61 rfl kc_0 ?_
      refine e_putI fp_X9_259 la_134 rfl dX9_text_62 ?_
      refine e_aload0 dX9_text_65 ?_
      refine e_iconst dX9_text_66 rfl kc_0 ?_
      refine e_putI fp_X9_203 la_134 rfl dX9_text_67 ?_
      refine start _ (fun o a => ?_) ?_ ?_ ?_ ?_ ?_ ?_ ?_ ?_ ?_ ?_ ?_
      · rw [up_row a, up_row a, up_row a, up_row a, up_row a, up_row a, up_row a, up_row a, up_row a, up_row a, up_row a]
      all_goals simp [up]
    · omega
end MTEXT2
