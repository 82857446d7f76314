/-! THE MODEL'S CLAUSES -/
theorem MB.fr {B : Nat → Int} {L : Nat} {M M1 : Mem} {fr : List Int} {W E : List (Int × Int)} {o : Nat} (h : MB B L M fr W E o) (ho : ∀ o, (o = 137 ∨ (146 ≤ o ∧ o ≤ 148) ∨ o = 154 ∨ o = 155) → M1 o = M o) (hk : ∀ k, (k = 14 ∨ (19 ≤ k ∧ k ≤ 22) ∨ k = 24 ∨ k = 35) → M1 134 k = M 134 k) : MB B L M1 fr W E o := by
  obtain ⟨h1, h2, h3, h4, h5⟩ := h
  unfold MB EMI
  rw [hk 14 (by omega), hk 19 (by omega), hk 20 (by omega), hk 21 (by omega), hk 22 (by omega), hk 24 (by omega), hk 35 (by omega), ho 137 (by omega), ho 154 (by omega), ho 155 (by omega)]
  exact ⟨h1, h2, ⟨h3.1, frO_c (ho 146 (by omega)) h3.2⟩, ⟨h4.1, wtO_c (ho 147 (by omega)) (ho 148 (by omega)) h4.2⟩, h5⟩
/-- the clauses told so far -/
def NCL (M : Mem) (E : List (Int × Int)) (acc : List Cz) : Prop := M 134 28 = acc.length ∧ ∀ (k : Nat) (c : Cz), acc[k]? = some c → M 149 k = c.1 ∧ (∃ p : Nat, M 150 k = p ∧ p < E.length ∧ (c.1 < 4 → (∀ (i : Nat) (x : Int), c.2.2.2.2[i]? = some x → E[p + i]? = some (cd x)) ∧ E[p + c.2.2.2.2.length]? = some (408, 0))) ∧ (4 ≤ c.1 → M 151 k = c.2.1) ∧ (c.1 = 4 → M 152 k = c.2.2.1 ∧ M 153 k = c.2.2.2.1)
def FCl (M M1 : Mem) : Prop := (∀ o, o ≠ 134 → (o < 146 ∨ 155 < o) → M1 o = M o) ∧ ∀ k, (k < 15 ∨ 22 < k) → k ≠ 24 → k ≠ 27 → k ≠ 28 → k ≠ 29 → k ≠ 35 → M1 134 k = M 134 k
def OLD (M M1 : Mem) (c : Nat) : Prop := ∀ k, k < c → ∀ o, 149 ≤ o → o ≤ 153 → M1 o k = M o k
theorem FCl.rf (M : Mem) : FCl M M := ⟨fun _ _ _ => rfl, fun _ _ _ _ _ _ _ => rfl⟩
theorem FCl.tr {M M1 M2 : Mem} (h : FCl M M1) (h2 : FCl M1 M2) : FCl M M2 := ⟨fun o a b => (h2.1 o a b).trans (h.1 o a b), fun k a b c e f g => (h2.2 k a b c e f g).trans (h.2 k a b c e f g)⟩
theorem FS.fcl {M M1 : Mem} (h : FS M M1) : FCl M M1 := ⟨fun o a b => h.1 o a (by omega) (by omega) (by omega), fun k a b c e f g => h.2 k a b c g⟩
theorem FN.fcl {M M1 : Mem} (h : FN M M1) : FCl M M1 := h.fs.fcl
theorem FCl.uo {M M1 : Mem} {o k : Nat} {v : Int} (h : FCl M M1) (ho : 146 ≤ o ∧ o ≤ 155) : FCl M (up M1 o k v) := ⟨fun q a b => by rw [up_row (by omega)]; exact h.1 q a b, fun q a b c e f g => by rw [up_o (by omega)]; exact h.2 q a b c e f g⟩
theorem FCl.u {M M1 : Mem} {k : Nat} {v : Int} (h : FCl M M1) (hk : (15 ≤ k ∧ k ≤ 22) ∨ k = 24 ∨ k = 27 ∨ k = 28 ∨ k = 29 ∨ k = 35) : FCl M (up M1 134 k v) := ⟨fun q a b => by rw [up_row a]; exact h.1 q a b, fun q a b c e f g => by rw [up_k (by omega)]; exact h.2 q a b c e f g⟩
theorem OLD.rf (M : Mem) (c : Nat) : OLD M M c := fun _ _ _ _ _ => rfl
theorem OLD.tr {M M1 M2 : Mem} {c : Nat} (h : OLD M M1 c) (h2 : ∀ o, 149 ≤ o → o ≤ 153 → M2 o = M1 o) : OLD M M2 c := fun k hk o a b => by rw [h2 o a b]; exact h k hk o a b
theorem OLD.u {M M1 : Mem} {c o : Nat} {v : Int} (h : OLD M M1 c) : OLD M (up M1 o c v) c := fun k hk q a b => by rw [up_k (by omega)]; exact h k hk q a b
theorem NCL.ext {M M1 : Mem} {E X : List (Int × Int)} {acc : List Cz} {c : Cz} (h : NCL M E acc) (h28 : M1 134 28 = (acc.length : Int) + 1) (ho : OLD M M1 acc.length) (hw : M1 149 acc.length = c.1) (hp : ∃ p : Nat, M1 150 acc.length = p ∧ p < (E ++ X).length ∧ (c.1 < 4 → (∀ (i : Nat) (x : Int), c.2.2.2.2[i]? = some x → (E ++ X)[p + i]? = some (cd x)) ∧ (E ++ X)[p + c.2.2.2.2.length]? = some (408, 0))) (h1 : 4 ≤ c.1 → M1 151 acc.length = c.2.1) (h2 : c.1 = 4 → M1 152 acc.length = c.2.2.1 ∧ M1 153 acc.length = c.2.2.2.1) : NCL M1 (E ++ X) (acc ++ [c]) := by
  refine ⟨by rw [h28, List.length_append]; rfl, fun k z hz => ?_⟩
  by_cases q : k < acc.length
  · rw [List.getElem?_append_left q] at hz
    obtain ⟨a1, ⟨p, a2, a3, a4⟩, a5, a6⟩ := h.2 k z hz
    rw [ho k q 149 (by decide) (by decide), ho k q 150 (by decide) (by decide), ho k q 151 (by decide) (by decide), ho k q 152 (by decide) (by decide), ho k q 153 (by decide) (by decide)]
    have lf : ∀ (i : Nat) (y : Int × Int), E[i]? = some y → (E ++ X)[i]? = some y := fun i y hy => by
      rw [List.getElem?_append_left (List.getElem?_eq_some_iff.mp hy).1]; exact hy
    exact ⟨a1, ⟨p, a2, by rw [List.length_append]; omega, fun h4 => ⟨fun i x hx => lf _ _ ((a4 h4).1 i x hx), lf _ _ (a4 h4).2⟩⟩, a5, a6⟩
  · have hi := (List.getElem?_eq_some_iff.mp hz).1
    rw [List.length_append, List.length_singleton] at hi
    obtain rfl : k = acc.length := by omega
    rw [List.getElem?_append_right (Nat.le_refl _), Nat.sub_self] at hz
    cases hz
    exact ⟨hw, hp, h1, h2⟩
theorem told_iff {M : Mem} {E : List (Int × Int)} {acc : List Cz} {x : Int} (h : NCL M E acc) : (∃ j, j < acc.length ∧ M 149 j = x) ↔ (lawOf acc x).isSome = true := by
  unfold lawOf
  rw [Option.isSome_map]
  constructor
  · rintro ⟨j, hj, e⟩
    obtain ⟨c, hc⟩ : ∃ c, acc[j]? = some c := ⟨_, List.getElem?_eq_getElem hj⟩
    rw [(h.2 j c hc).1] at e
    rw [List.find?_isSome]
    exact ⟨c, List.mem_of_getElem? hc, by simpa using e⟩
  · intro hs
    rw [List.find?_isSome] at hs
    obtain ⟨c, hc, e⟩ := hs
    obtain ⟨j, hj⟩ := List.getElem?_of_mem hc
    exact ⟨j, (List.getElem?_eq_some_iff.mp hj).1, by rw [(h.2 j c hj).1]; simpa using e⟩
/-- a deed being read -/
def DS (B : Nat → Int) (L : Nat) (M : Mem) (k : Int) (E : List (Int × Int)) (c : Nat) (N : Mem) (t : Nat) : Prop := MS B L N t [] [] E 0 ∧ FCl M N ∧ OLD M N c ∧ N 134 28 = c ∧ N 134 29 = k ∧ N 149 c = k ∧ N 150 c = E.length
theorem DS.fn {B : Nat → Int} {L : Nat} {M N N1 : Mem} {k : Int} {E : List (Int × Int)} {c t : Nat} (h : DS B L M k E c N t) (hf : FN N N1) (hc : CT B L N1 (t + 1)) : DS B L M k E c N1 (t + 1) := by
  obtain ⟨⟨_, h2, h3⟩, h4, h5, h6, h7, h8, h9⟩ := h
  refine ⟨⟨hc, h2.fn hf, by omega⟩, h4.tr hf.fcl, h5.tr (fun o a b => hf.1 o (by omega)), ?_, ?_, ?_, ?_⟩
  · rw [hf.2 28 (by decide)]; exact h6
  · rw [hf.2 29 (by decide)]; exact h7
  · rw [hf.1 149 (by decide)]; exact h8
  · rw [hf.1 150 (by decide)]; exact h9
theorem DS.st {B : Nat → Int} {L : Nat} {M N : Mem} {k v : Int} {E : List (Int × Int)} {c t o : Nat} (h : DS B L M k E c N t) (ho : 151 ≤ o ∧ o ≤ 153) : DS B L M k E c (up N o c v) t := by
  obtain ⟨⟨h1, h2, h3⟩, h4, h5, h6, h7, h8, h9⟩ := h
  refine ⟨⟨h1.fr (fun k a b => up_o (by omega)), h2.fr (fun q hq => up_row (by omega)) (fun q hq => up_o (by omega)), h3⟩, h4.uo (by omega), h5.u, ?_, ?_, ?_, ?_⟩
  · rw [up_o (by omega)]; exact h6
  · rw [up_o (by omega)]; exact h7
  · rw [up_o (by omega)]; exact h8
  · rw [up_o (by omega)]; exact h9
section MCL2
variable {l : Launch} {w : Wd} {d : Nat} {M : Mem} {Q : Option MV → Mem → Prop} {B : Nat → Int} {L t : Nat} {k : Int} {E : List (Int × Int)} {c : Nat}
/-- the end of a deed -/
theorem cl_263 (hd : 6 ≤ d) (hL : L ≤ 300) {N : Mem} (ht : t ≤ 300) (hD : DS B L M k E c N t) (hc : c < 24) (hok : tkK B L t = 59 → ∀ N1, CIO B L N (t + 1) E 0 N1 → Q none N1) (hbad : tkK B L t ≠ 59 → Q none (erM N 1)) : WM l w RX9 cX9_clause 1 none d Q 263 [some (vR 134)] [] N := by
  have htk := hD.1.1.2.1
  have hw19 := hD.1.2.1.2.1.1
  by_cases k59 : tkK B L t = 59
  · have hs : N 134 17 = 3 ∧ N 134 18 = 59 := by
      rcases htk with q | q | q | q | q
      · omega
      · omega
      · omega
      · exact ⟨q.2.1, q.2.2.trans k59⟩
      · omega
    clear htk
    have hci := ct_clauseIsOver (l := l) (w := w) (d := d - 1) (M := N) (by omega) hL ht hD.1 (fun y hy => by cases hy) (by decide) (by omega) (by omega) (by rw [hD.2.2.2.1]; omega)
    have hq := hok k59
    refine e_aload0 dX9_clause_263 ?_
    refine e_getI fl_X9_197 la_134 rfl dX9_clause_264 ?_
    refine e_if_ne (tgt := 284) dX9_clause_267 (by decide) (fun h => absurd h (by omega)) (fun h267 => ?_)
    refine e_aload0 dX9_clause_270 ?_
    refine e_bipush dX9_clause_271 rfl kb_59 ?_
    refine e_cVZ (ct_X9_isSign (d := d - 1)) cy_X9_isSign cv_X9_isSign ml_X9_240 la_134 rfl rfl rfl (rok (by omega) (by decide)) (Nat.le_of_ble_eq_true rfl) dX9_clause_273 (fun g273 => ?_) (fun g273 => ?_)
    · refine e_if_ne (tgt := 284) dX9_clause_276 (by decide) (fun _ => ?_) (fun h => absurd h (by decide))
      refine e_aload0 dX9_clause_284 ?_
      refine e_getI fl_X9_197 la_134 rfl dX9_clause_285 ?_
      refine e_if_ne (tgt := 295) dX9_clause_288 (by decide) (fun h => absurd h (by omega)) (fun h288 => ?_)
      refine e_aload0 dX9_clause_291 ?_
      refine e_cVGV (hci) cy_X9_clauseIsOver cv_X9_clauseIsOver ml_X9_256 la_134 rfl rfl rfl (rok (by omega) (by decide)) (Nat.le_of_ble_eq_true rfl) dX9_clause_292 (fun N1 hx => ?_)
      refine e_vret dX9_clause_295 ?_
      refine hq N1 ?_
      rw [show cds ([] : List (Int × Int)) = [] from rfl, List.append_nil] at hx
      exact hx
    · refine e_if_ne (tgt := 284) dX9_clause_276 (by decide) (fun h => absurd h (by decide)) (fun _ => ?_)
      exact absurd hs g273
  · have hs : ¬ (N 134 17 = 3 ∧ N 134 18 = 59) := by
      rcases htk with q | q | q | q | q
      · omega
      · omega
      · omega
      · have := q.2; omega
      · have := q.2; omega
    clear htk
    have e19 : erM N 1 134 19 ≠ 0 := by unfold erM; rw [up_k (by decide), up_s]; decide
    have hq := hbad k59
    have h284 : WM l w RX9 cX9_clause 1 none d Q 284 [some (vR 134)] [] (erM N 1) := by
      refine e_aload0 dX9_clause_284 ?_
      refine e_getI fl_X9_197 la_134 rfl dX9_clause_285 ?_
      refine e_if_ne (tgt := 295) dX9_clause_288 (by decide) (fun h288 => ?_) (fun h => absurd h (by omega))
      refine e_vret dX9_clause_295 ?_
      exact hq
    refine e_aload0 dX9_clause_263 ?_
    refine e_getI fl_X9_197 la_134 rfl dX9_clause_264 ?_
    refine e_if_ne (tgt := 284) dX9_clause_267 (by decide) (fun h => absurd h (by omega)) (fun h267 => ?_)
    refine e_aload0 dX9_clause_270 ?_
    refine e_bipush dX9_clause_271 rfl kb_59 ?_
    refine e_cVZ (ct_X9_isSign (d := d - 1)) cy_X9_isSign cv_X9_isSign ml_X9_240 la_134 rfl rfl rfl (rok (by omega) (by decide)) (Nat.le_of_ble_eq_true rfl) dX9_clause_273 (fun g273 => ?_) (fun g273 => ?_)
    · refine e_if_ne (tgt := 284) dX9_clause_276 (by decide) (fun _ => ?_) (fun h => absurd h (by decide))
      first | exact absurd g273 hs | exact h284
    · refine e_if_ne (tgt := 284) dX9_clause_276 (by decide) (fun h => absurd h (by decide)) (fun _ => ?_)
      refine e_aload0 dX9_clause_279 ?_
      refine e_iconst dX9_clause_280 rfl kc_1 ?_
      refine e_cVV (ct_X9_errs0 (d := d - 1) hw19) cy_X9_errs cv_X9_errs ml_X9_212 la_134 rfl rfl rfl (rok (by omega) (by decide)) (Nat.le_of_ble_eq_true rfl) dX9_clause_281 ?_
      first | exact absurd g273 hs | exact h284
/-- behind a fault nothing happens -/
theorem cl_263e {N : Mem} (h : N 134 19 ≠ 0) (hQ : Q none N) : WM l w RX9 cX9_clause 1 none d Q 263 [some (vR 134)] [] N := by
  refine e_aload0 dX9_clause_263 ?_
  refine e_getI fl_X9_197 la_134 rfl dX9_clause_264 ?_
  refine e_if_ne (tgt := 284) dX9_clause_267 (by decide) (fun h267 => ?_) (fun h => absurd h (by omega))
  refine e_aload0 dX9_clause_284 ?_
  refine e_getI fl_X9_197 la_134 rfl dX9_clause_285 ?_
  refine e_if_ne (tgt := 295) dX9_clause_288 (by decide) (fun h288 => ?_) (fun h => absurd h (by omega))
  refine e_vret dX9_clause_295 ?_
  exact hQ
theorem er_19 {N : Mem} {f : Int} : erM N f 134 19 = f ∧ ∀ k, k ≠ 19 → k ≠ 20 → erM N f 134 k = N 134 k := by
  unfold erM
  exact ⟨by rw [up_k (by decide), up_s], fun k a b => by rw [up_k b, up_k a]⟩
theorem ER.uo {N : Mem} {f v : Int} {o q : Nat} (h : ER B L N f t) (ho : o ≠ 134) : ER B L (up N o q v) f t := by
  unfold ER
  rw [up_o (fun z => ho z.symm), up_o (fun z => ho z.symm)]
  exact h
/-- the rest of a buying, behind a fault -/
theorem cl_241e (hd : 2 ≤ d) {N : Mem} {f : Int} {tt : Nat} (hc : c < 24) (hN : FCl M N) (h28 : N 134 28 = c) (hE : ER B L N f tt) (hf : 0 < f) (hQ : ∀ N1, FCl M N1 → ER B L N1 f tt → Q none N1) : WM l w RX9 cX9_clause 1 none d Q 241 [some (vR 134)] [] N := by
  have h19 : N 134 19 = f := hE.1
  have h263 := cl_263e (l := l) (w := w) (d := d) (Q := Q) (N := up N 153 c 0) (by rw [up_o (by decide), h19]; omega) (hQ _ (hN.uo (by decide)) (hE.uo (by decide)))
  refine e_aload0 dX9_clause_241 ?_
  refine e_bipush dX9_clause_242 rfl kb_9 ?_
  refine e_cVV (ct_wants_w (d := d - 1) (by omega)) cy_X9_wants cv_X9_wants ml_X9_272 la_134 rfl rfl rfl (rok (by omega) (by decide)) (Nat.le_of_ble_eq_true rfl) dX9_clause_244 ?_
  refine e_aload0 dX9_clause_247 ?_
  refine e_getR fl_X9_72 la_134 rfl dX9_clause_248 ?_
  refine e_aload0 dX9_clause_251 ?_
  refine e_getI fl_X9_259 la_134 rfl dX9_clause_252 ?_
  refine WW.ec (y := (c : Int)) (h28) ?_
  refine e_aload0 dX9_clause_255 ?_
  refine e_iconst dX9_clause_256 rfl kc_0 ?_
  refine e_bipush dX9_clause_257 rfl kb_7 ?_
  refine e_cVI (ct_number_w (d := d - 1) (by omega) (by omega) (by omega)) cy_X9_number cv_X9_number ml_X9_268 la_134 rfl rfl rfl (rok (by omega) (by decide)) (Nat.le_of_ble_eq_true rfl) dX9_clause_259 ?_
  refine e_iastK (k := c) la_153 (by omega) (by omega) dX9_clause_262 ?_
  exact h263
theorem cl_220e (hd : 2 ≤ d) {N : Mem} {f : Int} {tt : Nat} (hc : c < 24) (hN : FCl M N) (h28 : N 134 28 = c) (hE : ER B L N f tt) (hf : 0 < f) (hQ : ∀ N1, FCl M N1 → ER B L N1 f tt → Q none N1) : WM l w RX9 cX9_clause 1 none d Q 220 [some (vR 134)] [] N := by
  have h19 : N 134 19 = f := hE.1
  have h241 := cl_241e (l := l) (w := w) (d := d) (Q := Q) (N := up N 152 c 0) hd hc (hN.uo (by decide)) (by rw [up_o (by decide)]; exact h28) (hE.uo (by decide)) hf hQ
  refine e_aload0 dX9_clause_220 ?_
  refine e_bipush dX9_clause_221 rfl kb_8 ?_
  refine e_cVV (ct_wants_w (d := d - 1) (by omega)) cy_X9_wants cv_X9_wants ml_X9_272 la_134 rfl rfl rfl (rok (by omega) (by decide)) (Nat.le_of_ble_eq_true rfl) dX9_clause_223 ?_
  refine e_aload0 dX9_clause_226 ?_
  refine e_getR fl_X9_69 la_134 rfl dX9_clause_227 ?_
  refine e_aload0 dX9_clause_230 ?_
  refine e_getI fl_X9_259 la_134 rfl dX9_clause_231 ?_
  refine WW.ec (y := (c : Int)) (h28) ?_
  refine e_aload0 dX9_clause_234 ?_
  refine e_iconst dX9_clause_235 rfl kc_0 ?_
  refine e_iconst dX9_clause_236 rfl kc_5 ?_
  refine e_cVI (ct_number_w (d := d - 1) (by omega) (by omega) (by omega)) cy_X9_number cv_X9_number ml_X9_268 la_134 rfl rfl rfl (rok (by omega) (by decide)) (Nat.le_of_ble_eq_true rfl) dX9_clause_237 ?_
  refine e_iastK (k := c) la_152 (by omega) (by omega) dX9_clause_240 ?_
  exact h241
end MCL2
