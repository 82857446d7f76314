/-! THE MODEL'S CLAUSES, whole -/
theorem nbF_01 {K V : Nat → Int} {a b : Int} {t : Nat} : nbF K V a b t = 0 ∨ nbF K V a b t = 1 ∨ nbF K V a b t = 2 := by unfold nbF; split; split <;> omega; omega
theorem wdF_01 {K V : Nat → Int} {a : Int} {t : Nat} : wdF K V a t = 0 ∨ wdF K V a t = 1 := by unfold wdF; split <;> omega
section MCL3
variable {l : Launch} {w : Wd} {d : Nat} {M : Mem} {Q : Option MV → Mem → Prop} {B : Nat → Int} {L t : Nat} {k : Int} {E : List (Int × Int)} {c : Nat}
theorem erDS {N : Mem} {f : Int} {tt : Nat} (h : DS B L M k E c N tt) : FCl M (erM N f) ∧ ER B L (erM N f) f tt ∧ erM N f 134 28 = c ∧ erM N f 134 29 = k := ⟨(h.2.1.u (by omega)).u (by omega), erM_er h.1.1, by rw [er_19.2 28 (by decide) (by decide)]; exact h.2.2.2.1, by rw [er_19.2 29 (by decide) (by decide)]; exact h.2.2.2.2.1⟩
/-- a lighting, a burning, moths -/
theorem cl_one (hd : 6 ≤ d) (hL : L ≤ 300) {N : Mem} (hNN : tkN B L ≤ 300) (hk : k = 5 ∨ k = 6 ∨ k = 7) (hD : DS B L M k E c N t) (hc : c < 24)
    (hok : (ddF (tkK B L) (tkV B L) k t).1 = 0 → tkK B L (ddF (tkK B L) (tkV B L) k t).2 = 59 → ∀ N0 N1, DS B L M k E c N0 (ddF (tkK B L) (tkV B L) k t).2 → N0 151 c = tkV B L t → CIO B L N0 ((ddF (tkK B L) (tkV B L) k t).2 + 1) E 0 N1 → Q none N1)
    (hbad : (ddF (tkK B L) (tkV B L) k t).1 = 0 → tkK B L (ddF (tkK B L) (tkV B L) k t).2 ≠ 59 → ∀ N1, FCl M N1 → ER B L N1 1 (ddF (tkK B L) (tkV B L) k t).2 → Q none N1)
    (hbd2 : (ddF (tkK B L) (tkV B L) k t).1 ≠ 0 → ∀ N1, FCl M N1 → ER B L N1 (ddF (tkK B L) (tkV B L) k t).1 (ddF (tkK B L) (tkV B L) k t).2 → Q none N1) :
    WM l w RX9 cX9_clause 1 none d Q 160 [some (vR 134)] [] N := by
  have h28 := hD.2.2.2.1
  have h29 := hD.2.2.2.2.1
  have fin : ∀ (a b : Int), (a = (if k = 7 then 1 else 0)) → (b = (if k = 7 then 30 else 5)) → ∀ x N1, (nbF (tkK B L) (tkV B L) a b t = 0 ∧ x = tkV B L t ∧ FN N N1 ∧ CT B L N1 (t + 1)) ∨ (nbF (tkK B L) (tkV B L) a b t ≠ 0 ∧ N1 = erM N (nbF (tkK B L) (tkV B L) a b t)) → WM l w RX9 cX9_clause 1 none d Q 212 [some (vR 134)] [] (up N1 151 c x) := by
    intro a b ea eb x N1 hx
    have hdd : ddF (tkK B L) (tkV B L) k t = if nbF (tkK B L) (tkV B L) a b t ≠ 0 then (nbF (tkK B L) (tkV B L) a b t, t) else (0, t + 1) := by
      unfold ddF
      rw [if_neg (by omega)]
      by_cases k7 : k = 7
      · rw [if_pos k7] at ea eb ⊢; rw [ea, eb]
      · rw [if_neg k7] at ea eb ⊢; rw [ea, eb]
    rw [hdd] at hok hbad hbd2
    rcases hx with ⟨e, rfl, hf, hct⟩ | ⟨e, rfl⟩
    · rw [if_neg (fun z => z e)] at hok hbad
      have hD2 : DS B L M k E c (up N1 151 c (tkV B L t)) (t + 1) := (hD.fn hf hct).st (by decide)
      have k1 : tkK B L t = 1 := by
        unfold nbF at e
        by_cases z : tkK B L t = 1
        · exact z
        · rw [if_neg z] at e; exact absurd e (by decide)
      have ht : ¬ tkN B L ≤ t := fun z => by rw [tkK_z z] at k1; exact absurd k1 (by decide)
      have h263 := cl_263 (l := l) (w := w) (d := d) (Q := Q) hd hL (by omega) hD2 hc (fun k59 N2 hc2 => hok rfl k59 _ N2 hD2 (up_s _ _ _ _) hc2) (fun k59 => hbad rfl k59 _ (erDS hD2).1 (erDS hD2).2.1)
      have h29' := hD2.2.2.2.2.1
      refine e_aload0 dX9_clause_212 ?_
      refine e_getI fl_X9_237 la_134 rfl dX9_clause_213 ?_
      refine WW.ec (y := k) (h29') ?_
      refine e_iconst dX9_clause_216 rfl kc_4 ?_
      refine e_icmp_ne (tgt := 263) dX9_clause_217 (by decide) (fun h217 => ?_) (fun h => absurd h (by omega))
      exact h263
    · rw [if_pos e] at hbd2
      have hE := erDS (f := nbF (tkK B L) (tkV B L) a b t) hD
      have hnb := nbF_01 (K := tkK B L) (V := tkV B L) (a := a) (b := b) (t := t)
      have h263 := cl_263e (l := l) (w := w) (d := d) (Q := Q) (N := up (erM N (nbF (tkK B L) (tkV B L) a b t)) 151 c x) (by rw [up_o (by decide), hE.2.1.1]; exact e) (hbd2 e _ (hE.1.uo (by decide)) (hE.2.1.uo (by decide)))
      have h29' : up (erM N (nbF (tkK B L) (tkV B L) a b t)) 151 c x 134 29 = k := by rw [up_o (by decide)]; exact hE.2.2.2
      refine e_aload0 dX9_clause_212 ?_
      refine e_getI fl_X9_237 la_134 rfl dX9_clause_213 ?_
      refine WW.ec (y := k) (h29') ?_
      refine e_iconst dX9_clause_216 rfl kc_4 ?_
      refine e_icmp_ne (tgt := 263) dX9_clause_217 (by decide) (fun h217 => ?_) (fun h => absurd h (by omega))
      exact h263
  by_cases k7 : k = 7
  · have hcall := ct_number (l := l) (w := w) (d := d - 1) (M := N) (a := 1) (b := 30) (by omega) hL hD.1 (by omega)
    refine e_aload0 dX9_clause_160 ?_
    refine e_getR fl_X9_66 la_134 rfl dX9_clause_161 ?_
    refine e_aload0 dX9_clause_164 ?_
    refine e_getI fl_X9_259 la_134 rfl dX9_clause_165 ?_
    refine WW.ec (y := (c : Int)) (h28) ?_
    refine e_aload0 dX9_clause_168 ?_
    refine e_getI fl_X9_237 la_134 rfl dX9_clause_169 ?_
    refine WW.ec (y := k) (h29) ?_
    refine e_iconst dX9_clause_172 rfl kc_4 ?_
    refine e_icmp_ne (tgt := 186) dX9_clause_173 (by decide) (fun h173 => ?_) (fun h => absurd h (by omega))
    refine e_aload0 dX9_clause_186 ?_
    refine e_getI fl_X9_237 la_134 rfl dX9_clause_187 ?_
    refine WW.ec (y := k) (h29) ?_
    refine e_bipush dX9_clause_190 rfl kb_7 ?_
    refine e_icmp_ne (tgt := 205) dX9_clause_192 (by decide) (fun h => absurd h (by omega)) (fun h192 => ?_)
    refine e_aload0 dX9_clause_195 ?_
    refine e_iconst dX9_clause_196 rfl kc_1 ?_
    refine e_bipush dX9_clause_197 rfl kb_30 ?_
    refine e_cVGI (hcall) cy_X9_number cv_X9_number ml_X9_268 la_134 rfl rfl rfl (rok (by omega) (by decide)) (Nat.le_of_ble_eq_true rfl) dX9_clause_199 (fun x N1 hx => ?_)
    refine e_goto (tgt := 211) dX9_clause_202 (by decide) ?_
    have h212 := fin 1 30 (by rw [if_pos k7]) (by rw [if_pos k7]) x N1 hx
    refine e_iastK (k := c) la_151 (by omega) (by omega) dX9_clause_211 ?_
    exact h212
  · have hcall := ct_number (l := l) (w := w) (d := d - 1) (M := N) (a := 0) (b := 5) (by omega) hL hD.1 (by omega)
    refine e_aload0 dX9_clause_160 ?_
    refine e_getR fl_X9_66 la_134 rfl dX9_clause_161 ?_
    refine e_aload0 dX9_clause_164 ?_
    refine e_getI fl_X9_259 la_134 rfl dX9_clause_165 ?_
    refine WW.ec (y := (c : Int)) (h28) ?_
    refine e_aload0 dX9_clause_168 ?_
    refine e_getI fl_X9_237 la_134 rfl dX9_clause_169 ?_
    refine WW.ec (y := k) (h29) ?_
    refine e_iconst dX9_clause_172 rfl kc_4 ?_
    refine e_icmp_ne (tgt := 186) dX9_clause_173 (by decide) (fun h173 => ?_) (fun h => absurd h (by omega))
    refine e_aload0 dX9_clause_186 ?_
    refine e_getI fl_X9_237 la_134 rfl dX9_clause_187 ?_
    refine WW.ec (y := k) (h29) ?_
    refine e_bipush dX9_clause_190 rfl kb_7 ?_
    refine e_icmp_ne (tgt := 205) dX9_clause_192 (by decide) (fun h192 => ?_) (fun h => absurd h (by omega))
    refine e_aload0 dX9_clause_205 ?_
    refine e_iconst dX9_clause_206 rfl kc_0 ?_
    refine e_iconst dX9_clause_207 rfl kc_5 ?_
    refine e_cVGI (hcall) cy_X9_number cv_X9_number ml_X9_268 la_134 rfl rfl rfl (rok (by omega) (by decide)) (Nat.le_of_ble_eq_true rfl) dX9_clause_208 (fun x N1 hx => ?_)
    have h212 := fin 0 5 (by rw [if_neg k7]) (by rw [if_neg k7]) x N1 hx
    refine e_iastK (k := c) la_151 (by omega) (by omega) dX9_clause_211 ?_
    exact h212
/-- a buying -/
theorem cl_buy (hd : 6 ≤ d) (hL : L ≤ 300) {N : Mem} (ht : tkN B L ≤ 300) (hD : DS B L M 4 E c N t) (hc : c < 24)
    (hok : (ddF (tkK B L) (tkV B L) 4 t).1 = 0 → tkK B L (ddF (tkK B L) (tkV B L) 4 t).2 = 59 → ∀ N0 N1, DS B L M 4 E c N0 (ddF (tkK B L) (tkV B L) 4 t).2 → N0 151 c = tkV B L t → N0 152 c = tkV B L (t + 2) → N0 153 c = tkV B L (t + 4) → CIO B L N0 ((ddF (tkK B L) (tkV B L) 4 t).2 + 1) E 0 N1 → Q none N1)
    (hbad : (ddF (tkK B L) (tkV B L) 4 t).1 = 0 → tkK B L (ddF (tkK B L) (tkV B L) 4 t).2 ≠ 59 → ∀ N1, FCl M N1 → ER B L N1 1 (ddF (tkK B L) (tkV B L) 4 t).2 → Q none N1)
    (hbd2 : (ddF (tkK B L) (tkV B L) 4 t).1 ≠ 0 → ∀ N1, FCl M N1 → ER B L N1 (ddF (tkK B L) (tkV B L) 4 t).1 (ddF (tkK B L) (tkV B L) 4 t).2 → Q none N1) :
    WM l w RX9 cX9_clause 1 none d Q 160 [some (vR 134)] [] N := by
  have h28 := hD.2.2.2.1
  have h29 := hD.2.2.2.2.1
  have hK : ∀ t, tkN B L ≤ t → tkK B L t = 0 := fun t h => tkK_z h
  have hdd : ddF (tkK B L) (tkV B L) 4 t = (if nbF (tkK B L) (tkV B L) 0 11 t ≠ 0 then (nbF (tkK B L) (tkV B L) 0 11 t, t) else if wdF (tkK B L) (tkV B L) 8 (t + 1) ≠ 0 then (wdF (tkK B L) (tkV B L) 8 (t + 1), t + 1) else if nbF (tkK B L) (tkV B L) 0 5 (t + 2) ≠ 0 then (nbF (tkK B L) (tkV B L) 0 5 (t + 2), t + 2) else if wdF (tkK B L) (tkV B L) 9 (t + 3) ≠ 0 then (wdF (tkK B L) (tkV B L) 9 (t + 3), t + 3) else if nbF (tkK B L) (tkV B L) 0 7 (t + 4) ≠ 0 then (nbF (tkK B L) (tkV B L) 0 7 (t + 4), t + 4) else (0, t + 5)) := by
    unfold ddF; rw [if_pos rfl]
  rw [hdd] at hok hbad hbd2
  have h4 : GI l w yX9_number cX9_number 4 .int (d - 1) [vR 134, vI 0, vI 11] N (fun x M1 => (nbF (tkK B L) (tkV B L) 0 11 t = 0 ∧ x = tkV B L t ∧ FN N M1 ∧ CT B L M1 (t + 1)) ∨ (nbF (tkK B L) (tkV B L) 0 11 t ≠ 0 ∧ M1 = erM N (nbF (tkK B L) (tkV B L) 0 11 t))) := ct_number (d := d - 1) (by omega) hL hD.1 (by omega)
  have h211 : ∀ x N1, ((nbF (tkK B L) (tkV B L) 0 11 t = 0 ∧ x = tkV B L t ∧ FN N N1 ∧ CT B L N1 (t + 1)) ∨ (nbF (tkK B L) (tkV B L) 0 11 t ≠ 0 ∧ N1 = erM N (nbF (tkK B L) (tkV B L) 0 11 t))) → WM l w RX9 cX9_clause 1 none d Q 220 [some (vR 134)] [] (up N1 151 c x) := by
    intro x N1 hx
    rcases hx with ⟨e1, rfl, hf, hct⟩ | ⟨e1, rfl⟩
    · rw [if_neg (fun z => z e1)] at hok hbad hbd2
      have hD1 : DS B L M 4 E c (up N1 151 c (tkV B L t)) (t + 1) := (hD.fn hf hct).st (by decide)
      have hA : up N1 151 c (tkV B L t) 151 c = tkV B L t := up_s _ _ _ _
      generalize up N1 151 c (tkV B L t) = A at hD1 hA
      have hw8 := ct_wants (l := l) (w := w) (d := d - 1) (M := A) (k := 8) (by omega) hL hD1.1 (by decide)
      refine e_aload0 dX9_clause_220 ?_
      refine e_bipush dX9_clause_221 rfl kb_8 ?_
      refine e_cVGV (hw8) cy_X9_wants cv_X9_wants ml_X9_272 la_134 rfl rfl rfl (rok (by omega) (by decide)) (Nat.le_of_ble_eq_true rfl) dX9_clause_223 (fun A1 hx => ?_)
      rcases hx with ⟨e2, hf2, hct2⟩ | ⟨e2, rfl⟩
      · rw [if_neg (fun z => z e2)] at hok hbad hbd2
        have hD2 : DS B L M 4 E c A1 (t + 2) := hD1.fn hf2 hct2
        have hA1 : A1 151 c = tkV B L t := by rw [hf2.1 151 (by decide)]; exact hA
        have h28b := hD2.2.2.2.1
        have hn5 := ct_number (l := l) (w := w) (d := d - 1) (M := A1) (a := 0) (b := 5) (by omega) hL hD2.1 (by omega)
        refine e_aload0 dX9_clause_226 ?_
        refine e_getR fl_X9_69 la_134 rfl dX9_clause_227 ?_
        refine e_aload0 dX9_clause_230 ?_
        refine e_getI fl_X9_259 la_134 rfl dX9_clause_231 ?_
        refine WW.ec (y := (c : Int)) (h28b) ?_
        refine e_aload0 dX9_clause_234 ?_
        refine e_iconst dX9_clause_235 rfl kc_0 ?_
        refine e_iconst dX9_clause_236 rfl kc_5 ?_
        refine e_cVGI (hn5) cy_X9_number cv_X9_number ml_X9_268 la_134 rfl rfl rfl (rok (by omega) (by decide)) (Nat.le_of_ble_eq_true rfl) dX9_clause_237 (fun x A2 hx => ?_)
        rcases hx with ⟨e3, rfl, hf3, hct3⟩ | ⟨e3, rfl⟩
        · rw [if_neg (fun z => z e3)] at hok hbad hbd2
          have hD3 : DS B L M 4 E c (up A2 152 c (tkV B L (t + 2))) (t + 3) := (hD2.fn hf3 hct3).st (by decide)
          have hA3 : up A2 152 c (tkV B L (t + 2)) 151 c = tkV B L t ∧ up A2 152 c (tkV B L (t + 2)) 152 c = tkV B L (t + 2) := ⟨by rw [up_o (by decide), hf3.1 151 (by decide)]; exact hA1, up_s _ _ _ _⟩
          have h241 : WM l w RX9 cX9_clause 1 none d Q 241 [some (vR 134)] [] (up A2 152 c (tkV B L (t + 2))) := by
            generalize up A2 152 c (tkV B L (t + 2)) = A4 at hD3 hA3
            have hw9 := ct_wants (l := l) (w := w) (d := d - 1) (M := A4) (k := 9) (by omega) hL hD3.1 (by decide)
            refine e_aload0 dX9_clause_241 ?_
            refine e_bipush dX9_clause_242 rfl kb_9 ?_
            refine e_cVGV (hw9) cy_X9_wants cv_X9_wants ml_X9_272 la_134 rfl rfl rfl (rok (by omega) (by decide)) (Nat.le_of_ble_eq_true rfl) dX9_clause_244 (fun A5 hx => ?_)
            rcases hx with ⟨e4, hf4, hct4⟩ | ⟨e4, rfl⟩
            · rw [if_neg (fun z => z e4)] at hok hbad hbd2
              have hD4 : DS B L M 4 E c A5 (t + 4) := hD3.fn hf4 hct4
              have hA5 : A5 151 c = tkV B L t ∧ A5 152 c = tkV B L (t + 2) := ⟨by rw [hf4.1 151 (by decide)]; exact hA3.1, by rw [hf4.1 152 (by decide)]; exact hA3.2⟩
              have h28d := hD4.2.2.2.1
              have hn7 := ct_number (l := l) (w := w) (d := d - 1) (M := A5) (a := 0) (b := 7) (by omega) hL hD4.1 (by omega)
              refine e_aload0 dX9_clause_247 ?_
              refine e_getR fl_X9_72 la_134 rfl dX9_clause_248 ?_
              refine e_aload0 dX9_clause_251 ?_
              refine e_getI fl_X9_259 la_134 rfl dX9_clause_252 ?_
              refine WW.ec (y := (c : Int)) (h28d) ?_
              refine e_aload0 dX9_clause_255 ?_
              refine e_iconst dX9_clause_256 rfl kc_0 ?_
              refine e_bipush dX9_clause_257 rfl kb_7 ?_
              refine e_cVGI (hn7) cy_X9_number cv_X9_number ml_X9_268 la_134 rfl rfl rfl (rok (by omega) (by decide)) (Nat.le_of_ble_eq_true rfl) dX9_clause_259 (fun x A6 hx => ?_)
              rcases hx with ⟨e5, rfl, hf5, hct5⟩ | ⟨e5, rfl⟩
              · rw [if_neg (fun z => z e5)] at hok hbad hbd2
                have hD5 : DS B L M 4 E c (up A6 153 c (tkV B L (t + 4))) (t + 5) := (hD4.fn hf5 hct5).st (by decide)
                have t5 : t + 5 ≤ 300 := by
                  have k1 : tkK B L (t + 4) = 1 := by
                    unfold nbF at e5
                    by_cases z : tkK B L (t + 4) = 1
                    · exact z
                    · rw [if_neg z] at e5; exact absurd e5 (by decide)
                  have : ¬ tkN B L ≤ t + 4 := fun z => by rw [hK _ z] at k1; exact absurd k1 (by decide)
                  omega
                have h263 := cl_263 (l := l) (w := w) (d := d) (Q := Q) hd hL t5 hD5 hc (fun k59 N2 hc2 => hok rfl k59 _ N2 hD5 (by rw [up_o (by decide), hf5.1 151 (by decide)]; exact hA5.1) (by rw [up_o (by decide), hf5.1 152 (by decide)]; exact hA5.2) (up_s _ _ _ _) hc2) (fun k59 => hbad rfl k59 _ (erDS hD5).1 (erDS hD5).2.1)
                refine e_iastK (k := c) la_153 (by omega) (by omega) dX9_clause_262 ?_
                exact h263
              · rw [if_pos e5] at hbd2
                have hE := erDS (f := nbF (tkK B L) (tkV B L) 0 7 (t + 4)) hD4
                have h263 := cl_263e (l := l) (w := w) (d := d) (Q := Q) (N := up (erM A5 (nbF (tkK B L) (tkV B L) 0 7 (t + 4))) 153 c x) (by rw [up_o (by decide), hE.2.1.1]; exact e5) (hbd2 e5 _ (hE.1.uo (by decide)) (hE.2.1.uo (by decide)))
                refine e_iastK (k := c) la_153 (by omega) (by omega) dX9_clause_262 ?_
                exact h263
            · rw [if_pos e4] at hbd2
              have hE := erDS (f := wdF (tkK B L) (tkV B L) 9 (t + 3)) hD3
              have h01 := wdF_01 (K := tkK B L) (V := tkV B L) (a := 9) (t := t + 3)
              have hw19 := hE.2.1.1
              have h28e := hE.2.2.1
              have h263 := cl_263e (l := l) (w := w) (d := d) (Q := Q) (N := up (erM A4 (wdF (tkK B L) (tkV B L) 9 (t + 3))) 153 c 0) (by rw [up_o (by decide), hE.2.1.1]; exact e4) (hbd2 e4 _ (hE.1.uo (by decide)) (hE.2.1.uo (by decide)))
              refine e_aload0 dX9_clause_247 ?_
              refine e_getR fl_X9_72 la_134 rfl dX9_clause_248 ?_
              refine e_aload0 dX9_clause_251 ?_
              refine e_getI fl_X9_259 la_134 rfl dX9_clause_252 ?_
              refine WW.ec (y := (c : Int)) (h28e) ?_
              refine e_aload0 dX9_clause_255 ?_
              refine e_iconst dX9_clause_256 rfl kc_0 ?_
              refine e_bipush dX9_clause_257 rfl kb_7 ?_
              refine e_cVI (ct_number_w (d := d - 1) (by omega) (by omega) (by omega)) cy_X9_number cv_X9_number ml_X9_268 la_134 rfl rfl rfl (rok (by omega) (by decide)) (Nat.le_of_ble_eq_true rfl) dX9_clause_259 ?_
              refine e_iastK (k := c) la_153 (by omega) (by omega) dX9_clause_262 ?_
              exact h263
          refine e_iastK (k := c) la_152 (by omega) (by omega) dX9_clause_240 ?_
          exact h241
        · rw [if_pos e3] at hbd2
          have hE := erDS (f := nbF (tkK B L) (tkV B L) 0 5 (t + 2)) hD2
          have h01 := nbF_01 (K := tkK B L) (V := tkV B L) (a := 0) (b := 5) (t := t + 2)
          have h241 := cl_241e (l := l) (w := w) (d := d) (Q := Q) (M := M) (B := B) (L := L) (c := c) (N := up (erM A1 (nbF (tkK B L) (tkV B L) 0 5 (t + 2))) 152 c x) (by omega) hc (hE.1.uo (by decide)) (by rw [up_o (by decide)]; exact hE.2.2.1) (hE.2.1.uo (by decide)) (by omega) (fun N1 a b => hbd2 e3 N1 a b)
          refine e_iastK (k := c) la_152 (by omega) (by omega) dX9_clause_240 ?_
          exact h241
      · rw [if_pos e2] at hbd2
        have hE := erDS (f := wdF (tkK B L) (tkV B L) 8 (t + 1)) hD1
        have h01 := wdF_01 (K := tkK B L) (V := tkV B L) (a := 8) (t := t + 1)
        have hw19 := hE.2.1.1
        have h28e := hE.2.2.1
        have h241 := cl_241e (l := l) (w := w) (d := d) (Q := Q) (M := M) (B := B) (L := L) (c := c) (N := up (erM A (wdF (tkK B L) (tkV B L) 8 (t + 1))) 152 c 0) (by omega) hc (hE.1.uo (by decide)) (by rw [up_o (by decide)]; exact hE.2.2.1) (hE.2.1.uo (by decide)) (by omega) (fun N1 a b => hbd2 e2 N1 a b)
        refine e_aload0 dX9_clause_226 ?_
        refine e_getR fl_X9_69 la_134 rfl dX9_clause_227 ?_
        refine e_aload0 dX9_clause_230 ?_
        refine e_getI fl_X9_259 la_134 rfl dX9_clause_231 ?_
        refine WW.ec (y := (c : Int)) (h28e) ?_
        refine e_aload0 dX9_clause_234 ?_
        refine e_iconst dX9_clause_235 rfl kc_0 ?_
        refine e_iconst dX9_clause_236 rfl kc_5 ?_
        refine e_cVI (ct_number_w (d := d - 1) (by omega) (by omega) (by omega)) cy_X9_number cv_X9_number ml_X9_268 la_134 rfl rfl rfl (rok (by omega) (by decide)) (Nat.le_of_ble_eq_true rfl) dX9_clause_237 ?_
        refine e_iastK (k := c) la_152 (by omega) (by omega) dX9_clause_240 ?_
        exact h241
    · rw [if_pos e1] at hbd2
      have hE := erDS (f := nbF (tkK B L) (tkV B L) 0 11 t) hD
      have h01 := nbF_01 (K := tkK B L) (V := tkV B L) (a := 0) (b := 11) (t := t)
      exact cl_220e (M := M) (c := c) (by omega) hc (hE.1.uo (by decide)) (by rw [up_o (by decide)]; exact hE.2.2.1) (hE.2.1.uo (by decide)) (by omega) (fun N1 a b => hbd2 e1 N1 a b)
  refine e_aload0 dX9_clause_160 ?_
  refine e_getR fl_X9_66 la_134 rfl dX9_clause_161 ?_
  refine e_aload0 dX9_clause_164 ?_
  refine e_getI fl_X9_259 la_134 rfl dX9_clause_165 ?_
  refine WW.ec (y := (c : Int)) (h28) ?_
  refine e_aload0 dX9_clause_168 ?_
  refine e_getI fl_X9_237 la_134 rfl dX9_clause_169 ?_
  refine WW.ec (y := 4) (h29) ?_
  refine e_iconst dX9_clause_172 rfl kc_4 ?_
  refine e_icmp_ne (tgt := 186) dX9_clause_173 (by decide) (fun h => absurd h (fun z => z rfl)) (fun h173 => ?_)
  refine e_aload0 dX9_clause_176 ?_
  refine e_iconst dX9_clause_177 rfl kc_0 ?_
  refine e_bipush dX9_clause_178 rfl kb_11 ?_
  refine e_cVGI (h4) cy_X9_number cv_X9_number ml_X9_268 la_134 rfl rfl rfl (rok (by omega) (by decide)) (Nat.le_of_ble_eq_true rfl) dX9_clause_180 (fun x N1 hx => ?_)
  refine e_goto (tgt := 211) dX9_clause_183 (by decide) ?_
  have h220 := h211 x N1 hx
  have h29' : up N1 151 c x 134 29 = 4 := by
    rw [up_o (by decide)]
    rcases hx with ⟨_, _, hf, _⟩ | ⟨_, rfl⟩
    · rw [hf.2 29 (by decide)]; exact h29
    · rw [er_19.2 29 (by decide) (by decide)]; exact h29
  refine e_iastK (k := c) la_151 (by omega) (by omega) dX9_clause_211 ?_
  refine e_aload0 dX9_clause_212 ?_
  refine e_getI fl_X9_237 la_134 rfl dX9_clause_213 ?_
  refine WW.ec (y := 4) (h29') ?_
  refine e_iconst dX9_clause_216 rfl kc_4 ?_
  refine e_icmp_ne (tgt := 263) dX9_clause_217 (by decide) (fun h => absurd h (fun z => z rfl)) (fun h217 => ?_)
  exact h220
end MCL3
