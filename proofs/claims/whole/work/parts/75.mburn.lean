/-! THE MODEL BURNS -/
theorem setA_me {N : Mem} {B : Nat → Int} (h : N 135 = B) : setA N B = N := by rw [← h, setA_m]
theorem tellV_x {M M1 : Mem} (h15 : M1 1 15 = M 1 15) (h16 : M1 1 16 = M 1 16) (ho : ∀ o, (o = 2 ∨ o = 3 ∨ o = 4 ∨ o = 6 ∨ o = 7) ∨ (90 ≤ o ∧ o ≤ 113) → M1 o = M o) (ht : M 1 15 ≤ 4) (k a c i : Int) : tellV M1 k a c i = tellV M k a c i := by
  unfold tellV nmOf
  rw [lawC_st h15 h16 (fun o a b => ho o (Or.inr ⟨a, b⟩)) ht, ho 2 (by omega), ho 3 (by omega), ho 4 (by omega), ho 6 (by omega), ho 7 (by omega)]
theorem LW.x {M M1 : Mem} (h0 : M1 1 0 = M 1 0) (h5 : M1 1 5 = M 1 5) (h15 : M1 1 15 = M 1 15) (h16 : M1 1 16 = M 1 16) (ho : ∀ o, (o = 2 ∨ o = 3 ∨ o = 4 ∨ o = 6 ∨ o = 7) ∨ (90 ≤ o ∧ o ≤ 113) → M1 o = M o) (hl : LW M) : LW M1 := by
  unfold LW IB isT TxOk at hl ⊢
  rw [h0, h5, h15, h16, ho 2 (by omega), ho 3 (by omega), ho 4 (by omega), ho 6 (by omega), ho 7 (by omega)]
  refine ⟨hl.1, hl.2.1, hl.2.2.1, hl.2.2.2.1, fun ht => ?_⟩
  have h4 : (M 1 16).toNat < 4 := by have := hl.2.2.2.1; omega
  rw [ho (93 + 6 * (M 1 16).toNat) (by omega), ho (92 + 6 * (M 1 16).toNat) (by omega), ho (91 + 6 * (M 1 16).toNat) (by omega)]
  exact hl.2.2.2.2 ht
theorem HD.fr {G G1 : Mem} {A A1 : Nat → Int} (h : HD G A) (hI : IB G) (h1 : ∀ k, k ≠ 12 → k ≠ 13 → G1 1 k = G 1 k) (ho : ∀ o, (o = 2 ∨ o = 6 ∨ o = 7) → G1 o = G o) (ha : ∀ k, k < 40 → k ≠ 4 → A1 k = A k) : HD G1 A1 := by
  obtain ⟨⟨a0, a1, a2, a3⟩, a10, a20⟩ := h
  have i1 := hI.1
  have i2 := hI.2.1
  unfold HD
  rw [h1 0 (by decide) (by decide), h1 5 (by decide) (by decide), h1 15 (by decide) (by decide), h1 16 (by decide) (by decide), ho 2 (by omega), ho 6 (by omega), ho 7 (by omega), ha 0 (by decide) (by decide), ha 1 (by decide) (by decide), ha 2 (by decide) (by decide), ha 3 (by decide) (by decide)]
  exact ⟨⟨a0, a1, a2, a3⟩, fun k hk => by rw [ha _ (by omega) (by omega)]; exact a10 k hk, fun k hk => by rw [ha _ (by omega) (by omega), ha _ (by omega) (by omega)]; exact a20 k hk⟩
theorem LR.c0 {G : Mem} {A : Nat → Int} (h : LR G A) {c : Nat} (hc : (c : Int) < G 1 5) : A (64 + 15 * c + 0) = G 8 c ∧ A (64 + 15 * c + 1) = G 9 c ∧ A (64 + 15 * c + 2) = G 10 c ∧ ∀ i, i < 12 → A (67 + 15 * c + i) = G 11 (12 * c + i) := by
  have q := h.2.2.2.1 c hc
  rw [show 64 + 15 * c + 0 = 40 + 24 + 15 * c by omega, show 64 + 15 * c + 1 = 40 + 25 + 15 * c by omega, show 64 + 15 * c + 2 = 40 + 26 + 15 * c by omega]
  exact q
section MBURN
variable {l : Launch} {w : Wd} {d : Nat} {M : Mem} {Q : Option MV → Mem → Prop}
theorem mpass {X N : Mem} {B : Nat → Int} {c n h : Nat} {v4 v5 v6 v7 : Int} (hd : 5 ≤ d) (hL : LW X) (hsz : szI X) (hR : LR X B) (hT : TXS X (setA N B)) (hc : (c : Int) < X 1 5) (hn : (n : Int) ≤ X 7 c) (hth : 1 ≤ X 6 c) (hO : isIn X c n → ownr X c n = -1 ∨ isH X (ownr X c n)) (hx : 0 ≤ X 1 12 ∧ X 1 12 ≤ 50000)
    (hQ : ∀ N' B', FD N N' → RW (passM X c n h) B' 40 → (∀ k, k < 40 ∨ 520 ≤ k → B' k = B k) → Q (some (vI (passM X c n h 8 c))) (setA N' B')) :
    WM l w RX9 cX9_burn 10 (some .int) d Q 234 [some (vR 134), some (vI (c : Int)), some (vI (h : Int)), some (vI (n : Int)), some (vI v4), some (vI v5), some (vI v6), some (vI v7), none, none] [] (setA N B) := by
  have h7 := hL.1.2.2 c (by have := hL.1.2.1; omega)
  have hc6 : c < 6 := by have := hL.1.2.1; omega
  have a20 := hR.1.2.2 c hc
  have ac := hR.c0 hc
  have i0 := hL.1.1
  by_cases e1 : X 7 c ≤ n
  · have ep : passM X c n h = up X 8 c 3 := by unfold passM; rw [toN, if_pos e1]
    have hq := hQ N (setN B (64 + 15 * c + 0) 3) (FD.rf N) (by rw [ep]; exact hR.2.c hsz (Or.inl rfl) hc (by omega)) (fun k hk => setN_o (by omega))
    rw [ep, up_s, ← setA_u] at hq
    refine e_iload3 dX9_burn_234 ?_
    refine e_aload0 dX9_burn_235 ?_
    refine e_iload1 dX9_burn_236 ?_
    refine e_cVI (ct_X9_inchesOf (d := d - 1) hc6) cy_X9_inchesOf cv_X9_inchesOf ml_X9_310 la_134 rfl rfl rfl (rok (by omega) (by decide)) (Nat.le_of_ble_eq_true rfl) dX9_burn_237 ?_
    refine WW.ec (y := X 7 c) (by rw [setA_a]; exact a20.2) ?_
    refine e_icmp_ne (tgt := 253) dX9_burn_240 (by decide) (fun h => absurd h (by omega)) (fun h240 => ?_)
    refine e_aload0 dX9_burn_243 ?_
    refine e_iload1 dX9_burn_244 ?_
    refine e_iconst dX9_burn_245 rfl kc_0 ?_
    refine e_iconst dX9_burn_246 rfl kc_3 ?_
    refine e_cVV (ct_X9_puts (d := d - 1) (k := 0) hc6 (by decide)) cy_X9_puts cv_X9_puts ml_X9_336 la_134 rfl rfl rfl (rok (by omega) (by decide)) (Nat.le_of_ble_eq_true rfl) dX9_burn_247 ?_
    refine e_goto (tgt := 318) dX9_burn_250 (by decide) ?_
    refine e_aload0 dX9_burn_318 ?_
    refine e_iload1 dX9_burn_319 ?_
    refine e_iconst dX9_burn_320 rfl kc_0 ?_
    refine e_cVI (ct_X9_ofCandle (d := d - 1) (k := 0) hc6 (by decide)) cy_X9_ofCandle cv_X9_ofCandle ml_X9_327 la_134 rfl rfl rfl (rok (by omega) (by decide)) (Nat.le_of_ble_eq_true rfl) dX9_burn_321 ?_
    refine WW.ec (y := 3) (by rw [up_s]) ?_
    refine e_iret dX9_burn_324 ?_
    exact hq
  · have hin : isIn X c n := ⟨⟨by omega, hc⟩, by omega, by rw [toN]; omega⟩
    have eow : ownr X c n = X 11 (12 * c + n) := by unfold ownr; rw [if_pos hin]; congr 1; omega
    have e11 := ac.2.2.2 n (by omega)
    by_cases e2 : ownr X c n = -1 ∨ ownr X c n = h
    · have ep : passM X c n h = X := by unfold passM; rw [toN, if_neg e1, if_pos e2]
      have hq := hQ N B (FD.rf N) (by rw [ep]; exact hR.2) (fun k hk => rfl)
      rw [ep] at hq
      refine e_iload3 dX9_burn_234 ?_
      refine e_aload0 dX9_burn_235 ?_
      refine e_iload1 dX9_burn_236 ?_
      refine e_cVI (ct_X9_inchesOf (d := d - 1) hc6) cy_X9_inchesOf cv_X9_inchesOf ml_X9_310 la_134 rfl rfl rfl (rok (by omega) (by decide)) (Nat.le_of_ble_eq_true rfl) dX9_burn_237 ?_
      refine WW.ec (y := X 7 c) (by rw [setA_a]; exact a20.2) ?_
      refine e_icmp_ne (tgt := 253) dX9_burn_240 (by decide) (fun h240 => ?_) (fun h => absurd h (by omega))
      refine e_aload0 dX9_burn_253 ?_
      refine e_iload1 dX9_burn_254 ?_
      refine e_iload3 dX9_burn_255 ?_
      refine e_cVI (ct_X9_ownerOf (d := d - 1) hc6 (by omega)) cy_X9_ownerOf cv_X9_ownerOf ml_X9_330 la_134 rfl rfl rfl (rok (by omega) (by decide)) (Nat.le_of_ble_eq_true rfl) dX9_burn_256 ?_
      refine WW.ec (y := ownr X c n) (by rw [setA_a, e11, eow]) ?_
      refine e_iconst dX9_burn_259 rfl kc_m1 ?_
      refine e_icmp_eq (tgt := 318) dX9_burn_260 (by decide) (fun h260 => ?_) (fun h260 => ?_)
      · refine e_aload0 dX9_burn_318 ?_
        refine e_iload1 dX9_burn_319 ?_
        refine e_iconst dX9_burn_320 rfl kc_0 ?_
        refine e_cVI (ct_X9_ofCandle (d := d - 1) (k := 0) hc6 (by decide)) cy_X9_ofCandle cv_X9_ofCandle ml_X9_327 la_134 rfl rfl rfl (rok (by omega) (by decide)) (Nat.le_of_ble_eq_true rfl) dX9_burn_321 ?_
        refine WW.ec (y := X 8 c) (by rw [setA_a]; exact ac.1) ?_
        refine e_iret dX9_burn_324 ?_
        exact hq
      · refine e_aload0 dX9_burn_263 ?_
        refine e_iload1 dX9_burn_264 ?_
        refine e_iload3 dX9_burn_265 ?_
        refine e_cVI (ct_X9_ownerOf (d := d - 1) hc6 (by omega)) cy_X9_ownerOf cv_X9_ownerOf ml_X9_330 la_134 rfl rfl rfl (rok (by omega) (by decide)) (Nat.le_of_ble_eq_true rfl) dX9_burn_266 ?_
        refine WW.ec (y := ownr X c n) (by rw [setA_a, e11, eow]) ?_
        refine e_iload2 dX9_burn_269 ?_
        refine e_icmp_eq (tgt := 318) dX9_burn_270 (by decide) (fun h270 => ?_) (fun h270 => ?_)
        · refine e_aload0 dX9_burn_318 ?_
          refine e_iload1 dX9_burn_319 ?_
          refine e_iconst dX9_burn_320 rfl kc_0 ?_
          refine e_cVI (ct_X9_ofCandle (d := d - 1) (k := 0) hc6 (by decide)) cy_X9_ofCandle cv_X9_ofCandle ml_X9_327 la_134 rfl rfl rfl (rok (by omega) (by decide)) (Nat.le_of_ble_eq_true rfl) dX9_burn_321 ?_
          refine WW.ec (y := X 8 c) (by rw [setA_a]; exact ac.1) ?_
          refine e_iret dX9_burn_324 ?_
          exact hq
        · omega
    · have hto : isH X (ownr X c n) := by rcases hO hin with q | q; exact absurd (Or.inl q) e2; exact q
      obtain ⟨o, eo⟩ : ∃ o : Nat, ownr X c n = o := ⟨(ownr X c n).toNat, by have := hto.1; omega⟩
      have ho1 : (o : Int) < X 1 0 := by rw [← eo]; exact hto.2
      have hxm : B 515 = X 1 12 := hR.2.2.2.2.2.2
      have epm : putM X c o = up (up X 9 c o) 1 12 ((X 1 12 * 179 + 83) % 30011) := by unfold putM; rw [toN]
      have em : up (setA N B) 135 (64 + 15 * c + 1) (o : Int) = setA N (setN B (64 + 15 * c + 1) o) := setA_u _ _ _ _
      have b515 : setN B (64 + 15 * c + 1) (o : Int) 515 = X 1 12 := by rw [setN_o (by omega)]; exact hxm
      have hRW : RW (putM X c o) (setN (setN B (64 + 15 * c + 1) o) 515 ((X 1 12 * 179 + 83) % 30011)) 40 := by
        rw [epm]
        exact (hR.2.c (o := 9) (k := c) hsz (Or.inr (Or.inl rfl)) hc (by omega)).x (hsz.u (by decide)) (by omega)
      have hLp : LW (putM X c o) := by
        rw [epm]
        exact hL.x (by rw [up_k (by decide), up_o (by decide)]) (by rw [up_k (by decide), up_o (by decide)]) (by rw [up_k (by decide), up_o (by decide)]) (by rw [up_k (by decide), up_o (by decide)]) (fun q hq => by rw [up_row (by omega), up_row (by omega)])
      have hRp : LR (putM X c o) (setN (setN B (64 + 15 * c + 1) o) 515 ((X 1 12 * 179 + 83) % 30011)) := by
        refine ⟨?_, hRW⟩
        rw [epm]
        exact hR.1.fr hL.1 (fun k a b => by rw [up_k a, up_o (by decide)]) (fun q hq => by rw [up_row (by omega), up_row (by omega)]) (fun k a b => by rw [setN_o (by omega), setN_o (by omega)])
      have etell : tellV (putM X c o) 3 o c n = tellV X 3 o c n := by
        rw [epm]
        exact tellV_x (by rw [up_k (by decide), up_o (by decide)]) (by rw [up_k (by decide), up_o (by decide)]) (fun q hq => by rw [up_row (by omega), up_row (by omega)]) hL.2.2.2.1 _ _ _ _
      have hTp : TXS (putM X c o) (setA N (setN (setN B (64 + 15 * c + 1) o) 515 ((X 1 12 * 179 + 83) % 30011))) := by
        rw [epm]
        exact hT.fr (by rw [up_k (by decide), up_o (by decide)]) (by rw [up_k (by decide), up_o (by decide)]) (fun q a b => by rw [up_row (by omega), up_row (by omega)]) (fun q a b => by rw [setA_o (by omega), setA_o (by omega)])
      have ep0 : putM X c o 1 0 = X 1 0 ∧ putM X c o 1 5 = X 1 5 ∧ putM X c o 6 c = X 6 c ∧ putM X c o 8 c = X 8 c := by
        rw [epm]
        exact ⟨by rw [up_k (by decide), up_o (by decide)], by rw [up_k (by decide), up_o (by decide)], by rw [up_o (by decide), up_o (by decide)], by rw [up_o (by decide), up_o (by decide)]⟩
      have hlaw := ct_X9_lawFor (l := l) (w := w) (d := d - 1) (G := putM X c o) (M := setA N (setN (setN B (64 + 15 * c + 1) o) 515 ((X 1 12 * 179 + 83) % 30011))) (u := 3) (h := o) (c := c) (i := n) (by omega) (by decide) (by rw [ep0.1]; exact ho1) (by rw [ep0.2.1]; exact hc) (by omega) hLp (by rw [ep0.2.2.1]; exact hth) (by rw [setA_a]; exact hRp) hTp
      have hdr := ct_X9_draw (l := l) (w := w) (d := d - 1) (M := up (setA N B) 135 (64 + 15 * c + 1) (o : Int)) (m := 10) (by decide) (by rw [em, setA_a, b515]; exact hx)
      rw [em, setA_a, setA_s, b515] at hdr
      have ep : passM X c n h = if X 1 12 % 10 < tellV X 3 o c n then up (putM X c o) 8 c 2 else putM X c o := by
        unfold passM
        rw [toN, if_neg e1, if_neg e2, eo]
      refine e_iload3 dX9_burn_234 ?_
      refine e_aload0 dX9_burn_235 ?_
      refine e_iload1 dX9_burn_236 ?_
      refine e_cVI (ct_X9_inchesOf (d := d - 1) hc6) cy_X9_inchesOf cv_X9_inchesOf ml_X9_310 la_134 rfl rfl rfl (rok (by omega) (by decide)) (Nat.le_of_ble_eq_true rfl) dX9_burn_237 ?_
      refine WW.ec (y := X 7 c) (by rw [setA_a]; exact a20.2) ?_
      refine e_icmp_ne (tgt := 253) dX9_burn_240 (by decide) (fun h240 => ?_) (fun h => absurd h (by omega))
      refine e_aload0 dX9_burn_253 ?_
      refine e_iload1 dX9_burn_254 ?_
      refine e_iload3 dX9_burn_255 ?_
      refine e_cVI (ct_X9_ownerOf (d := d - 1) hc6 (by omega)) cy_X9_ownerOf cv_X9_ownerOf ml_X9_330 la_134 rfl rfl rfl (rok (by omega) (by decide)) (Nat.le_of_ble_eq_true rfl) dX9_burn_256 ?_
      refine WW.ec (y := (o : Int)) (by rw [setA_a, e11, ← eow, eo]) ?_
      refine e_iconst dX9_burn_259 rfl kc_m1 ?_
      refine e_icmp_eq (tgt := 318) dX9_burn_260 (by decide) (fun h => absurd h (by omega)) (fun h260 => ?_)
      refine e_aload0 dX9_burn_263 ?_
      refine e_iload1 dX9_burn_264 ?_
      refine e_iload3 dX9_burn_265 ?_
      refine e_cVI (ct_X9_ownerOf (d := d - 1) hc6 (by omega)) cy_X9_ownerOf cv_X9_ownerOf ml_X9_330 la_134 rfl rfl rfl (rok (by omega) (by decide)) (Nat.le_of_ble_eq_true rfl) dX9_burn_266 ?_
      refine WW.ec (y := (o : Int)) (by rw [setA_a, e11, ← eow, eo]) ?_
      refine e_iload2 dX9_burn_269 ?_
      refine e_icmp_eq (tgt := 318) dX9_burn_270 (by decide) (fun h => absurd h (by omega)) (fun h270 => ?_)
      refine e_aload0 dX9_burn_273 ?_
      refine e_iload1 dX9_burn_274 ?_
      refine e_iload3 dX9_burn_275 ?_
      refine e_cVI (ct_X9_ownerOf (d := d - 1) hc6 (by omega)) cy_X9_ownerOf cv_X9_ownerOf ml_X9_330 la_134 rfl rfl rfl (rok (by omega) (by decide)) (Nat.le_of_ble_eq_true rfl) dX9_burn_276 ?_
      refine WW.ec (y := (o : Int)) (by rw [setA_a, e11, ← eow, eo]) ?_
      refine e_istore8 dX9_burn_279 rfl ?_
      refine e_aload0 dX9_burn_281 ?_
      refine e_iload1 dX9_burn_282 ?_
      refine e_iconst dX9_burn_283 rfl kc_1 ?_
      refine e_iload8 dX9_burn_284 ?_
      refine e_cVV (ct_X9_puts (d := d - 1) (k := 1) hc6 (by decide)) cy_X9_puts cv_X9_puts ml_X9_336 la_134 rfl rfl rfl (rok (by omega) (by decide)) (Nat.le_of_ble_eq_true rfl) dX9_burn_286 ?_
      rw [em]
      refine e_aload0 dX9_burn_289 ?_
      refine e_bipush dX9_burn_290 rfl kb_10 ?_
      refine e_cVI (hdr) cy_X9_draw cv_X9_draw ml_X9_343 la_134 rfl rfl rfl (rok (by omega) (by decide)) (Nat.le_of_ble_eq_true rfl) dX9_burn_292 ?_
      refine e_istore9 dX9_burn_295 rfl ?_
      refine e_iload9 dX9_burn_297 ?_
      refine e_aload0 dX9_burn_299 ?_
      refine e_iconst dX9_burn_300 rfl kc_3 ?_
      refine e_iload8 dX9_burn_301 ?_
      refine e_iload1 dX9_burn_303 ?_
      refine e_iload3 dX9_burn_304 ?_
      refine e_cVGI (hlaw) cy_X9_lawFor cv_X9_lawFor ml_X9_323 la_134 rfl rfl rfl (rok (by omega) (by decide)) (Nat.le_of_ble_eq_true rfl) dX9_burn_305 (fun x M1 hx2 => ?_)
      obtain ⟨hx0, hf⟩ := hx2
      obtain rfl : x = tellV X 3 o c n := hx0.trans etell
      have e135 : M1 135 = setN (setN B (64 + 15 * c + 1) o) 515 ((X 1 12 * 179 + 83) % 30011) := by rw [hf 135 (by decide) (by decide), setA_a]
      have hfd : FD N M1 := fun q a b c => (hf q b c).trans (setA_o a)
      by_cases e3 : X 1 12 % 10 < tellV X 3 o c n
      · rw [if_pos e3] at ep
        have hq := hQ M1 (setN (setN (setN B (64 + 15 * c + 1) o) 515 ((X 1 12 * 179 + 83) % 30011)) (64 + 15 * c + 0) 2) hfd (by rw [ep]; exact hRW.c (by unfold szI; rw [ep0.1, ep0.2.1, show putM X c o 1 13 = X 1 13 by rw [epm, up_k (by decide), up_o (by decide)]]; exact hsz) (Or.inl rfl) (by rw [ep0.2.1]; exact hc) (by omega)) (fun k hk => by rw [setN_o (by omega), setN_o (by omega), setN_o (by omega)])
        rw [ep, up_s, ← setA_u, setA_me e135] at hq
        refine e_icmp_ge (tgt := 318) dX9_burn_308 (by decide) (fun h => absurd h (by omega)) (fun h308 => ?_)
        refine e_aload0 dX9_burn_311 ?_
        refine e_iload1 dX9_burn_312 ?_
        refine e_iconst dX9_burn_313 rfl kc_0 ?_
        refine e_iconst dX9_burn_314 rfl kc_2 ?_
        refine e_cVV (ct_X9_puts (d := d - 1) (k := 0) hc6 (by decide)) cy_X9_puts cv_X9_puts ml_X9_336 la_134 rfl rfl rfl (rok (by omega) (by decide)) (Nat.le_of_ble_eq_true rfl) dX9_burn_315 ?_
        refine e_aload0 dX9_burn_318 ?_
        refine e_iload1 dX9_burn_319 ?_
        refine e_iconst dX9_burn_320 rfl kc_0 ?_
        refine e_cVI (ct_X9_ofCandle (d := d - 1) (k := 0) hc6 (by decide)) cy_X9_ofCandle cv_X9_ofCandle ml_X9_327 la_134 rfl rfl rfl (rok (by omega) (by decide)) (Nat.le_of_ble_eq_true rfl) dX9_burn_321 ?_
        refine WW.ec (y := 2) (by rw [up_s]) ?_
        refine e_iret dX9_burn_324 ?_
        exact hq
      · rw [if_neg e3] at ep
        have hq := hQ M1 (setN (setN B (64 + 15 * c + 1) o) 515 ((X 1 12 * 179 + 83) % 30011)) hfd (by rw [ep]; exact hRW) (fun k hk => by rw [setN_o (by omega), setN_o (by omega)])
        rw [ep, ep0.2.2.2, setA_me e135] at hq
        refine e_icmp_ge (tgt := 318) dX9_burn_308 (by decide) (fun h308 => ?_) (fun h => absurd h (by omega))
        refine e_aload0 dX9_burn_318 ?_
        refine e_iload1 dX9_burn_319 ?_
        refine e_iconst dX9_burn_320 rfl kc_0 ?_
        refine e_cVI (ct_X9_ofCandle (d := d - 1) (k := 0) hc6 (by decide)) cy_X9_ofCandle cv_X9_ofCandle ml_X9_327 la_134 rfl rfl rfl (rok (by omega) (by decide)) (Nat.le_of_ble_eq_true rfl) dX9_burn_321 ?_
        refine WW.ec (y := X 8 c) (by rw [e135, setN_o (by omega), setN_o (by omega)]; exact ac.1) ?_
        refine e_iret dX9_burn_324 ?_
        exact hq
end MBURN
theorem szI.fr {X Y : Mem} (h : szI X) (e0 : Y 1 0 = X 1 0) (e5 : Y 1 5 = X 1 5) (e13 : Y 1 13 ≤ 72) : szI Y := by unfold szI; rw [e0, e5]; exact ⟨h.1, h.2.1, e13⟩
theorem chg_burn {G : Mem} {c : Int} (hG : GM G) (ok : okBurn G c) : CHG G c (-1) (burnM G c) ∧ G 1 13 < 72 := by
  have hS := hG.2.1
  have hq := (nxt_ok hS).1
  have hlen := hG.1.1.len ok.1
  have hb5 := hG.1.1.2.1
  have hdl : G 1 13 < 72 := by
    have := dsum_l (M := G) (c := c.toNat) (G 1 5).toNat (by have := ok.1; omega) hG.nx (by have := ok.2.2.2.2; omega)
    have := hG.2.2.2.2.1.1
    omega
  have hd0 := hG.dr.1
  have ko : ∀ o, (o < 25 ∨ 56 < o) → keepM G (nxt G) c (-1) o = G o := fun o ho => keepM_o (by omega) (by omega)
  have k1 := ko 1 (by decide)
  have hh := ok.2.2.1
  have hh0 := hh.1
  have hh1 := hh.2
  have e13 : bI2 (keepM G (nxt G) c (-1)) c (G 10 c.toNat) (G 9 c.toNat) 1 13 = G 1 13 := by rw [bI2_o (by decide) (by decide) (by decide), k1]
  refine ⟨⟨fun o a b e f g => ?_, ⟨fun k a b => ?_, ?_⟩, fun o ho k hk => ?_, fun o ho k hk => ?_, ⟨fun k hk => ?_, fun hi => absurd hi.2.1 (by decide)⟩, fun k hk => ?_, fun o a b => ?_⟩, hdl⟩
  · funext k
    unfold burnM
    rw [passM_o (by omega) (by omega) (Or.inl b)]
    unfold burnB
    rw [up_o (by omega), burnI_o (by omega) (by omega) (by omega) (by omega) (Or.inl b), ko o g]
  · unfold burnM
    rw [passM_o (by omega) (by omega) (Or.inr a)]
    unfold burnB
    rw [up_o (by omega), burnI_o (by omega) (by omega) (by omega) (by omega) (Or.inr b), k1]
  · unfold burnM
    rw [passM_o (by omega) (by omega) (Or.inr (by decide))]
    unfold burnB burnI
    rw [up_o (by omega), adD_13 (by rw [e13]; exact hdl), e13]
    omega
  · unfold burnM
    rw [passM_o (by omega) (by omega) (Or.inl (by omega))]
    unfold burnB
    rw [up_o (by omega)]
    rcases ho with rfl | rfl | rfl
    · rw [burnI_3, if_neg (by omega), ko 3 (by decide)]
    · rw [burnI_4, if_neg (by omega), ko 4 (by decide)]
    · rw [burnI_5, if_neg (by omega), ko 5 (by decide)]
  · have hne : k ≠ c.toNat := fun z => hk ⟨ok.1, z⟩
    have hb : burnB G c o k = G o k := by
      unfold burnB
      rw [up_k hne, burnI_o (by omega) (by omega) (by omega) (by omega) (Or.inl (by omega)), ko o (by omega)]
    unfold burnM passM putM
    split
    · rw [up_k hne, hb]
    split
    · exact hb
    split
    · rw [up_k hne, up_o (by omega), up_k hne, hb]
    · rw [up_o (by omega), up_k hne, hb]
  · unfold burnM
    rw [passM_o (by decide) (by decide) (Or.inl (by decide))]
    unfold burnB
    rw [up_o (by decide), burnI_o (by decide) (by decide) (by decide) (by decide) (Or.inl (by decide)), ko 11 (by decide)]
  · unfold burnM
    rw [passM_o (by decide) (by decide) (Or.inl (by decide))]
    unfold burnB burnI adD
    rw [up_o (by decide), if_pos (by rw [e13]; exact hdl)]
    unfold addD
    rw [e13, up_o (by decide), up_k (by omega), up_k (by omega), up_k (by omega), up_k (by omega), up_k (by omega), bI2_o (by decide) (by decide) (by decide), ko 12 (by decide)]
  · funext k
    unfold burnM
    rw [passM_o (by omega) (by omega) (Or.inl (by omega))]
    unfold burnB
    rw [up_o (by omega), burnI_o (by omega) (by omega) (by omega) (by omega) (Or.inl (by omega))]
