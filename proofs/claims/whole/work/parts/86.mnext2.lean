/-! THE MODEL'S NEXT TOKEN -/
theorem ltE_lt {B : Nat → Int} {L : Nat} : ∀ n i, ltE B L n i ≤ i + n
  | 0, i => Nat.le_refl _
  | n + 1, i => by
    unfold ltE
    split
    · have := ltE_lt (B := B) (L := L) n (i + 1); omega
    · omega
section MNEXT2
variable {l : Launch} {w : Wd} {d : Nat} {M : Mem} {Q : Option MV → Mem → Prop} {B : Nat → Int} {L t : Nat}
def sgP (x : Int) : Prop := isSg x
theorem sgn_tab {x : Int} (h : sgP x) : (59 ≤ x ∧ x ≤ 62) ∨ (40 ≤ x ∧ x ≤ 45) ∨ x = 47 ∨ x = 35 := by unfold sgP at h; omega
theorem sgP_no {x : Int} (h : x = 60 ∨ x = 62 ∨ x = 300 ∨ x = 301) : ¬ sgP x := by unfold sgP; omega
/-- a sign or a stray -/
theorem nx_sign (hd : 3 ≤ d) (hL : L ≤ 300) (h14 : M 134 14 = L) {a : Nat} (h15 : M 134 15 = a) (hal : a < L) (nlt : ¬ isLt (M 137 a)) (ndg : ¬ isDg (M 137 a)) (fin : ∀ (s u : Int) (N : Mem), FN M N → N 134 16 = (a : Int) → N 134 17 = s → N 134 18 = u → (sgP (M 137 a) → s = 3 ∧ u = M 137 a ∧ N 134 15 = (a : Int) + 1) → (¬ sgP (M 137 a) → s = 4 ∨ (s = 3 ∧ ¬ sgP u)) → Q none N) :
    WM l w RX9 cX9_next 5 none d Q 52 [some (vR 134), none, none, none, none] [] M := by
  have h137 : up M 134 16 (a : Int) 137 a = M 137 a := up_o (by decide)
  have hf0 : FN M (up M 134 16 (a : Int)) := (FN.rf M).up (by decide)
  have e14 : up M 134 16 (a : Int) 134 14 = (L : Int) := by rw [up_k (by decide)]; exact h14
  have h373 : ∀ s : Int, (sgP (M 137 a) → s = 3) → (s = 3 ∨ s = 4) → WM l w RX9 cX9_next 5 none d Q 373 [some (vR 134), some (vI (M 137 a)), none, none, none] [] (up (up (up (up M 134 16 (a : Int)) 134 15 ((a : Int) + 1)) 134 18 (M 137 a)) 134 17 s) := by
    intro s hs1 hs2
    have e15 : up (up (up (up M 134 16 (a : Int)) 134 15 ((a : Int) + 1)) 134 18 (M 137 a)) 134 17 s 134 15 = ((a + 1 : Nat) : Int) := by rw [up_k (by decide), up_k (by decide), up_s]; rfl
    have e14b : up (up (up (up M 134 16 (a : Int)) 134 15 ((a : Int) + 1)) 134 18 (M 137 a)) 134 17 s 134 14 = (L : Int) := by rw [up_k (by decide), up_k (by decide), up_k (by decide), up_k (by decide)]; exact h14
    have fN : FN M (up (up (up (up M 134 16 (a : Int)) 134 15 ((a : Int) + 1)) 134 18 (M 137 a)) 134 17 s) := (((hf0.up (by decide)).up (by decide)).up (by decide))
    have plain : Q none (up (up (up (up M 134 16 (a : Int)) 134 15 ((a : Int) + 1)) 134 18 (M 137 a)) 134 17 s) := fin s (M 137 a) _ fN (by rw [up_k (by decide), up_k (by decide), up_k (by decide), up_s]) (up_s _ _ _ _) (by rw [up_k (by decide), up_s]) (fun sg => ⟨hs1 sg, rfl, e15⟩) (fun sg => by
      rcases hs2 with z | z
      · exact Or.inr ⟨z, sg⟩
      · exact Or.inl z)
    have both : ∀ u : Int, (u = 300 ∨ u = 301) → (M 137 a = 60 ∨ M 137 a = 62) → Q none (up (up (up (up (up (up M 134 16 (a : Int)) 134 15 ((a : Int) + 1)) 134 18 (M 137 a)) 134 17 s) 134 18 u) 134 15 (((a + 1 : Nat) : Int) + 1)) := fun u hu nsg => fin s u _ ((fN.up (by decide)).up (by decide)) (by rw [up_k (by decide), up_k (by decide), up_k (by decide), up_k (by decide), up_k (by decide), up_s]) (by rw [up_k (by decide), up_k (by decide), up_s]) (by rw [up_k (by decide), up_s]) (fun sg => absurd sg (sgP_no (by omega))) (fun _ => by
      rcases hs2 with z | z
      · exact Or.inr ⟨z, sgP_no (by omega)⟩
      · exact Or.inl z)
    clear hs1 hs2 nlt ndg
    refine e_iload1 dX9_next_373 ?_
    refine e_bipush dX9_next_374 rfl kb_60 ?_
    refine e_icmp_eq (tgt := 385) dX9_next_376 (by decide) (fun h376 => ?_) (fun h376 => ?_)
    · refine e_aload0 dX9_next_385 ?_
      refine e_getI fl_X9_171 la_134 rfl dX9_next_386 ?_
      refine WW.ec (y := ((a + 1 : Nat) : Int)) (e15) ?_
      refine e_aload0 dX9_next_389 ?_
      refine e_getI fl_X9_174 la_134 rfl dX9_next_390 ?_
      refine WW.ec (y := (L : Int)) (e14b) ?_
      refine e_icmp_ge (tgt := 439) dX9_next_393 (by decide) (fun h393 => ?_) (fun h393 => ?_)
      · exact e_vret dX9_next_439 plain
      · refine e_aload0 dX9_next_396 ?_
        refine e_getR fl_X9_16 la_134 rfl dX9_next_397 ?_
        refine e_aload0 dX9_next_400 ?_
        refine e_getI fl_X9_171 la_134 rfl dX9_next_401 ?_
        refine WW.ec (y := ((a + 1 : Nat) : Int)) (e15) ?_
        refine e_baldK (k := a + 1) la_137 (by omega) (by omega) dX9_next_404 ?_
        refine e_bipush dX9_next_405 rfl kb_61 ?_
        refine e_icmp_ne (tgt := 439) dX9_next_407 (by decide) (fun h407 => ?_) (fun h407 => ?_)
        · exact e_vret dX9_next_439 plain
        · refine e_aload0 dX9_next_410 ?_
          refine e_iload1 dX9_next_411 ?_
          refine e_bipush dX9_next_412 rfl kb_60 ?_
          refine e_icmp_ne (tgt := 423) dX9_next_414 (by decide) (fun h414 => ?_) (fun h414 => ?_)
          · have hx := both 301 (Or.inr rfl) (by omega)
            refine e_sipush dX9_next_423 rfl ks_301 ?_
            refine e_putI fp_X9_193 la_134 rfl dX9_next_426 ?_
            refine e_aload0 dX9_next_429 ?_
            refine e_dup dX9_next_430 rfl ?_
            refine e_getI fl_X9_171 la_134 rfl dX9_next_431 ?_
            refine WW.ec (y := ((a + 1 : Nat) : Int)) (by rw [up_k (by decide)]; exact e15) ?_
            refine e_iconst dX9_next_434 rfl kc_1 ?_
            refine e_iadd dX9_next_435 (⟨by omega, by omega⟩) ?_
            refine e_putI fp_X9_171 la_134 rfl dX9_next_436 ?_
            refine e_vret dX9_next_439 ?_
            exact hx
          · have hx := both 300 (Or.inl rfl) (by omega)
            refine e_sipush dX9_next_417 rfl ks_300 ?_
            refine e_goto (tgt := 426) dX9_next_420 (by decide) ?_
            refine e_putI fp_X9_193 la_134 rfl dX9_next_426 ?_
            refine e_aload0 dX9_next_429 ?_
            refine e_dup dX9_next_430 rfl ?_
            refine e_getI fl_X9_171 la_134 rfl dX9_next_431 ?_
            refine WW.ec (y := ((a + 1 : Nat) : Int)) (by rw [up_k (by decide)]; exact e15) ?_
            refine e_iconst dX9_next_434 rfl kc_1 ?_
            refine e_iadd dX9_next_435 (⟨by omega, by omega⟩) ?_
            refine e_putI fp_X9_171 la_134 rfl dX9_next_436 ?_
            refine e_vret dX9_next_439 ?_
            exact hx
    · refine e_iload1 dX9_next_379 ?_
      refine e_bipush dX9_next_380 rfl kb_62 ?_
      refine e_icmp_ne (tgt := 439) dX9_next_382 (by decide) (fun h382 => ?_) (fun h382 => ?_)
      · exact e_vret dX9_next_439 plain
      · refine e_aload0 dX9_next_385 ?_
        refine e_getI fl_X9_171 la_134 rfl dX9_next_386 ?_
        refine WW.ec (y := ((a + 1 : Nat) : Int)) (e15) ?_
        refine e_aload0 dX9_next_389 ?_
        refine e_getI fl_X9_174 la_134 rfl dX9_next_390 ?_
        refine WW.ec (y := (L : Int)) (e14b) ?_
        refine e_icmp_ge (tgt := 439) dX9_next_393 (by decide) (fun h393 => ?_) (fun h393 => ?_)
        · exact e_vret dX9_next_439 plain
        · refine e_aload0 dX9_next_396 ?_
          refine e_getR fl_X9_16 la_134 rfl dX9_next_397 ?_
          refine e_aload0 dX9_next_400 ?_
          refine e_getI fl_X9_171 la_134 rfl dX9_next_401 ?_
          refine WW.ec (y := ((a + 1 : Nat) : Int)) (e15) ?_
          refine e_baldK (k := a + 1) la_137 (by omega) (by omega) dX9_next_404 ?_
          refine e_bipush dX9_next_405 rfl kb_61 ?_
          refine e_icmp_ne (tgt := 439) dX9_next_407 (by decide) (fun h407 => ?_) (fun h407 => ?_)
          · exact e_vret dX9_next_439 plain
          · refine e_aload0 dX9_next_410 ?_
            refine e_iload1 dX9_next_411 ?_
            refine e_bipush dX9_next_412 rfl kb_60 ?_
            refine e_icmp_ne (tgt := 423) dX9_next_414 (by decide) (fun h414 => ?_) (fun h414 => ?_)
            · have hx := both 301 (Or.inr rfl) (by omega)
              refine e_sipush dX9_next_423 rfl ks_301 ?_
              refine e_putI fp_X9_193 la_134 rfl dX9_next_426 ?_
              refine e_aload0 dX9_next_429 ?_
              refine e_dup dX9_next_430 rfl ?_
              refine e_getI fl_X9_171 la_134 rfl dX9_next_431 ?_
              refine WW.ec (y := ((a + 1 : Nat) : Int)) (by rw [up_k (by decide)]; exact e15) ?_
              refine e_iconst dX9_next_434 rfl kc_1 ?_
              refine e_iadd dX9_next_435 (⟨by omega, by omega⟩) ?_
              refine e_putI fp_X9_171 la_134 rfl dX9_next_436 ?_
              refine e_vret dX9_next_439 ?_
              exact hx
            · have hx := both 300 (Or.inl rfl) (by omega)
              refine e_sipush dX9_next_417 rfl ks_300 ?_
              refine e_goto (tgt := 426) dX9_next_420 (by decide) ?_
              refine e_putI fp_X9_193 la_134 rfl dX9_next_426 ?_
              refine e_aload0 dX9_next_429 ?_
              refine e_dup dX9_next_430 rfl ?_
              refine e_getI fl_X9_171 la_134 rfl dX9_next_431 ?_
              refine WW.ec (y := ((a + 1 : Nat) : Int)) (by rw [up_k (by decide)]; exact e15) ?_
              refine e_iconst dX9_next_434 rfl kc_1 ?_
              refine e_iadd dX9_next_435 (⟨by omega, by omega⟩) ?_
              refine e_putI fp_X9_171 la_134 rfl dX9_next_436 ?_
              refine e_vret dX9_next_439 ?_
              exact hx
  refine e_aload0 dX9_next_52 ?_
  refine e_aload0 dX9_next_53 ?_
  refine e_getI fl_X9_171 la_134 rfl dX9_next_54 ?_
  refine WW.ec (y := (a : Int)) (h15) ?_
  refine e_putI fp_X9_177 la_134 rfl dX9_next_57 ?_
  refine e_aload0 dX9_next_60 ?_
  refine e_getI fl_X9_171 la_134 rfl dX9_next_61 ?_
  refine WW.ec (y := (a : Int)) (by rw [up_k (by decide)]; exact h15) ?_
  refine e_aload0 dX9_next_64 ?_
  refine e_getI fl_X9_174 la_134 rfl dX9_next_65 ?_
  refine WW.ec (y := (L : Int)) (e14) ?_
  refine e_icmp_ne (tgt := 77) dX9_next_68 (by decide) (fun h68 => ?_) (fun h => absurd h (by omega))
  refine e_aload0 dX9_next_77 ?_
  refine e_getR fl_X9_16 la_134 rfl dX9_next_78 ?_
  refine e_aload0 dX9_next_81 ?_
  refine e_getI fl_X9_171 la_134 rfl dX9_next_82 ?_
  refine WW.ec (y := (a : Int)) (by rw [up_k (by decide)]; exact h15) ?_
  refine e_baldK (k := a) la_137 (by omega) (by omega) dX9_next_85 ?_
  refine WW.ec (y := M 137 a) (h137) ?_
  refine e_istore1 dX9_next_86 rfl ?_
  refine e_iload1 dX9_next_87 ?_
  refine e_cSZ (ct_X9_isLetter (d := d - 1) (by omega)) cy_X9_isLetter cs_X9_isLetter ml_X9_183 rfl rfl (rok (by omega) (by decide)) (Nat.le_of_ble_eq_true rfl) dX9_next_88 (fun g88 => ?_) (fun g88 => ?_)
  · refine e_if_eq (tgt := 211) dX9_next_91 (by decide) (fun h => absurd h (by decide)) (fun _ => ?_)
    exact absurd g88 nlt
  · refine e_if_eq (tgt := 211) dX9_next_91 (by decide) (fun _ => ?_) (fun h => absurd h (by decide))
    refine e_iload1 dX9_next_211 ?_
    refine e_bipush dX9_next_212 rfl kb_48 ?_
    refine e_bipush dX9_next_214 rfl kb_57 ?_
    refine e_cSZ (ct_X9_in (d := d - 1)) cy_X9_in cs_X9_in ml_X9_120 rfl rfl (rok (by omega) (by decide)) (Nat.le_of_ble_eq_true rfl) dX9_next_216 (fun g216 => ?_) (fun g216 => ?_)
    · refine e_if_eq (tgt := 315) dX9_next_219 (by decide) (fun h => absurd h (by decide)) (fun _ => ?_)
      exact absurd g216 ndg
    · refine e_if_eq (tgt := 315) dX9_next_219 (by decide) (fun _ => ?_) (fun h => absurd h (by decide))
      refine e_aload0 dX9_next_315 ?_
      refine e_dup dX9_next_316 rfl ?_
      refine e_getI fl_X9_171 la_134 rfl dX9_next_317 ?_
      refine WW.ec (y := (a : Int)) (by rw [up_k (by decide)]; exact h15) ?_
      refine e_iconst dX9_next_320 rfl kc_1 ?_
      refine e_iadd dX9_next_321 (⟨by omega, by omega⟩) ?_
      refine e_putI fp_X9_171 la_134 rfl dX9_next_322 ?_
      refine e_aload0 dX9_next_325 ?_
      refine e_iload1 dX9_next_326 ?_
      refine e_putI fp_X9_193 la_134 rfl dX9_next_327 ?_
      refine e_aload0 dX9_next_330 ?_
      refine e_iload1 dX9_next_331 ?_
      refine e_bipush dX9_next_332 rfl kb_59 ?_
      refine e_bipush dX9_next_334 rfl kb_62 ?_
      refine e_cSZ (ct_X9_in (d := d - 1)) cy_X9_in cs_X9_in ml_X9_120 rfl rfl (rok (by omega) (by decide)) (Nat.le_of_ble_eq_true rfl) dX9_next_336 (fun g336 => ?_) (fun g336 => ?_)
      · refine e_if_ne (tgt := 365) dX9_next_339 (by decide) (fun _ => ?_) (fun h => absurd h (by decide))
        have hx := h373 3 (fun _ => rfl) (Or.inl rfl)
        refine e_iconst dX9_next_365 rfl kc_3 ?_
        refine e_goto (tgt := 370) dX9_next_366 (by decide) ?_
        refine e_putI fp_X9_180 la_134 rfl dX9_next_370 ?_
        exact hx
      · refine e_if_ne (tgt := 365) dX9_next_339 (by decide) (fun h => absurd h (by decide)) (fun _ => ?_)
        refine e_iload1 dX9_next_342 ?_
        refine e_bipush dX9_next_343 rfl kb_40 ?_
        refine e_bipush dX9_next_345 rfl kb_45 ?_
        refine e_cSZ (ct_X9_in (d := d - 1)) cy_X9_in cs_X9_in ml_X9_120 rfl rfl (rok (by omega) (by decide)) (Nat.le_of_ble_eq_true rfl) dX9_next_347 (fun g347 => ?_) (fun g347 => ?_)
        · refine e_if_ne (tgt := 365) dX9_next_350 (by decide) (fun _ => ?_) (fun h => absurd h (by decide))
          have hx := h373 3 (fun _ => rfl) (Or.inl rfl)
          refine e_iconst dX9_next_365 rfl kc_3 ?_
          refine e_goto (tgt := 370) dX9_next_366 (by decide) ?_
          refine e_putI fp_X9_180 la_134 rfl dX9_next_370 ?_
          exact hx
        · refine e_if_ne (tgt := 365) dX9_next_350 (by decide) (fun h => absurd h (by decide)) (fun _ => ?_)
          refine e_iload1 dX9_next_353 ?_
          refine e_bipush dX9_next_354 rfl kb_47 ?_
          refine e_icmp_eq (tgt := 365) dX9_next_356 (by decide) (fun h356 => ?_) (fun h356 => ?_)
          · have hx := h373 3 (fun _ => rfl) (Or.inl rfl)
            refine e_iconst dX9_next_365 rfl kc_3 ?_
            refine e_goto (tgt := 370) dX9_next_366 (by decide) ?_
            refine e_putI fp_X9_180 la_134 rfl dX9_next_370 ?_
            exact hx
          · refine e_iload1 dX9_next_359 ?_
            refine e_bipush dX9_next_360 rfl kb_35 ?_
            refine e_icmp_ne (tgt := 369) dX9_next_362 (by decide) (fun h362 => ?_) (fun h362 => ?_)
            · have hx := h373 4 (fun z => by rcases sgn_tab z with q | q | q | q; exact absurd q g336; exact absurd q g347; exact absurd q h356; exact absurd q h362) (Or.inr rfl)
              refine e_iconst dX9_next_369 rfl kc_4 ?_
              refine e_putI fp_X9_180 la_134 rfl dX9_next_370 ?_
              exact hx
            · have hx := h373 3 (fun _ => rfl) (Or.inl rfl)
              refine e_iconst dX9_next_365 rfl kc_3 ?_
              refine e_goto (tgt := 370) dX9_next_366 (by decide) ?_
              refine e_putI fp_X9_180 la_134 rfl dX9_next_370 ?_
              exact hx
/-- from the place where a token begins -/
theorem nx_tok (hd : 3 ≤ d) (hL : L ≤ 300) (hT : TPE (M 137) B L) (h14 : M 134 14 = L) {a n : Nat} (h15 : M 134 15 = a) (ha : a ≤ L) (hn : L ≤ n + a) (hw : a < L → ¬ (B a = 32 ∨ B a = 10)) (hdr : (tks B L).drop t = LX B L n a) (hQ : ∀ M1, FN M M1 → CT B L M1 t → Q none M1) :
    WM l w RX9 cX9_next 5 none d Q 52 [some (vR 134), none, none, none, none] [] M := by
  by_cases hal : a < L
  · obtain ⟨m, rfl⟩ : ∃ m, n = m + 1 := ⟨n - 1, by omega⟩
    have hw1 := hw hal
    have ht := hT a hal
    have h137 : up M 134 16 (a : Int) 137 a = M 137 a := up_o (by decide)
    rw [show LX B L (m + 1) a = if a < L then (if isDg (B a) then (1, a, dgV B L L a 0) :: LX B L m (dgE B L L a) else if isLt (B a) then (2, a, wordV B a (ltE B L L a)) :: LX B L m (ltE B L L a) else if B a = 32 ∨ B a = 10 then LX B L m (a + 1) else ((if isSg (B a) then B a else 3), a, 0) :: LX B L m (a + 1)) else [(0, L, 0)] from rfl, if_pos hal] at hdr
    have hf0 : FN M (up M 134 16 (a : Int)) := (FN.rf M).up (by decide)
    have hT0 : TPE (up M 134 16 (a : Int) 137) B L := by rw [up_row (by decide)]; exact hT
    have e14 : up M 134 16 (a : Int) 134 14 = (L : Int) := by rw [up_k (by decide)]; exact h14
    by_cases hlt : isLt (B a)
    · rw [if_neg (by omega), if_pos hlt] at hdr
      obtain ⟨tk1, tk2⟩ := tk_drop hdr
      have etx : M 137 a = B a := by omega
      clear ht
      have hls := ltE_s hal hlt
      have h99 := nl_loop (l := l) (w := w) (d := d) (M := up M 134 16 (a : Int)) (Q := Q) (B := B) (L := L) (f := a) (x := B a) hd hL hT0 e14 (fun N j v f15 f16 f17 fe fl fv => by
        have hj : 0 < j := by omega
        have fin : ∀ s u : Int, TKR 2 (wordV B a (ltE B L L a)) s u → Q none (up (up N 134 18 u) 134 17 s) := by
          intro s u hr
          refine hQ _ ((hf0.tr f15).up (by decide) |>.up (by decide)) ⟨?_, ?_, fun _ _ => ?_⟩
          · rw [up_k (by decide), up_k (by decide), f17, up_s]
            unfold tkP; rw [tk1]
          · rw [up_s, up_k (by decide), up_s]
            unfold tkK tkV; rw [tk1]; exact hr
          · refine ⟨ltE B L L a, m, ?_, by omega, by omega, tk2⟩
            rw [up_k (by decide), up_k (by decide), f16, fe]
        have hdg : ∀ i, i < j → dg64 (B (a + i)) := fun i hi => by have := fl i hi; omega
        by_cases big : 7 < j
        · have ewv : wordV B a (ltE B L L a) = -1 := wordV_long (by omega)
          have hfin := fin 4 (-1) (by rw [ewv]; exact Or.inr (Or.inr (Or.inl ⟨rfl, Or.inr ⟨rfl, rfl⟩⟩)))
          refine e_aload0 dX9_next_173 ?_
          refine e_iload4 dX9_next_174 ?_
          refine e_bipush dX9_next_176 rfl kb_7 ?_
          refine e_icmp_le (tgt := 185) dX9_next_178 (by decide) (fun h => absurd h (by omega)) (fun h178 => ?_)
          refine e_iconst dX9_next_181 rfl kc_m1 ?_
          refine e_goto (tgt := 189) dX9_next_182 (by decide) ?_
          refine e_putI fp_X9_193 la_134 rfl dX9_next_189 ?_
          refine e_aload0 dX9_next_192 ?_
          refine e_aload0 dX9_next_193 ?_
          refine e_getI fl_X9_193 la_134 rfl dX9_next_194 ?_
          refine WW.ec (y := -1) (by rw [up_s]) ?_
          refine e_if_ge (tgt := 204) dX9_next_197 (by decide) (fun h => absurd h (by decide)) (fun h197 => ?_)
          refine e_iconst dX9_next_200 rfl kc_4 ?_
          refine e_goto (tgt := 205) dX9_next_201 (by decide) ?_
          refine e_putI fp_X9_180 la_134 rfl dX9_next_205 ?_
          refine e_goto (tgt := 439) dX9_next_208 (by decide) ?_
          refine e_vret dX9_next_439 ?_
          exact hfin
        · have ev := fv (by omega)
          have ewv : wordV B a (ltE B L L a) = wcF v all18 := by rw [wordV_en (n := j) fe hdg, ev]
          have hb := wordV_b (B := B) (f := a) (e := ltE B L L a)
          rw [ewv] at hb
          by_cases neg : wcF v all18 < 0
          · have e1 : wcF v all18 = -1 := by omega
            have hfin := fin 4 (wcF v all18) (by rw [ewv, e1]; exact Or.inr (Or.inr (Or.inl ⟨rfl, Or.inr ⟨rfl, rfl⟩⟩)))
            refine e_aload0 dX9_next_173 ?_
            refine e_iload4 dX9_next_174 ?_
            refine e_bipush dX9_next_176 rfl kb_7 ?_
            refine e_icmp_le (tgt := 185) dX9_next_178 (by decide) (fun h178 => ?_) (fun h => absurd h (by omega))
            refine e_lload2 dX9_next_185 ?_
            refine e_cSI (ct_X9_wordOf (d := d - 1)) cy_X9_wordOf cs_X9_wordOf ml_X9_189 rfl rfl (rok (by omega) (by decide)) (Nat.le_of_ble_eq_true rfl) dX9_next_186 ?_
            refine e_putI fp_X9_193 la_134 rfl dX9_next_189 ?_
            refine e_aload0 dX9_next_192 ?_
            refine e_aload0 dX9_next_193 ?_
            refine e_getI fl_X9_193 la_134 rfl dX9_next_194 ?_
            refine WW.ec (y := wcF v all18) (by rw [up_s]) ?_
            refine e_if_ge (tgt := 204) dX9_next_197 (by decide) (fun h => absurd h (by omega)) (fun h197 => ?_)
            refine e_iconst dX9_next_200 rfl kc_4 ?_
            refine e_goto (tgt := 205) dX9_next_201 (by decide) ?_
            refine e_putI fp_X9_180 la_134 rfl dX9_next_205 ?_
            refine e_goto (tgt := 439) dX9_next_208 (by decide) ?_
            refine e_vret dX9_next_439 ?_
            exact hfin
          · have hfin := fin 1 (wcF v all18) (by rw [ewv]; exact Or.inr (Or.inr (Or.inl ⟨rfl, Or.inl ⟨by omega, rfl, rfl⟩⟩)))
            refine e_aload0 dX9_next_173 ?_
            refine e_iload4 dX9_next_174 ?_
            refine e_bipush dX9_next_176 rfl kb_7 ?_
            refine e_icmp_le (tgt := 185) dX9_next_178 (by decide) (fun h178 => ?_) (fun h => absurd h (by omega))
            refine e_lload2 dX9_next_185 ?_
            refine e_cSI (ct_X9_wordOf (d := d - 1)) cy_X9_wordOf cs_X9_wordOf ml_X9_189 rfl rfl (rok (by omega) (by decide)) (Nat.le_of_ble_eq_true rfl) dX9_next_186 ?_
            refine e_putI fp_X9_193 la_134 rfl dX9_next_189 ?_
            refine e_aload0 dX9_next_192 ?_
            refine e_aload0 dX9_next_193 ?_
            refine e_getI fl_X9_193 la_134 rfl dX9_next_194 ?_
            refine WW.ec (y := wcF v all18) (by rw [up_s]) ?_
            refine e_if_ge (tgt := 204) dX9_next_197 (by decide) (fun h197 => ?_) (fun h => absurd h (by omega))
            refine e_iconst dX9_next_204 rfl kc_1 ?_
            refine e_putI fp_X9_180 la_134 rfl dX9_next_205 ?_
            refine e_goto (tgt := 439) dX9_next_208 (by decide) ?_
            refine e_vret dX9_next_439 ?_
            exact hfin) L 0 (up M 134 16 (a : Int)) 0 (by omega) (by omega) rfl (FN.rf _) (by rw [up_k (by decide)]; exact h15) rfl (fun i hi => absurd hi (Nat.not_lt_zero i)) (fun _ => rfl) (by omega)
      refine e_aload0 dX9_next_52 ?_
      refine e_aload0 dX9_next_53 ?_
      refine e_getI fl_X9_171 la_134 rfl dX9_next_54 ?_
      refine WW.ec (y := (a : Int)) (h15) ?_
      refine e_putI fp_X9_177 la_134 rfl dX9_next_57 ?_
      refine e_aload0 dX9_next_60 ?_
      refine e_getI fl_X9_171 la_134 rfl dX9_next_61 ?_
      refine WW.ec (y := (a : Int)) (by rw [up_k (by decide)]; exact h15) ?_
      refine e_aload0 dX9_next_64 ?_
      refine e_getI fl_X9_174 la_134 rfl dX9_next_65 ?_
      refine WW.ec (y := (L : Int)) (e14) ?_
      refine e_icmp_ne (tgt := 77) dX9_next_68 (by decide) (fun h68 => ?_) (fun h => absurd h (by omega))
      refine e_aload0 dX9_next_77 ?_
      refine e_getR fl_X9_16 la_134 rfl dX9_next_78 ?_
      refine e_aload0 dX9_next_81 ?_
      refine e_getI fl_X9_171 la_134 rfl dX9_next_82 ?_
      refine WW.ec (y := (a : Int)) (by rw [up_k (by decide)]; exact h15) ?_
      refine e_baldK (k := a) la_137 (by omega) (by omega) dX9_next_85 ?_
      refine WW.ec (y := B a) (by rw [h137, etx]) ?_
      refine e_istore1 dX9_next_86 rfl ?_
      refine e_iload1 dX9_next_87 ?_
      refine e_cSZ (ct_X9_isLetter (d := d - 1) (by omega)) cy_X9_isLetter cs_X9_isLetter ml_X9_183 rfl rfl (rok (by omega) (by decide)) (Nat.le_of_ble_eq_true rfl) dX9_next_88 (fun g88 => ?_) (fun g88 => ?_)
      · refine e_if_eq (tgt := 211) dX9_next_91 (by decide) (fun h => absurd h (by decide)) (fun _ => ?_)
        refine e_lconst0 dX9_next_94 ?_
        refine e_lstore2 dX9_next_95 rfl ?_
        refine e_iconst dX9_next_96 rfl kc_0 ?_
        refine e_istore4 dX9_next_97 rfl ?_
        exact h99
      · refine e_if_eq (tgt := 211) dX9_next_91 (by decide) (fun _ => ?_) (fun h => absurd h (by decide))
        exact absurd hlt g88
    · rw [show (if isDg (B a) then ((1, a, dgV B L L a 0) : Int × Nat × Int) :: LX B L m (dgE B L L a) else if isLt (B a) then (2, a, wordV B a (ltE B L L a)) :: LX B L m (ltE B L L a) else if B a = 32 ∨ B a = 10 then LX B L m (a + 1) else ((if isSg (B a) then B a else 3), a, 0) :: LX B L m (a + 1)) = if isDg (B a) then (1, a, dgV B L L a 0) :: LX B L m (dgE B L L a) else ((if isSg (B a) then B a else 3), a, 0) :: LX B L m (a + 1) by rw [if_neg hlt, if_neg hw1]] at hdr
      have nlt : ¬ isLt (M 137 a) := by omega
      by_cases hdg : isDg (B a)
      · rw [if_pos hdg] at hdr
        obtain ⟨tk1, tk2⟩ := tk_drop hdr
        have etx : M 137 a = B a := by omega
        clear ht
        have hds := dgE_s hal hdg
        have h232 := nd_loop (l := l) (w := w) (d := d) (M := up M 134 16 (a : Int)) (Q := Q) (B := B) (L := L) (f := a) (x := B a) (by omega) hL hT0 e14 (fun N a2 u f1 f15 f16 f17 f18 fe fr => by
          refine hQ _ (hf0.tr f1) ⟨?_, ?_, fun _ _ => ?_⟩
          · rw [f16, up_s]; unfold tkP; rw [tk1]
          · rw [f17, f18]; unfold tkK tkV; rw [tk1]
            exact Or.inr (Or.inl ⟨rfl, rfl, fr⟩)
          · exact ⟨dgE B L L a, m, by rw [f15, fe], by omega, by omega, tk2⟩) L a (up (up (up M 134 16 (a : Int)) 134 17 2) 134 18 0) 0 0 ha (by omega) rfl rfl (((FN.rf _).up (by decide)).up (by decide)) (by rw [up_k (by decide), up_k (by decide), up_k (by decide)]; exact h15) (by rw [up_k (by decide), up_k (by decide)]) (by rw [up_k (by decide), up_s]) (up_s _ _ _ _) (by omega) (Or.inl ⟨by omega, rfl⟩) (by omega)
        refine e_aload0 dX9_next_52 ?_
        refine e_aload0 dX9_next_53 ?_
        refine e_getI fl_X9_171 la_134 rfl dX9_next_54 ?_
        refine WW.ec (y := (a : Int)) (h15) ?_
        refine e_putI fp_X9_177 la_134 rfl dX9_next_57 ?_
        refine e_aload0 dX9_next_60 ?_
        refine e_getI fl_X9_171 la_134 rfl dX9_next_61 ?_
        refine WW.ec (y := (a : Int)) (by rw [up_k (by decide)]; exact h15) ?_
        refine e_aload0 dX9_next_64 ?_
        refine e_getI fl_X9_174 la_134 rfl dX9_next_65 ?_
        refine WW.ec (y := (L : Int)) (e14) ?_
        refine e_icmp_ne (tgt := 77) dX9_next_68 (by decide) (fun h68 => ?_) (fun h => absurd h (by omega))
        refine e_aload0 dX9_next_77 ?_
        refine e_getR fl_X9_16 la_134 rfl dX9_next_78 ?_
        refine e_aload0 dX9_next_81 ?_
        refine e_getI fl_X9_171 la_134 rfl dX9_next_82 ?_
        refine WW.ec (y := (a : Int)) (by rw [up_k (by decide)]; exact h15) ?_
        refine e_baldK (k := a) la_137 (by omega) (by omega) dX9_next_85 ?_
        refine WW.ec (y := B a) (by rw [h137, etx]) ?_
        refine e_istore1 dX9_next_86 rfl ?_
        refine e_iload1 dX9_next_87 ?_
        refine e_cSZ (ct_X9_isLetter (d := d - 1) (by omega)) cy_X9_isLetter cs_X9_isLetter ml_X9_183 rfl rfl (rok (by omega) (by decide)) (Nat.le_of_ble_eq_true rfl) dX9_next_88 (fun g88 => ?_) (fun g88 => ?_)
        · refine e_if_eq (tgt := 211) dX9_next_91 (by decide) (fun h => absurd h (by decide)) (fun _ => ?_)
          exact absurd g88 hlt
        · refine e_if_eq (tgt := 211) dX9_next_91 (by decide) (fun _ => ?_) (fun h => absurd h (by decide))
          refine e_iload1 dX9_next_211 ?_
          refine e_bipush dX9_next_212 rfl kb_48 ?_
          refine e_bipush dX9_next_214 rfl kb_57 ?_
          refine e_cSZ (ct_X9_in (d := d - 1)) cy_X9_in cs_X9_in ml_X9_120 rfl rfl (rok (by omega) (by decide)) (Nat.le_of_ble_eq_true rfl) dX9_next_216 (fun g216 => ?_) (fun g216 => ?_)
          · refine e_if_eq (tgt := 315) dX9_next_219 (by decide) (fun h => absurd h (by decide)) (fun _ => ?_)
            refine e_aload0 dX9_next_222 ?_
            refine e_iconst dX9_next_223 rfl kc_2 ?_
            refine e_putI fp_X9_180 la_134 rfl dX9_next_224 ?_
            refine e_aload0 dX9_next_227 ?_
            refine e_iconst dX9_next_228 rfl kc_0 ?_
            refine e_putI fp_X9_193 la_134 rfl dX9_next_229 ?_
            exact h232
          · refine e_if_eq (tgt := 315) dX9_next_219 (by decide) (fun _ => ?_) (fun h => absurd h (by decide))
            exact absurd hdg g216
      · rw [if_neg hdg] at hdr
        obtain ⟨tk1, tk2⟩ := tk_drop hdr
        have ndg : ¬ isDg (M 137 a) := by omega
        have eK : tkK B L t = if isSg (B a) then B a else 3 := by unfold tkK; rw [tk1]
        have esg : sgP (B a) ↔ sgP (M 137 a) := by unfold sgP; omega
        have esv : sgP (B a) → M 137 a = B a := by unfold sgP; omega
        refine nx_sign hd hL h14 h15 hal nlt ndg (fun s u N f1 f16 f17 f18 c1 c2 => ?_)
        refine hQ _ f1 ⟨by rw [f16]; unfold tkP; rw [tk1], ?_, fun k0 k3 => ?_⟩
        · rw [eK, f17, f18]
          by_cases sg : isSg (B a)
          · rw [if_pos sg, (c1 (esg.mp sg)).1, (c1 (esg.mp sg)).2.1, esv sg]
            exact Or.inr (Or.inr (Or.inr (Or.inl ⟨sg, rfl, rfl⟩)))
          · rw [if_neg sg]
            exact Or.inr (Or.inr (Or.inr (Or.inr ⟨rfl, c2 (fun z => sg (esg.mpr z))⟩)))
        · by_cases sg : isSg (B a)
          · exact ⟨a + 1, m, by rw [(c1 (esg.mp sg)).2.2]; rfl, by omega, by omega, tk2⟩
          · rw [eK, if_neg sg] at k3
            exact absurd rfl k3
  · have el : a = L := by omega
    rw [LX_end (by omega)] at hdr
    obtain ⟨tk1, tk2⟩ := tk_drop hdr
    have hq := hQ (up (up M 134 16 (a : Int)) 134 17 0) (((FN.rf M).up (by decide)).up (by decide)) ⟨by rw [up_k (by decide), up_s, el]; unfold tkP; rw [tk1], by rw [up_s]; unfold tkK; rw [tk1]; exact Or.inl ⟨rfl, rfl⟩, fun z => absurd (by unfold tkK; rw [tk1]) z⟩
    refine e_aload0 dX9_next_52 ?_
    refine e_aload0 dX9_next_53 ?_
    refine e_getI fl_X9_171 la_134 rfl dX9_next_54 ?_
    refine WW.ec (y := (a : Int)) (h15) ?_
    refine e_putI fp_X9_177 la_134 rfl dX9_next_57 ?_
    refine e_aload0 dX9_next_60 ?_
    refine e_getI fl_X9_171 la_134 rfl dX9_next_61 ?_
    refine WW.ec (y := (a : Int)) (by rw [up_k (by decide)]; exact h15) ?_
    refine e_aload0 dX9_next_64 ?_
    refine e_getI fl_X9_174 la_134 rfl dX9_next_65 ?_
    refine WW.ec (y := (L : Int)) (by rw [up_k (by decide)]; exact h14) ?_
    refine e_icmp_ne (tgt := 77) dX9_next_68 (by decide) (fun h68 => ?_) (fun h68 => ?_)
    · omega
    · refine e_aload0 dX9_next_71 ?_
      refine e_iconst dX9_next_72 rfl kc_0 ?_
      refine e_putI fp_X9_180 la_134 rfl dX9_next_73 ?_
      refine e_vret dX9_next_76 ?_
      exact hq
theorem ws_loop (hd : 3 ≤ d) (hL : L ≤ 300) (hT : TPE (M 137) B L) (h14 : M 134 14 = L) (hQ : ∀ M1, FN M M1 → CT B L M1 t → Q none M1) : ∀ (q a n : Nat) (N : Mem), FN M N → N 134 15 = a → a + q = L → L ≤ n + a → (tks B L).drop t = LX B L n a → WM l w RX9 cX9_next 5 none d Q 0 [some (vR 134), none, none, none, none] [] N
  | 0, a, n, N, hf, h15, ha, hn, hdr => by
    have e14 : N 134 14 = (L : Int) := by rw [hf.2 14 (by decide)]; exact h14
    have h := nx_tok (l := l) (w := w) (d := d) (M := N) (Q := Q) hd hL (by rw [hf.1 137 (by decide)]; exact hT) e14 h15 (by omega) hn (fun z => by omega) hdr (fun M1 f c => hQ M1 (hf.tr f) c)
    refine e_aload0 dX9_next_0 ?_
    refine e_getI fl_X9_171 la_134 rfl dX9_next_1 ?_
    refine WW.ec (y := (a : Int)) (h15) ?_
    refine e_aload0 dX9_next_4 ?_
    refine e_getI fl_X9_174 la_134 rfl dX9_next_5 ?_
    refine WW.ec (y := (L : Int)) (e14) ?_
    refine e_icmp_ge (tgt := 52) dX9_next_8 (by decide) (fun h8 => ?_) (fun h8 => ?_)
    · exact h
    · omega
  | q + 1, a, n, N, hf, h15, ha, hn, hdr => by
    have e14 : N 134 14 = (L : Int) := by rw [hf.2 14 (by decide)]; exact h14
    have ht := hT a (by omega)
    have et : N 137 a = M 137 a := by rw [hf.1 137 (by decide)]
    by_cases ws : B a = 32 ∨ B a = 10
    · obtain ⟨m, rfl⟩ : ∃ m, n = m + 1 := ⟨n - 1, by omega⟩
      rw [show LX B L (m + 1) a = if a < L then (if isDg (B a) then (1, a, dgV B L L a 0) :: LX B L m (dgE B L L a) else if isLt (B a) then (2, a, wordV B a (ltE B L L a)) :: LX B L m (ltE B L L a) else if B a = 32 ∨ B a = 10 then LX B L m (a + 1) else ((if isSg (B a) then B a else 3), a, 0) :: LX B L m (a + 1)) else [(0, L, 0)] from rfl, if_pos (by omega), if_neg (by omega), if_neg (by omega), if_pos ws] at hdr
      have ih := ws_loop hd hL hT h14 hQ q (a + 1) m (up N 134 15 ((a : Int) + 1)) (hf.up (by decide)) (by rw [up_s]; rfl) (by omega) (by omega) hdr
      have et2 : M 137 a = B a := by omega
      clear ht
      refine e_aload0 dX9_next_0 ?_
      refine e_getI fl_X9_171 la_134 rfl dX9_next_1 ?_
      refine WW.ec (y := (a : Int)) (h15) ?_
      refine e_aload0 dX9_next_4 ?_
      refine e_getI fl_X9_174 la_134 rfl dX9_next_5 ?_
      refine WW.ec (y := (L : Int)) (e14) ?_
      refine e_icmp_ge (tgt := 52) dX9_next_8 (by decide) (fun h8 => ?_) (fun h8 => ?_)
      · exfalso; omega
      · refine e_aload0 dX9_next_11 ?_
        refine e_getR fl_X9_16 la_134 rfl dX9_next_12 ?_
        refine e_aload0 dX9_next_15 ?_
        refine e_getI fl_X9_171 la_134 rfl dX9_next_16 ?_
        refine WW.ec (y := (a : Int)) (h15) ?_
        refine e_baldK (k := a) la_137 (by omega) (by omega) dX9_next_19 ?_
        refine WW.ec (y := B a) (by rw [et, et2]) ?_
        refine e_bipush dX9_next_20 rfl kb_32 ?_
        refine e_icmp_eq (tgt := 39) dX9_next_22 (by decide) (fun h22 => ?_) (fun h22 => ?_)
        · refine e_aload0 dX9_next_39 ?_
          refine e_dup dX9_next_40 rfl ?_
          refine e_getI fl_X9_171 la_134 rfl dX9_next_41 ?_
          refine WW.ec (y := (a : Int)) (h15) ?_
          refine e_iconst dX9_next_44 rfl kc_1 ?_
          refine e_iadd dX9_next_45 (⟨by omega, by omega⟩) ?_
          refine e_putI fp_X9_171 la_134 rfl dX9_next_46 ?_
          refine e_goto (tgt := 0) dX9_next_49 (by decide) ?_
          exact ih
        · refine e_aload0 dX9_next_25 ?_
          refine e_getR fl_X9_16 la_134 rfl dX9_next_26 ?_
          refine e_aload0 dX9_next_29 ?_
          refine e_getI fl_X9_171 la_134 rfl dX9_next_30 ?_
          refine WW.ec (y := (a : Int)) (h15) ?_
          refine e_baldK (k := a) la_137 (by omega) (by omega) dX9_next_33 ?_
          refine WW.ec (y := B a) (by rw [et, et2]) ?_
          refine e_bipush dX9_next_34 rfl kb_10 ?_
          refine e_icmp_ne (tgt := 52) dX9_next_36 (by decide) (fun h36 => ?_) (fun h36 => ?_)
          · exfalso; omega
          · refine e_aload0 dX9_next_39 ?_
            refine e_dup dX9_next_40 rfl ?_
            refine e_getI fl_X9_171 la_134 rfl dX9_next_41 ?_
            refine WW.ec (y := (a : Int)) (h15) ?_
            refine e_iconst dX9_next_44 rfl kc_1 ?_
            refine e_iadd dX9_next_45 (⟨by omega, by omega⟩) ?_
            refine e_putI fp_X9_171 la_134 rfl dX9_next_46 ?_
            refine e_goto (tgt := 0) dX9_next_49 (by decide) ?_
            exact ih
    · have h := nx_tok (l := l) (w := w) (d := d) (M := N) (Q := Q) hd hL (by rw [hf.1 137 (by decide)]; exact hT) e14 h15 (by omega) hn (fun _ => ws) hdr (fun M1 f c => hQ M1 (hf.tr f) c)
      have nws : ¬ (M 137 a = 32 ∨ M 137 a = 10) := by omega
      clear ht
      refine e_aload0 dX9_next_0 ?_
      refine e_getI fl_X9_171 la_134 rfl dX9_next_1 ?_
      refine WW.ec (y := (a : Int)) (h15) ?_
      refine e_aload0 dX9_next_4 ?_
      refine e_getI fl_X9_174 la_134 rfl dX9_next_5 ?_
      refine WW.ec (y := (L : Int)) (e14) ?_
      refine e_icmp_ge (tgt := 52) dX9_next_8 (by decide) (fun h8 => ?_) (fun h8 => ?_)
      · exact h
      · refine e_aload0 dX9_next_11 ?_
        refine e_getR fl_X9_16 la_134 rfl dX9_next_12 ?_
        refine e_aload0 dX9_next_15 ?_
        refine e_getI fl_X9_171 la_134 rfl dX9_next_16 ?_
        refine WW.ec (y := (a : Int)) (h15) ?_
        refine e_baldK (k := a) la_137 (by omega) (by omega) dX9_next_19 ?_
        refine WW.ec (y := M 137 a) (et) ?_
        refine e_bipush dX9_next_20 rfl kb_32 ?_
        refine e_icmp_eq (tgt := 39) dX9_next_22 (by decide) (fun h22 => ?_) (fun h22 => ?_)
        · exfalso; omega
        · refine e_aload0 dX9_next_25 ?_
          refine e_getR fl_X9_16 la_134 rfl dX9_next_26 ?_
          refine e_aload0 dX9_next_29 ?_
          refine e_getI fl_X9_171 la_134 rfl dX9_next_30 ?_
          refine WW.ec (y := (a : Int)) (h15) ?_
          refine e_baldK (k := a) la_137 (by omega) (by omega) dX9_next_33 ?_
          refine WW.ec (y := M 137 a) (et) ?_
          refine e_bipush dX9_next_34 rfl kb_10 ?_
          refine e_icmp_ne (tgt := 52) dX9_next_36 (by decide) (fun h36 => ?_) (fun h36 => ?_)
          · exact h
          · exfalso; omega
theorem ct_X9_next (hd : 3 ≤ d) (hL : L ≤ 300) (hT : TPE (M 137) B L) (h14 : M 134 14 = L) (hN : NX B L M t) : GV l w yX9_next cX9_next 5 d [vR 134] M (fun M1 => FN M M1 ∧ CT B L M1 t) := by
  obtain ⟨a, n, h15, ha, hn, hdr⟩ := hN
  have h := ws_loop (l := l) (w := w) (d := d) (M := M) (Q := fun r M1 => r = none ∧ FN M M1 ∧ CT B L M1 t) hd hL hT h14 (fun M1 f c => ⟨rfl, f, c⟩) (L - a) a n M (FN.rf M) h15 (by omega) hn hdr
  refine MT.of [some (vR 134), none, none, none, none] ⟨by decide, rfl⟩ rfl (Nat.le_of_ble_eq_true rfl) (fun hA hM => ?_)
  exact h
end MNEXT2
