/-! THE MODEL'S MOTHS -/
theorem chg_moth {G : Mem} {n : Nat} (hG : GM G) (h1 : 1 ≤ G 1 0) : CHG G (-1) (-1) (mothM n (keepM G (nxt G) (-1) (-1))) := by
  have hq := (nxt_ok hG.2.1).1
  have hb := hG.1.1.1
  have ko : ∀ o, (o < 25 ∨ 56 < o) → keepM G (nxt G) (-1) (-1) o = G o := fun o ho => keepM_o (by omega) (by omega)
  have k1 := ko 1 (by decide)
  have hK : MI (keepM G (nxt G) (-1) (-1)) := by
    unfold MI
    rw [k1, ko 3 (by decide), ko 4 (by decide)]
    exact ⟨⟨by omega, by omega⟩, hG.2.2.2.1, fun k hk => (hG.1.2.1 k hk).2⟩
  have hi : ∀ m, ∀ o, (o = 3 ∨ o = 4 ∨ o = 5) → ∀ k : Nat, G 1 0 ≤ k → mothM m (keepM G (nxt G) (-1) (-1)) o k = G o k := by
    intro m
    induction m with
    | zero => intro o ho k hk; show keepM G (nxt G) (-1) (-1) o k = G o k; rw [ko o (by omega)]
    | succ m ih =>
      intro o ho k hk
      have hhs := (hK.mn m).hs
      have e10 : mothM m (keepM G (nxt G) (-1) (-1)) 1 0 = G 1 0 := by rw [mothM_o (by decide) (by decide) (Or.inr (by decide)) m, k1]
      rw [e10] at hhs
      show moth1 (mothM m (keepM G (nxt G) (-1) (-1))) o k = G o k
      unfold moth1 drw
      split
      · rw [up_k (by omega), up_k (by omega), up_o (by omega)]; exact ih o ho k hk
      · rw [up_o (by omega)]; exact ih o ho k hk
  refine ⟨fun o a b e f g => ?_, ⟨fun k a b => ?_, ?_⟩, hi n, fun o ho k hk => ?_, ⟨fun k hk => ?_, fun hi => absurd hi.1.1 (by decide)⟩, fun k hk => ?_, fun o a b => ?_⟩
  · funext k; rw [mothM_o (by omega) (by omega) (Or.inl b) n, ko o g]
  · rw [mothM_o (by decide) (by decide) (Or.inr a) n, k1]
  · rw [mothM_o (by decide) (by decide) (Or.inr (by decide)) n, k1]; exact Int.le_refl _
  · rw [mothM_o (by omega) (by omega) (Or.inl (by omega)) n, ko o (by omega)]
  · rw [mothM_o (by decide) (by decide) (Or.inl (by decide)) n, ko 11 (by decide)]
  · rw [mothM_o (by decide) (by decide) (Or.inl (by decide)) n, ko 12 (by decide)]
  · funext k; rw [mothM_o (by omega) (by omega) (Or.inl (by omega)) n]
section MMOTH
variable {l : Launch} {w : Wd} {d : Nat} {M : Mem} {Q : Option MV → Mem → Prop}
theorem mm_loop {X : Mem} {n : Nat} {A : Nat → Int} (hd : 1 ≤ d) (hn : n ≤ 30) (hK : MI X) (hsz : szI X) (h0 : A 0 = X 1 0) (hQ : ∀ B, RW (mothM n X) B 40 → (∀ k, k < 40 ∨ 520 ≤ k → B k = A k) → Q (some (vI (mothT n X))) (setA M B)) :
    ∀ (q i : Nat) (B : Nat → Int) (v4 : Option MV), i + q = n → RW (mothM i X) B 40 → (∀ k, k < 40 ∨ 520 ≤ k → B k = A k) → WM l w RX9 cX9_moths 5 (some .int) d Q 29 [some (vR 134), some (vI (n : Int)), some (vI (mothT i X)), some (vI (i : Int)), v4] [] (setA M B)
  | 0, i, B, v4, hi, hr, ho => by
    obtain rfl : i = n := by omega
    have hq := hQ B hr ho
    refine e_iload3 dX9_moths_29 ?_
    refine e_iload1 dX9_moths_30 ?_
    refine e_icmp_ge (tgt := 109) dX9_moths_31 (by decide) (fun h31 => ?_) (fun h31 => ?_)
    · refine e_iload2 dX9_moths_109 ?_
      refine e_iret dX9_moths_110 ?_
      exact hq
    · omega
  | q + 1, i, B, v4, hi, hr, ho => by
    have hI := hK.mn i
    have hhs := hI.hs
    have e10 : ∀ k, k ≠ 12 → mothM i X 1 k = X 1 k := fun k hk => mothM_o (by decide) (by decide) (Or.inr hk) i
    have szi : szI (mothM i X) := hsz.fr (e10 0 (by decide)) (e10 5 (by decide)) (by rw [e10 13 (by decide)]; exact hsz.2.2)
    have b515 : B 515 = mothM i X 1 12 := hr.2.2.2.2.2
    have b0 : setA M B 135 0 = mothM i X 1 0 := by rw [setA_a, ho 0 (by decide), h0, e10 0 (by decide)]
    have hb := mothT_b X i
    have hdr := ct_X9_draw (l := l) (w := w) (d := d - 1) (M := setA M B) (m := mothM i X 1 0) hI.1.1 (by rw [setA_a, b515]; exact hI.2.1)
    rw [setA_a, setA_s, b515, ← hhs.1] at hdr
    have hx := hr.x (v := (mothM i X 1 12 * 179 + 83) % 30011) (n := 515) szi (by omega)
    have aw := hr.1 (mHs (mothM i X)) hhs.2.1
    have hw := hI.2.2 (mHs (mothM i X)) hhs.2.2
    have f48 : setA M (setN B 515 ((mothM i X 1 12 * 179 + 83) % 30011)) 135 (48 + mHs (mothM i X)) = mothM i X 4 (mHs (mothM i X)) := by rw [setA_a, setN_o (by omega)]; exact aw.2.1
    have f40 : setA M (setN B 515 ((mothM i X 1 12 * 179 + 83) % 30011)) 135 (40 + mHs (mothM i X)) = mothM i X 3 (mHs (mothM i X)) := by rw [setA_a, setN_o (by omega)]; exact aw.1
    by_cases hit : mHit (mothM i X)
    · have h4 := hit.1
      have h3 := hit.2
      have em : mothM (i + 1) X = up (up (up (mothM i X) 1 12 ((mothM i X 1 12 * 179 + 83) % 30011)) 4 (mHs (mothM i X)) (mothM i X 4 (mHs (mothM i X)) - 1)) 3 (mHs (mothM i X)) (mothM i X 3 (mHs (mothM i X)) - 1) := by
        show moth1 (mothM i X) = _
        unfold moth1 drw
        rw [if_pos hit]
      have et : mothT (i + 1) X = mothT i X + 1 := by show mothT i X + (if mHit (mothM i X) then 1 else 0) = _; rw [if_pos hit]
      have szx : szI (up (mothM i X) 1 12 ((mothM i X 1 12 * 179 + 83) % 30011)) := szi.fr (up_k (by decide)) (up_k (by decide)) (by rw [up_k (by decide)]; exact szi.2.2)
      have r2 := (hx.h (o := 4) (k := mHs (mothM i X)) (v := mothM i X 4 (mHs (mothM i X)) - 1) (n := 48 + mHs (mothM i X)) szx (Or.inr (Or.inl rfl)) (by rw [up_k (by decide)]; exact hhs.2.1) (by omega)).h (o := 3) (k := mHs (mothM i X)) (v := mothM i X 3 (mHs (mothM i X)) - 1) (n := 40 + mHs (mothM i X)) (szx.u (by decide)) (Or.inl rfl) (by rw [up_o (by decide), up_k (by decide)]; exact hhs.2.1) (by omega)
      rw [← em] at r2
      have ih := mm_loop hd hn hK hsz h0 hQ q (i + 1) _ (some (vI (mHs (mothM i X) : Int))) (by omega) r2 (fun k hk => by rw [setN_o (by omega), setN_o (by omega), setN_o (by omega), ho k hk])
      rw [et, ← setA_u, ← setA_u] at ih
      refine e_iload3 dX9_moths_29 ?_
      refine e_iload1 dX9_moths_30 ?_
      refine e_icmp_ge (tgt := 109) dX9_moths_31 (by decide) (fun h31 => ?_) (fun h31 => ?_)
      · omega
      · refine e_aload0 dX9_moths_34 ?_
        refine e_aload0 dX9_moths_35 ?_
        refine e_getR fl_X9_7 la_134 rfl dX9_moths_36 ?_
        refine e_iconst dX9_moths_39 rfl kc_0 ?_
        refine e_ialdK (k := 0) la_135 (by decide) (rfl) dX9_moths_40 ?_
        refine WW.ec (y := mothM i X 1 0) (b0) ?_
        refine e_cVI (hdr) cy_X9_draw cv_X9_draw ml_X9_343 la_134 rfl rfl rfl (rok (by omega) (by decide)) (Nat.le_of_ble_eq_true rfl) dX9_moths_41 ?_
        refine e_istore4 dX9_moths_44 rfl ?_
        refine e_aload0 dX9_moths_46 ?_
        refine e_getR fl_X9_7 la_134 rfl dX9_moths_47 ?_
        refine e_bipush dX9_moths_50 rfl kb_48 ?_
        refine e_iload4 dX9_moths_52 ?_
        refine e_iadd dX9_moths_54 (⟨by omega, by omega⟩) ?_
        refine e_ialdK (k := 48 + mHs (mothM i X)) la_135 (by omega) (by omega) dX9_moths_55 ?_
        refine WW.ec (y := mothM i X 4 (mHs (mothM i X))) (f48) ?_
        refine e_if_le (tgt := 103) dX9_moths_56 (by decide) (fun h => absurd h (by omega)) (fun h56 => ?_)
        refine e_aload0 dX9_moths_59 ?_
        refine e_getR fl_X9_7 la_134 rfl dX9_moths_60 ?_
        refine e_bipush dX9_moths_63 rfl kb_40 ?_
        refine e_iload4 dX9_moths_65 ?_
        refine e_iadd dX9_moths_67 (⟨by omega, by omega⟩) ?_
        refine e_ialdK (k := 40 + mHs (mothM i X)) la_135 (by omega) (by omega) dX9_moths_68 ?_
        refine WW.ec (y := mothM i X 3 (mHs (mothM i X))) (f40) ?_
        refine e_if_le (tgt := 103) dX9_moths_69 (by decide) (fun h => absurd h (by omega)) (fun h69 => ?_)
        refine e_aload0 dX9_moths_72 ?_
        refine e_getR fl_X9_7 la_134 rfl dX9_moths_73 ?_
        refine e_bipush dX9_moths_76 rfl kb_48 ?_
        refine e_iload4 dX9_moths_78 ?_
        refine e_iadd dX9_moths_80 (⟨by omega, by omega⟩) ?_
        refine e_dup2 dX9_moths_81 rfl rfl ?_
        refine e_ialdK (k := 48 + mHs (mothM i X)) la_135 (by omega) (by omega) dX9_moths_82 ?_
        refine WW.ec (y := mothM i X 4 (mHs (mothM i X))) (f48) ?_
        refine e_iconst dX9_moths_83 rfl kc_1 ?_
        refine e_isub dX9_moths_84 (⟨by omega, by omega⟩) ?_
        refine e_iastK (k := 48 + mHs (mothM i X)) la_135 (by omega) (by omega) dX9_moths_85 ?_
        refine e_aload0 dX9_moths_86 ?_
        refine e_getR fl_X9_7 la_134 rfl dX9_moths_87 ?_
        refine e_bipush dX9_moths_90 rfl kb_40 ?_
        refine e_iload4 dX9_moths_92 ?_
        refine e_iadd dX9_moths_94 (⟨by omega, by omega⟩) ?_
        refine e_dup2 dX9_moths_95 rfl rfl ?_
        refine e_ialdK (k := 40 + mHs (mothM i X)) la_135 (by omega) (by omega) dX9_moths_96 ?_
        refine WW.ec (y := mothM i X 3 (mHs (mothM i X))) (by rw [up_k (by omega), f40]) ?_
        refine e_iconst dX9_moths_97 rfl kc_1 ?_
        refine e_isub dX9_moths_98 (⟨by omega, by omega⟩) ?_
        refine e_iastK (k := 40 + mHs (mothM i X)) la_135 (by omega) (by omega) dX9_moths_99 ?_
        refine e_iinc2 dX9_moths_100 rfl (⟨by omega, by omega⟩) rfl ?_
        refine e_iinc3 dX9_moths_103 rfl (⟨by omega, by omega⟩) rfl ?_
        refine e_goto (tgt := 29) dX9_moths_106 (by decide) ?_
        exact ih
    · have em : mothM (i + 1) X = up (mothM i X) 1 12 ((mothM i X 1 12 * 179 + 83) % 30011) := by
        show moth1 (mothM i X) = _
        unfold moth1 drw
        rw [if_neg hit]
      have et : mothT (i + 1) X = mothT i X := by show mothT i X + (if mHit (mothM i X) then 1 else 0) = _; rw [if_neg hit]; omega
      rw [← em] at hx
      have ih := mm_loop hd hn hK hsz h0 hQ q (i + 1) _ (some (vI (mHs (mothM i X) : Int))) (by omega) hx (fun k hk => by rw [setN_o (by omega), ho k hk])
      rw [et] at ih
      refine e_iload3 dX9_moths_29 ?_
      refine e_iload1 dX9_moths_30 ?_
      refine e_icmp_ge (tgt := 109) dX9_moths_31 (by decide) (fun h31 => ?_) (fun h31 => ?_)
      · omega
      · refine e_aload0 dX9_moths_34 ?_
        refine e_aload0 dX9_moths_35 ?_
        refine e_getR fl_X9_7 la_134 rfl dX9_moths_36 ?_
        refine e_iconst dX9_moths_39 rfl kc_0 ?_
        refine e_ialdK (k := 0) la_135 (by decide) (rfl) dX9_moths_40 ?_
        refine WW.ec (y := mothM i X 1 0) (b0) ?_
        refine e_cVI (hdr) cy_X9_draw cv_X9_draw ml_X9_343 la_134 rfl rfl rfl (rok (by omega) (by decide)) (Nat.le_of_ble_eq_true rfl) dX9_moths_41 ?_
        refine e_istore4 dX9_moths_44 rfl ?_
        refine e_aload0 dX9_moths_46 ?_
        refine e_getR fl_X9_7 la_134 rfl dX9_moths_47 ?_
        refine e_bipush dX9_moths_50 rfl kb_48 ?_
        refine e_iload4 dX9_moths_52 ?_
        refine e_iadd dX9_moths_54 (⟨by omega, by omega⟩) ?_
        refine e_ialdK (k := 48 + mHs (mothM i X)) la_135 (by omega) (by omega) dX9_moths_55 ?_
        refine WW.ec (y := mothM i X 4 (mHs (mothM i X))) (f48) ?_
        refine e_if_le (tgt := 103) dX9_moths_56 (by decide) (fun h56 => ?_) (fun h56 => ?_)
        · refine e_iinc3 dX9_moths_103 rfl (⟨by omega, by omega⟩) rfl ?_
          refine e_goto (tgt := 29) dX9_moths_106 (by decide) ?_
          exact ih
        · refine e_aload0 dX9_moths_59 ?_
          refine e_getR fl_X9_7 la_134 rfl dX9_moths_60 ?_
          refine e_bipush dX9_moths_63 rfl kb_40 ?_
          refine e_iload4 dX9_moths_65 ?_
          refine e_iadd dX9_moths_67 (⟨by omega, by omega⟩) ?_
          refine e_ialdK (k := 40 + mHs (mothM i X)) la_135 (by omega) (by omega) dX9_moths_68 ?_
          refine WW.ec (y := mothM i X 3 (mHs (mothM i X))) (f40) ?_
          refine e_if_le (tgt := 103) dX9_moths_69 (by decide) (fun h69 => ?_) (fun h69 => ?_)
          · refine e_iinc3 dX9_moths_103 rfl (⟨by omega, by omega⟩) rfl ?_
            refine e_goto (tgt := 29) dX9_moths_106 (by decide) ?_
            exact ih
          · exact absurd (And.intro (by omega) (by omega)) hit
theorem ct_X9_moths {G : Mem} (hd : 2 ≤ d) (hg : GS G M) {n : Int} : GI l w yX9_moths cX9_moths 5 .int d [vR 134, vI n] M (fun x M1 => x = mothX G n ∧ FD M M1 ∧ GS (mothZ G n) M1) := by
  have nn := hg.nn
  have hA := hg.1
  have hR := hg.2.2.1
  have hG := hA.gm
  have e0 := hR.1.1.1
  have hsz := hG.sz
  have hq := (nxt_ok hG.2.1).1
  have bad : ¬ okMoths G n → ∃ x, some (vI (-1)) = some (vI x) ∧ x = mothX G n ∧ FD M M ∧ GS (mothZ G n) M := by
    intro nk
    refine ⟨-1, rfl, ?_, FD.rf M, ?_⟩
    · unfold mothX; rw [if_neg nk]
    · unfold mothZ; rw [if_neg nk]; exact hg
  refine MT.of [some (vR 134), some (vI n), none, none, none] ⟨by decide, rfl⟩ rfl (Nat.le_of_ble_eq_true rfl) (fun hA hM => ?_)
  by_cases ok : okMoths G n
  · obtain ⟨m, rfl⟩ : ∃ m : Nat, n = m := ⟨n.toNat, by have := ok.1.1; omega⟩
    have ok1 := ok.1
    have ok2 := ok.2
    have k1 : keepM G (nxt G) (-1) (-1) 1 = G 1 := keepM_o (by decide) (by omega)
    have hK : MI (keepM G (nxt G) (-1) (-1)) := by
      unfold MI
      rw [k1, show keepM G (nxt G) (-1) (-1) 3 = G 3 from keepM_o (by decide) (by omega), show keepM G (nxt G) (-1) (-1) 4 = G 4 from keepM_o (by decide) (by omega)]
      exact ⟨⟨by omega, hG.1.1.1.2⟩, hG.2.2.2.1, fun k hk => (hG.1.2.1 k hk).2⟩
    have hl := mm_loop (l := l) (w := w) (d := d) (M := M) (Q := fun r M1 => ∃ x, r = some (vI x) ∧ x = mothX G m ∧ FD M M1 ∧ GS (mothZ G m) M1) (X := keepM G (nxt G) (-1) (-1)) (n := m) (A := keepA (M 135)) (by omega) (by omega) hK (hsz.kp hq) (by rw [keepA_lo (by decide) (by decide), k1]; exact e0) (fun B hr ho => by
      refine ⟨_, rfl, ?_, (FD.rf M).a, ?_⟩
      · unfold mothX; rw [if_pos ok, toN]
      · unfold mothZ
        rw [if_pos ok, toN]
        exact hg.step (chg_moth hG ok2) (by have := hG.1.1.2.1; omega) (hG.moth ok2) (by rw [setA_a]; exact hr) (fun k hk => by rw [setA_a]; exact ho k (Or.inl hk)) (fun k hk => by rw [setA_a]; exact ho k (Or.inr hk)) (FD.rf M).a) m 0 (keepA (M 135)) none (by omega) ((hR.2.2.1.ka hsz).kp hq) (fun k _ => rfl)
    refine e_iload1 dX9_moths_0 ?_
    refine e_iconst dX9_moths_1 rfl kc_1 ?_
    refine e_bipush dX9_moths_2 rfl kb_30 ?_
    refine e_cSZ (ct_X9_in (d := d - 1)) cy_X9_in cs_X9_in ml_X9_120 rfl rfl (rok (by omega) (by decide)) (Nat.le_of_ble_eq_true rfl) dX9_moths_4 (fun g4 => ?_) (fun g4 => ?_)
    · refine e_if_eq (tgt := 19) dX9_moths_7 (by decide) (fun h => absurd h (by decide)) (fun _ => ?_)
      refine e_aload0 dX9_moths_10 ?_
      refine e_getR fl_X9_7 la_134 rfl dX9_moths_11 ?_
      refine e_iconst dX9_moths_14 rfl kc_0 ?_
      refine e_ialdK (k := 0) la_135 (by decide) (rfl) dX9_moths_15 ?_
      refine e_if_ne (tgt := 21) dX9_moths_16 (by decide) (fun h16 => ?_) (fun h16 => ?_)
      · refine e_aload0 dX9_moths_21 ?_
        refine e_cVV (ct_X9_keepsStep (d := d - 1) nn.2.2.1) cy_X9_keepsStep cv_X9_keepsStep ml_X9_333 la_134 rfl rfl rfl (rok (by omega) (by decide)) (Nat.le_of_ble_eq_true rfl) dX9_moths_22 ?_
        refine e_iconst dX9_moths_25 rfl kc_0 ?_
        refine e_istore2 dX9_moths_26 rfl ?_
        refine e_iconst dX9_moths_27 rfl kc_0 ?_
        refine e_istore3 dX9_moths_28 rfl ?_
        exact hl
      · omega
    · refine e_if_eq (tgt := 19) dX9_moths_7 (by decide) (fun _ => ?_) (fun h => absurd h (by decide))
      omega
  · refine e_iload1 dX9_moths_0 ?_
    refine e_iconst dX9_moths_1 rfl kc_1 ?_
    refine e_bipush dX9_moths_2 rfl kb_30 ?_
    refine e_cSZ (ct_X9_in (d := d - 1)) cy_X9_in cs_X9_in ml_X9_120 rfl rfl (rok (by omega) (by decide)) (Nat.le_of_ble_eq_true rfl) dX9_moths_4 (fun g4 => ?_) (fun g4 => ?_)
    · refine e_if_eq (tgt := 19) dX9_moths_7 (by decide) (fun h => absurd h (by decide)) (fun _ => ?_)
      refine e_aload0 dX9_moths_10 ?_
      refine e_getR fl_X9_7 la_134 rfl dX9_moths_11 ?_
      refine e_iconst dX9_moths_14 rfl kc_0 ?_
      refine e_ialdK (k := 0) la_135 (by decide) (rfl) dX9_moths_15 ?_
      refine e_if_ne (tgt := 21) dX9_moths_16 (by decide) (fun h16 => ?_) (fun h16 => ?_)
      · exact absurd ⟨g4, by omega⟩ ok
      · refine e_iconst dX9_moths_19 rfl kc_m1 ?_
        refine e_iret dX9_moths_20 ?_
        exact bad ok
    · refine e_if_eq (tgt := 19) dX9_moths_7 (by decide) (fun _ => ?_) (fun h => absurd h (by decide))
      refine e_iconst dX9_moths_19 rfl kc_m1 ?_
      refine e_iret dX9_moths_20 ?_
      exact bad ok
end MMOTH
