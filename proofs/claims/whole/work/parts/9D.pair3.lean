/-! EACH CALL of both: the image, the text -/
section PAIR3
variable {l : Launch} {w : Wd} {d : Nat} {M : Mem}
theorem cpO_o {M : Mem} {t f n o : Nat} (h : o ≠ t) : cpO M t f n o = M o := by funext k; unfold cpO; rw [if_neg (fun z => h z.1)]
theorem cpO_k {M : Mem} {t f n k : Nat} (h : k < n) : cpO M t f n t k = M f k := by unfold cpO; rw [if_pos ⟨rfl, h⟩]
/-- another island of the same bounds -/
theorem GS.ab {G G1 M M1 : Mem} (h : GS G M) (e : AB G G1) (h15 : G1 1 15 = G 1 15) (h16 : G1 1 16 = G 1 16) (hs : ∀ o, 90 ≤ o → o ≤ 113 → G1 o = G o) (hA : ∀ k, k < 14800 → M1 135 k = M 135 k) (h3 : ∀ o, 138 ≤ o → o ≤ 145 → M1 o = M o) : GS G1 M1 := by
  obtain ⟨a1, a2, a3, a4⟩ := h
  have hX : TXS G1 M1 := a4.fr h15 h16 hs h3
  refine ⟨a1.ab e (by rw [h15]; exact a1.gm.1.2.2.2.1) (fun ht => ?_), fun c hc => ?_, a3.ab a1 e h15 h16 hA, hX⟩
  · obtain ⟨acc, ⟨y1, y2⟩, y3, _⟩ := hX.2.2 (G1 1 16).toNat (by have := ht.1; have := ht.2; omega)
    exact TxOk_of y1 y2 y3
  · rw [e.1.2.1] at hc
    have i5 := a1.gm.1.1.2.1
    rw [e.2 6 c (by omega), e.2 7 c (by omega)]
    exact a2 c hc
theorem pr_image (hd : 40 ≤ d) (hR : REL M) : PAIR l w d yX8_image cX8_image 1 yX9_image cX9_image 1 .int vI [] M := by
  obtain ⟨r1, r2, r3, r4, r5⟩ := hR
  refine ⟨_, ct_X8_image (by omega), fun r M1 hq => ?_⟩
  obtain ⟨h0, rfl⟩ := hq
  have h0 : M1 = imgM M := h0
  have hx : cpS (cpI M 13 1) 57 25 1 13 = M 1 13 := by
    show imgM M 1 13 = _
    rw [img_o (by omega) (by omega)]
  rw [hx, h0]
  refine ⟨_, rfl, _, ct_X9_image (by omega), fun r2' M2 hq2 => ?_⟩
  obtain ⟨h2, rfl⟩ := hq2
  have e1 : ∀ o, o ≠ 136 → M2 o = imgM M o := fun o ho => by rw [h2]; exact cpO_o ho
  have e2 : ∀ o, o ≠ 136 → (o < 13 ∨ 24 < o) → (o < 57 ∨ 88 < o) → M2 o = M o := fun o a b c => (e1 o a).trans (img_o b c)
  obtain ⟨ab, ab15, ab16⟩ := img_ab M
  have hb := bk_eq (G := imgM M) (G1 := M2) (fun o ho => e1 o (by omega))
  have g2 : GS (bk (imgM M)) (setA M2 (M2 136)) := r1.ab ab ab15 ab16 (fun o p q => by rw [bk_o p, img_o (by omega) (by omega)]) (fun k hk => by
    show M2 136 k = _
    rw [h2, cpO_k hk, img_o (by omega) (by omega)]) (fun o p q => by rw [setA_o (by omega)]; exact e2 o (by omega) (by omega) (by omega))
  refine ⟨?_, r1.cg (fun o ho => e2 o (by omega) (by omega) (by omega)) (e2 135 (by omega) (by omega) (by omega)) (fun o p q => e2 o (by omega) (by omega) (by omega)), ?_, ?_, r4.cg (e2 114 (by omega) (by omega) (by omega)) (e2 115 (by omega) (by omega) (by omega)) (by rw [e2 134 (by omega) (by omega) (by omega)]) (e2 137 (by omega) (by omega) (by omega)), ?_⟩
  · rw [img_o (by omega) (by omega)]
    exact congrArg (fun z => some (vI z)) (r1.2.2.1.2.2.1.2.2.2.1)
  · refine g2.cg (fun o ho => ?_) rfl (fun _ _ _ => rfl)
    rcases (show o < 90 ∨ 90 ≤ o by omega) with q | q
    · exact hb.1 o q
    · rw [bk_o q, bk_o q]; exact e1 o (by omega)
  · rw [e1 13 (by omega), (img_0 M).2.2.2.2.1, e2 1 (by omega) (by omega) (by omega)]
    exact Int.le_refl _
  · unfold FLT at r5 ⊢
    rw [e2 114 (by omega) (by omega) (by omega), e2 134 (by omega) (by omega) (by omega)]; exact r5
theorem pr_back (hd : 40 ≤ d) (hR : REL M) : PAIR l w d yX8_back cX8_back 1 yX9_back cX9_back 1 .int vI [] M := by
  obtain ⟨r1, r2, r3, r4, r5⟩ := hR
  refine ⟨_, ct_X8_back (by omega), fun r M1 hq => ?_⟩
  obtain ⟨h0, rfl⟩ := hq
  have h0 : M1 = bckM M := h0
  have hx : cpS (cpI M 1 13) 25 57 1 13 = M 13 13 := (bck_0 M).2.2.2.1
  rw [hx, h0]
  refine ⟨_, rfl, _, ct_X9_back (by omega), fun r2' M2 hq2 => ?_⟩
  obtain ⟨h2, rfl⟩ := hq2
  have e1 : ∀ o, o ≠ 135 → M2 o = bckM M o := fun o ho => by rw [h2]; exact cpO_o ho
  have e2 : ∀ o, o ≠ 135 → (o < 1 ∨ 12 < o) → (o < 25 ∨ 56 < o) → M2 o = M o := fun o a b c => (e1 o a).trans (bck_o b c)
  obtain ⟨ab, ab15, ab16⟩ := bck_ab M
  have g2 : GS (bckM M) M2 := r2.ab ab ab15 ab16 (fun o p q => by rw [bk_o p, bck_o (by omega) (by omega)]) (fun k hk => by
    show _ = M 136 k
    rw [h2, cpO_k hk, bck_o (by omega) (by omega)]) (fun o p q => by rw [setA_o (by omega)]; exact e2 o (by omega) (by omega) (by omega))
  refine ⟨?_, g2.cg (fun o ho => e1 o (by omega)) rfl (fun _ _ _ => rfl), REL.im r2 (fun o ho => e2 o (by omega) (by omega) (by omega)) (e2 136 (by omega) (by omega) (by omega)) (fun o p q => e2 o (by omega) (by omega) (by omega)), ?_, r4.cg (e2 114 (by omega) (by omega) (by omega)) (e2 115 (by omega) (by omega) (by omega)) (by rw [e2 134 (by omega) (by omega) (by omega)]) (e2 137 (by omega) (by omega) (by omega)), ?_⟩
  · rw [bck_o (by omega) (by omega)]
    exact congrArg (fun z => some (vI z)) (r2.2.2.1.2.2.1.2.2.2.1)
  · rw [e2 13 (by omega) (by omega) (by omega), e1 1 (by omega), (bck_0 M).2.2.2.2.1]
    exact Int.le_refl _
  · unfold FLT at r5 ⊢
    rw [e2 114 (by omega) (by omega) (by omega), e2 134 (by omega) (by omega) (by omega)]; exact r5
theorem SCR.cg {t : Nat} {M M1 : Mem} {acc : List Cz} (h : SCR t M acc) (e : ∀ o, 90 + 6 * t ≤ o → o ≤ 95 + 6 * t → M1 o = M o) : SCR t M1 acc := by
  unfold SCR lwR at h ⊢
  rw [e (90 + 6 * t) (by omega) (by omega), e (91 + 6 * t) (by omega) (by omega), e (92 + 6 * t) (by omega) (by omega), e (93 + 6 * t) (by omega) (by omega), e (94 + 6 * t) (by omega) (by omega), e (95 + 6 * t) (by omega) (by omega)]
  exact h
theorem MSC.cg {t : Nat} {M M1 : Mem} {acc : List Cz} (h : MSC t M acc) (e : ∀ o, 138 ≤ o → o ≤ 145 → M1 o = M o) : MSC t M1 acc := by
  unfold MSC at h ⊢
  rw [e 138 (by decide) (by decide), e 139 (by decide) (by decide), e 140 (by decide) (by decide), e 141 (by decide) (by decide), e 142 (by decide) (by decide), e 143 (by decide) (by decide), e 144 (by decide) (by decide), e 145 (by decide) (by decide)]
  exact h
/-- the texts of an island that has no more than j of them, when text j is written anew -/
theorem GS.tx {G G1 M M1 : Mem} {j : Nat} (h : GS G M) (hj : G 1 15 ≤ j) (h1 : ∀ o, (1 ≤ o ∧ o ≤ 12) ∨ (25 ≤ o ∧ o ≤ 56) ∨ (90 ≤ o ∧ o < 90 + 6 * j) → G1 o = G o) (h2 : M1 135 = M 135) (h3 : ∀ t : Nat, (t : Int) < j → ∀ acc, acc.length ≤ 24 → MSC t M acc → MSC t M1 acc) : GS G1 M1 := by
  obtain ⟨hA, hT, hR, x1, x2, x3⟩ := h
  have e1 := h1 1 (by omega)
  have hag : AG G G1 := ⟨fun k _ _ => by rw [e1], fun o ho => h1 o (by omega)⟩
  have hX1 : TXS G1 M1 := by
    refine ⟨by rw [e1]; exact x1, by unfold isT at x2 ⊢; rw [e1]; exact x2, fun t ht => ?_⟩
    rw [e1] at ht
    obtain ⟨acc, ⟨y1, y2⟩, y3, y4⟩ := x3 t ht
    exact ⟨acc, ⟨y1.cg (fun o p q => h1 o (by omega)), by rw [h1 _ (by omega)]; exact y2⟩, y3, h3 t (by omega) acc y3.1 y4⟩
  refine ⟨hA.ag hag (by rw [e1]; exact hA.gm.1.2.2.2.1) (fun ht => ?_), fun c hc => ?_, ?_, hX1⟩
  · obtain ⟨acc, ⟨a, b⟩, c, _⟩ := hX1.2.2 (G1 1 16).toNat (by have := ht.1; have := ht.2; omega)
    exact TxOk_of a b c
  · rw [h1 6 (by omega), h1 7 (by omega)]; rw [e1] at hc; exact hT c hc
  · rw [h2]
    exact hR.ag hA hag (by rw [e1]; exact hR.1.1.2.2.1) (by rw [e1]; exact hR.1.1.2.2.2) (fun _ _ _ => rfl)
theorem pr_text (hd : 40 ≤ d) (hR : REL M) : PAIR l w d yX8_text cX8_text 3 yX9_text cX9_text 3 .int vI [] M := by
  obtain ⟨r1, r2, r3, r4, r5⟩ := id hR
  obtain ⟨n2, _, _, e2, _⟩ := gs_nn r1
  obtain ⟨L, hL⟩ : ∃ L : Nat, M 114 1 = L := ⟨(M 114 1).toNat, by have := r4.1; omega⟩
  have hL3 : L ≤ 300 := by have := r4.1; omega
  have hTP : TPE (M 137) (M 115) L := by have := r4.2.2; rw [hL, Int.toNat_natCast] at this; exact this
  refine ⟨_, ct_X8_text (by omega) r1.2.2.2.1 hL hL3, fun r M1 hq => ?_⟩
  obtain ⟨x, rfl, ⟨p4, rfl, rfl⟩ | ⟨p4, y, N, hO, hy⟩⟩ := hq
  · refine ⟨_, rfl, _, ct_X9_text (by omega) hL3 (by rw [r4.2.1, hL]) hTP n2, fun r2' M2 hq2 => ?_⟩
    obtain ⟨x2, rfl, ⟨q4, rfl, rfl⟩ | ⟨q4, _⟩⟩ := hq2
    · exact ⟨rfl, hR⟩
    · omega
  · obtain ⟨⟨o1, o2, o3⟩, hO⟩ := hO
    obtain ⟨j, hj⟩ : ∃ j : Nat, M 1 15 = j := ⟨(M 1 15).toNat, by have := r1.2.2.2.1; omega⟩
    rw [hj, Int.toNat_natCast] at o1 hO
    have hj4 : j < 4 := by omega
    -- what the class's memory is now
    have c1 : ∀ o, o ≠ 1 → o ≠ 114 → o ≠ 116 → o ≠ 117 → o ≠ 118 → (o < 90 + 6 * j ∨ 95 + 6 * j < o) → M1 o = M o := by
      intro o h1 h14 h16 h17 h18 h90
      rcases hy with ⟨_, _, rfl⟩ | ⟨_, _, rfl⟩
      · rw [up_row h1]; exact o1 o h14 h16 h17 h18 h90
      · exact o1 o h14 h16 h17 h18 h90
    have c2 : M1 114 = N 114 := by
      rcases hy with ⟨_, _, rfl⟩ | ⟨_, _, rfl⟩
      · exact up_row (by decide)
      · rfl
    have c3 : ∀ k, k ≠ 15 → M1 1 k = M 1 k := by
      intro k hk
      rcases hy with ⟨_, _, rfl⟩ | ⟨_, _, rfl⟩
      · rw [up_k hk, o1 1 (by decide) (by decide) (by decide) (by decide) (by omega)]
      · rw [o1 1 (by decide) (by decide) (by decide) (by decide) (by omega)]
    have m5 : M1 135 = M 135 := c1 135 (by decide) (by decide) (by decide) (by decide) (by decide) (by omega)
    refine ⟨_, rfl, _, ct_X9_text (B := M 115) (L := L) (by omega) hL3 (by rw [c1 134 (by decide) (by decide) (by decide) (by decide) (by decide) (by omega), r4.2.1, hL]) (by rw [c1 137 (by decide) (by decide) (by decide) (by decide) (by decide) (by omega)]; exact hTP) (by rw [m5]; exact n2), fun r2' M2 hq2 => ?_⟩
    obtain ⟨x2, rfl, ⟨q4, _⟩ | ⟨q4, f1, f3, hM⟩⟩ := hq2
    · rw [m5] at q4; omega
    · rw [m5, e2, hj] at hM
      rw [Int.toNat_natCast] at hM
      have d1 : ∀ o, o ≠ 1 → o ≠ 114 → o ≠ 116 → o ≠ 117 → o ≠ 118 → o ≠ 134 → o ≠ 135 → (o < 138 ∨ 155 < o) → (o < 90 + 6 * j ∨ 95 + 6 * j < o) → M2 o = M o := fun o a b c e f g h i k => (f1 o g h i).trans (c1 o a b c e f k)
      have d14 : M2 114 = N 114 := (f1 114 (by decide) (by decide) (by decide)).trans c2
      have d16 : M2 1 = M1 1 := f1 1 (by decide) (by decide) (by decide)
      have dsc : ∀ o, 90 ≤ o → o ≤ 113 → M2 o = M1 o := fun o a b => f1 o (by omega) (by omega) (by omega)
      have hms : ∀ o, 138 ≤ o → o ≤ 145 → M1 o = M o := fun o a b => c1 o (by omega) (by omega) (by omega) (by omega) (by omega) (by omega)
      -- texts before j
      have hms2 : ∀ t : Nat, (t : Int) < j → ∀ acc, acc.length ≤ 24 → MSC t M acc → MSC t M2 acc := by
        intro t ht acc ha hm
        rcases hM with ⟨_, _, _, _, _, hk⟩ | ⟨_, _, _, _, hk⟩
        · exact hk t ht acc ha (hm.cg hms)
        · exact hm.cg (fun o a b => (hk o a b).trans (hms o a b))
      have himg : GS (bk M2) (setA M2 (M2 136)) := by
        have hb := bk_eq (G := M) (G1 := M2) (fun o ho => d1 o (by omega) (by omega) (by omega) (by omega) (by omega) (by omega) (by omega) (by omega) (by omega))
        refine r2.tx (j := j) (by show M 13 15 ≤ _; omega) (fun o ho => ?_) ?_ (fun t ht acc ha hm => ?_)
        · rcases (show o < 90 ∨ 90 ≤ o by omega) with q | q
          · exact hb.1 o q
          · rw [bk_o q, bk_o q]; exact d1 o (by omega) (by omega) (by omega) (by omega) (by omega) (by omega) (by omega) (by omega) (by omega)
        · show M2 136 = M 136
          exact d1 136 (by omega) (by omega) (by omega) (by omega) (by omega) (by omega) (by omega) (by omega) (by omega)
        · exact (hms2 t ht acc ha (hm.cg (fun o a b => by rw [setA_o (by omega)]))).cg (fun o a b => by rw [setA_o (by omega)])
      have htap : TAP M2 M2 := by
        unfold TAP
        rw [d14, o2, f3]
        exact ⟨⟨by decide, by decide⟩, rfl, fun i hi => absurd hi (by simp)⟩
      rcases hO with ⟨t0, hy1, ⟨s1, s2⟩, s3, s4⟩ | ⟨t0, hy0, s3, s4⟩
      · -- read
        have hy' : x = M 1 15 ∧ M1 = up N 1 15 (M 1 15 + 1) := by
          rcases hy with ⟨_, a, b⟩ | ⟨z, _, _⟩
          · exact ⟨a, b⟩
          · omega
        obtain ⟨hx, hM1⟩ := hy'
        rcases hM with ⟨_, hx2, k1, ⟨k2, k3⟩, k4, _⟩ | ⟨z, _⟩
        case inr => exact absurd t0 z
        have e15 : M2 1 15 = (j : Int) + 1 := by rw [d16, hM1, up_s, hj]
        have e1k : ∀ k, k ≠ 15 → M2 1 k = M 1 k := fun k hk => by rw [d16]; exact c3 k hk
        have hN : ∀ o, 90 ≤ o → o ≤ 113 → M2 o = N o := fun o a b => by rw [dsc o a b, hM1, up_row (by omega)]
        have hX : TXS M2 M2 := by
          obtain ⟨x1, x2, x3⟩ := r1.2.2.2
          refine ⟨by rw [e15]; omega, ?_, fun t ht => ?_⟩
          · unfold isT at x2 ⊢
            rw [e15, e1k 16 (by decide)]
            rw [hj] at x2
            omega
          · rw [e15] at ht
            rcases (show t < j ∨ t = j by omega) with q | q
            · obtain ⟨acc, ⟨y1, y2⟩, y3, y4⟩ := x3 t (by omega)
              exact ⟨acc, ⟨y1.cg (fun o a b => d1 o (by omega) (by omega) (by omega) (by omega) (by omega) (by omega) (by omega) (by omega) (by omega)), by rw [d1 _ (by omega) (by omega) (by omega) (by omega) (by omega) (by omega) (by omega) (by omega) (by omega)]; exact y2⟩, y3, hms2 t (by omega) acc y3.1 y4⟩
            · subst q
              refine ⟨_, ⟨s1.cg (fun o a b => hN o (by omega) (by omega)), by rw [hN _ (by omega) (by omega)]; exact s2⟩, ?_, k4⟩
              exact Tx_ok (N := tkN (M 115) L) (fun t h => tkK_z h) (fun t h => tkV_1 t h) 302 0 [] ⟨by decide, fun c hc => by cases hc⟩
        have hag : AG M M2 := ⟨fun k h1 h2 => e1k k h1, fun o ho => d1 o (by omega) (by omega) (by omega) (by omega) (by omega) (by omega) (by omega) (by omega) (by omega)⟩
        refine ⟨by rw [hx2, hx, hj], ⟨r1.1.ag hag (by rw [e15]; omega) (fun ht => ?_), fun c hc => ?_, ?_, hX⟩, himg, ?_, htap, ?_⟩
        · obtain ⟨acc, ⟨a, b⟩, c, _⟩ := hX.2.2 (M2 1 16).toNat (by have := ht.1; have := ht.2; omega)
          exact TxOk_of a b c
        · rw [e1k 5 (by decide)] at hc
          rw [hag.2 6 (by omega), hag.2 7 (by omega)]
          exact r1.2.1 c hc
        · rw [k1]
          exact r1.2.2.1.ag r1.1 hag (by rw [setN_s, e15]) (by rw [setN_o (by decide), e1k 16 (by decide)]; exact r1.2.2.1.1.1.2.2.2) (fun k h2 h3 => by rw [setN_o h2])
        · rw [e15, d1 13 (by omega) (by omega) (by omega) (by omega) (by omega) (by omega) (by omega) (by omega) (by omega)]
          omega
        · unfold FLT
          rw [d14, o3, s3, s4, k2, k3]
          exact ⟨fun z => absurd z (by decide), fun _ => ⟨rfl, rfl⟩⟩
      · -- not read
        rcases hy with ⟨z, _, _⟩ | ⟨_, hx, hM1⟩
        · omega
        rcases hM with ⟨z, _⟩ | ⟨_, hx2, k1, ⟨k2, k3⟩, k4⟩
        · exact absurd z t0
        have e1 : M2 1 = M 1 := by rw [d16, hM1]; exact o1 1 (by decide) (by decide) (by decide) (by decide) (by omega)
        refine ⟨by rw [hx2, hx], r1.tx (j := j) (by omega) (fun o ho => ?_) k1 hms2, himg, ?_, htap, ?_⟩
        · rcases (show o = 1 ∨ o ≠ 1 by omega) with q | q
          · rw [q]; exact e1
          · exact d1 o (by omega) (by omega) (by omega) (by omega) (by omega) (by omega) (by omega) (by omega) (by omega)
        · rw [e1, d1 13 (by omega) (by omega) (by omega) (by omega) (by omega) (by omega) (by omega) (by omega) (by omega)]
          exact r3
        · unfold FLT
          rw [d14, o3, s3, s4, k2, k3]
          exact ⟨fun z => absurd z (by decide), fun _ => ⟨rfl, rfl⟩⟩
end PAIR3
