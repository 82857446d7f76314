/-! THE WHOLE RELATION of class and model, and that each call keeps it -/
theorem GS.cg {G G1 M M1 : Mem} (h : GS G M) (h1 : ∀ o, (1 ≤ o ∧ o ≤ 12) ∨ (25 ≤ o ∧ o ≤ 56) ∨ (90 ≤ o ∧ o ≤ 113) → G1 o = G o) (h2 : M1 135 = M 135) (h3 : ∀ o, 138 ≤ o → o ≤ 145 → M1 o = M o) : GS G1 M1 := by
  obtain ⟨hA, hT, hR, hX⟩ := h
  have e1 := h1 1 (by omega)
  have hag : AG G G1 := ⟨fun k _ _ => by rw [e1], fun o ho => h1 o (by omega)⟩
  have hX1 : TXS G1 M1 := hX.fr (by rw [e1]) (by rw [e1]) (fun o a b => h1 o (by omega)) h3
  refine ⟨hA.ag hag (by rw [e1]; exact hA.gm.1.2.2.2.1) (fun ht => ?_), fun c hc => ?_, ?_, hX1⟩
  · obtain ⟨acc, ⟨a, b⟩, c, _⟩ := hX1.2.2 (G1 1 16).toNat (by have := ht.1; have := ht.2; omega)
    exact TxOk_of a b c
  · rw [h1 6 (by omega), h1 7 (by omega)]; rw [e1] at hc; exact hT c hc
  · rw [h2]
    exact hR.ag hA hag (by rw [e1]; exact hR.1.1.2.2.1) (by rw [e1]; exact hR.1.1.2.2.2) (fun _ _ _ => rfl)
theorem bk_o {G : Mem} {o : Nat} (h : 90 ≤ o) : bk G o = G o := (bk_eq (G := G) (G1 := G) (fun _ _ => rfl)).2 o h
def FLT (M : Mem) : Prop := (M 114 10 = 0 → M 134 4 = -1 ∧ M 134 5 = -1) ∧ (M 114 10 ≠ 0 → M 134 4 = M 114 11 ∧ M 134 5 = M 114 12)
def REL (M : Mem) : Prop := GS M M ∧ GS (bk M) (setA M (M 136)) ∧ M 13 15 ≤ M 1 15 ∧ TAP M M ∧ FLT M
theorem REL.im {M M2 : Mem} (h : GS (bk M) (setA M (M 136))) (hz : ∀ o, (13 ≤ o ∧ o ≤ 24) ∨ (57 ≤ o ∧ o ≤ 88) ∨ (90 ≤ o ∧ o ≤ 113) → M2 o = M o) (h6 : M2 136 = M 136) (h3 : ∀ o, 138 ≤ o → o ≤ 145 → M2 o = M o) : GS (bk M2) (setA M2 (M2 136)) := by
  have hb := bk_eq (G := M) (G1 := M2) (fun o ho => hz o (by omega))
  refine h.cg (fun o ho => ?_) ?_ (fun o a b => by rw [setA_o (by omega), setA_o (by omega)]; exact h3 o a b)
  · rcases (show o < 90 ∨ 90 ≤ o by omega) with q | q
    · exact hb.1 o q
    · rw [bk_o q, bk_o q]; exact hz o (by omega)
  · show M2 136 = M 136
    exact h6
theorem TAP.cg {G G1 M M1 : Mem} (h : TAP G M) (h1 : G1 114 = G 114) (h2 : G1 115 = G 115) (h3 : M1 134 3 = M 134 3) (h4 : M1 137 = M 137) : TAP G1 M1 := by
  unfold TAP at h ⊢
  rw [h1, h2, h3, h4]; exact h
/-- a question -/
theorem REL.q {M M2 : Mem} (h : REL M) (hq : ∀ o, o < 119 ∨ (134 ≤ o ∧ o ≤ 155) → M2 o = M o) : REL M2 := by
  obtain ⟨h1, h2, h3, h4, h5⟩ := h
  refine ⟨h1.cg (fun o ho => hq o (by omega)) (hq 135 (by omega)) (fun o a b => hq o (by omega)), REL.im h2 (fun o ho => hq o (by omega)) (hq 136 (by omega)) (fun o a b => hq o (by omega)), by rw [hq 13 (by omega), hq 1 (by omega)]; exact h3, h4.cg (hq 114 (by omega)) (hq 115 (by omega)) (by rw [hq 134 (by omega)]) (hq 137 (by omega)), ?_⟩
  unfold FLT at h5 ⊢
  rw [hq 114 (by omega), hq 134 (by omega)]; exact h5
/-- a doing -/
theorem REL.dz {M Z M1 M2 : Mem} (h : REL M) (hz : ∀ o, (13 ≤ o ∧ o ≤ 24) ∨ 57 ≤ o → Z o = M o) (h15 : Z 1 15 = M 1 15) (hf : Fr2 Z M1) (hd : FD M1 M2) (hg : GS Z M2) : REL M2 := by
  obtain ⟨h1, h2, h3, h4, h5⟩ := h
  have e1 : ∀ o, o ≠ 120 → o ≠ 121 → o ≠ 135 → o ≠ 156 → o ≠ 157 → M2 o = Z o := fun o a b c d e => (hd o c d e).trans (hf o a b)
  have e2 : ∀ o, (13 ≤ o ∧ o ≤ 24) ∨ 57 ≤ o → o ≠ 120 → o ≠ 121 → o ≠ 135 → o ≠ 156 → o ≠ 157 → M2 o = M o := fun o x a b c d e => (e1 o a b c d e).trans (hz o x)
  refine ⟨hg.cg (fun o ho => e1 o (by omega) (by omega) (by omega) (by omega) (by omega)) rfl (fun _ _ _ => rfl), REL.im h2 (fun o ho => e2 o (by omega) (by omega) (by omega) (by omega) (by omega) (by omega)) (e2 136 (by omega) (by omega) (by omega) (by omega) (by omega) (by omega)) (fun o a b => e2 o (by omega) (by omega) (by omega) (by omega) (by omega) (by omega)), ?_, h4.cg (e2 114 (by omega) (by omega) (by omega) (by omega) (by omega) (by omega)) (e2 115 (by omega) (by omega) (by omega) (by omega) (by omega) (by omega)) (by rw [e2 134 (by omega) (by omega) (by omega) (by omega) (by omega) (by omega)]) (e2 137 (by omega) (by omega) (by omega) (by omega) (by omega) (by omega)), ?_⟩
  · rw [e2 13 (by omega) (by omega) (by omega) (by omega) (by omega) (by omega), e1 1 (by omega) (by omega) (by omega) (by omega) (by omega), h15]; exact h3
  · unfold FLT at h5 ⊢
    rw [e2 114 (by omega) (by omega) (by omega) (by omega) (by omega) (by omega), e2 134 (by omega) (by omega) (by omega) (by omega) (by omega) (by omega)]; exact h5
/-- between the two calls: the model still stands for the old class -/
theorem REL.md {M M1 : Mem} (h : REL M) (hm : ∀ o, 134 ≤ o → M1 o = M o) : GS M M1 := h.1.cg (fun _ _ => rfl) (hm 135 (by omega)) (fun o a b => hm o (by omega))
theorem doZ_k {M : Mem} (hG : GM M) {k a b c : Int} : (∀ o, (13 ≤ o ∧ o ≤ 24) → doZ M k a b c o = M o) ∧ doZ M k a b c 1 15 = M 1 15 := by
  have hq := (nxt_ok hG.2.1).1
  have ko : ∀ o, (13 ≤ o ∧ o ≤ 24) ∨ o = 1 → ∀ c i, keepM M (nxt M) c i o = M o := fun o ho c i => keepM_o (by omega) (by omega)
  unfold doZ buyZ lightZ burnZ mothZ
  split
  · split
    · unfold buyM; exact ⟨fun o ho => by rw [up_row (by omega), up_row (by omega), ko o (by omega)], by rw [up_o (by omega), up_o (by omega), ko 1 (by omega)]⟩
    · exact ⟨fun _ _ => rfl, rfl⟩
  split
  · split
    · unfold light1; exact ⟨fun o ho => by rw [up_row (by omega), up_row (by omega), ko o (by omega)], by rw [up_o (by omega), up_o (by omega), ko 1 (by omega)]⟩
    split
    · unfold light2; exact ⟨fun o ho => by rw [up_row (by omega), up_row (by omega), ko o (by omega)], by rw [up_o (by omega), up_o (by omega), ko 1 (by omega)]⟩
    · exact ⟨fun _ _ => rfl, rfl⟩
  split
  · split
    · refine ⟨fun o ho => ?_, ?_⟩
      · rw [← burnB_o (M := M) (c := a) hG.2.1 (o := o) (by omega) (by omega) (by omega) (by omega) (by omega) (by omega) (by omega) (by omega)]
        exact funext fun k => passM_o (by omega) (by omega) (Or.inl (by omega))
      · unfold burnM
        rw [passM_o (by omega) (by omega) (Or.inr (by decide))]
        unfold burnB
        rw [up_o (by omega), burnI_o (by decide) (by decide) (by decide) (by decide) (Or.inr (by decide)), ko 1 (by omega)]
    · exact ⟨fun _ _ => rfl, rfl⟩
  split
  · split
    · refine ⟨fun o ho => ?_, ?_⟩
      · rw [← ko o (by omega) (-1) (-1)]
        exact funext fun k => mothM_o (by omega) (by omega) (Or.inl (by omega)) _
      · rw [mothM_o (by omega) (by omega) (Or.inr (by decide)), ko 1 (by omega)]
    · exact ⟨fun _ _ => rfl, rfl⟩
  · exact ⟨fun _ _ => rfl, rfl⟩
def KPZ (M Z : Mem) : Prop := (∀ o, (13 ≤ o ∧ o ≤ 24) ∨ 57 ≤ o → Z o = M o) ∧ Z 1 15 = M 1 15
theorem KPZ.rf (M : Mem) : KPZ M M := ⟨fun _ _ => rfl, rfl⟩
theorem KPZ.tr {M Z Y : Mem} (h : KPZ M Z) (h2 : KPZ Z Y) : KPZ M Y := ⟨fun o ho => (h2.1 o ho).trans (h.1 o ho), h2.2.trans h.2⟩
theorem kz_do {M : Mem} (hG : GM M) (k a b c : Int) : KPZ M (doZ M k a b c) := ⟨fun o ho => by
  rcases ho with q | q
  · exact (doZ_k hG).1 o q
  · exact doZ_o hG q, (doZ_k hG).2⟩
theorem kz_play {kd nu : Nat → Int} : ∀ (n i : Nat) (M : Mem), GM M → KPZ M (playZ kd nu n i M)
  | 0, i, M, hG => KPZ.rf M
  | n + 1, i, M, hG => by
    unfold playZ
    first | exact (kz_do hG _ _ _ _).tr (kz_play n (i + 1) _ (gm_doZ hG _ _ _ _)) | (split <;> first | exact (kz_do hG _ _ _ _).tr (kz_play n (i + 1) _ (gm_doZ hG _ _ _ _)) | exact KPZ.rf M | exact kz_do hG _ _ _ _)
theorem kz_pay {M : Mem} (hS : SI M) (h k : Int) : KPZ M (payZ M h k) := by
  have hq := (nxt_ok hS).1
  unfold payZ payM
  split
  · exact ⟨fun o ho => by rw [up_row (by omega), up_row (by omega), keepM_o (by omega) (by omega)], by rw [up_o (by omega), up_o (by omega), keepM_o (by omega) (by omega)]⟩
  · exact KPZ.rf M
