theorem mothM_o {M : Mem} {o k : Nat} (h3 : o ≠ 3) (h4 : o ≠ 4) (h1 : o ≠ 1 ∨ k ≠ 12) : ∀ n, mothM n M o k = M o k
  | 0 => rfl
  | n + 1 => by
    rw [← mothM_o (M := M) h3 h4 h1 n]
    show moth1 (mothM n M) o k = _
    unfold moth1 drw
    split
    · rw [up_o h3, up_o h4]
      rcases h1 with q | q
      · rw [up_o q]
      · rw [up_k q]
    · rcases h1 with q | q
      · rw [up_o q]
      · rw [up_k q]
theorem GM.moth {M : Mem} (hG : GM M) {n : Nat} (h1 : 1 ≤ M 1 0) : GM (mothM n (keepM M (nxt M) (-1) (-1))) := by
  have hq := (nxt_ok hG.2.1).1
  have hb := hG.1.1.1
  have ko : ∀ o, o ≠ 25 → o < 27 ∨ 57 ≤ o → keepM M (nxt M) (-1) (-1) o = M o := fun o a b => keepM_o a (by omega)
  have hK : MI (keepM M (nxt M) (-1) (-1)) := by
    unfold MI
    rw [ko 1 (by decide) (by decide), ko 3 (by decide) (by decide), ko 4 (by decide) (by decide)]
    exact ⟨⟨by omega, by omega⟩, hG.2.2.2.1, fun k hk => (hG.1.2.1 k hk).2⟩
  have hN := hK.mn n
  have eo : ∀ o, o ≠ 25 → o < 27 ∨ 57 ≤ o → o ≠ 1 → o ≠ 3 → o ≠ 4 → mothM n (keepM M (nxt M) (-1) (-1)) o = M o := fun o a b c1 c3 c4 => by
    rw [← ko o a b]
    exact funext fun k => mothM_o c3 c4 (Or.inl c1) n
  have e1 : ∀ k, k ≠ 12 → mothM n (keepM M (nxt M) (-1) (-1)) 1 k = M 1 k := fun k hk => by
    rw [← ko 1 (by decide) (by decide)]
    exact mothM_o (by decide) (by decide) (Or.inr hk) n
  refine hG.step (fun k hk _ => e1 k hk) (fun o ho => eo o (by omega) (by omega) (by omega) (by omega) (by omega)) (fun k hk8 => hN.2.2 k hk8) (hG.2.1.kp (c := -1) (i := -1) (funext fun k => mothM_o (by decide) (by decide) (Or.inl (by decide)) n)) (fun c1 i1 hin => ?_) (fun c1 hc1 => ?_) hN.2.1 ⟨?_, ?_⟩ (fun c1 hc1 => ?_)
  · rw [eo 11 (by decide) (by decide) (by decide) (by decide) (by decide)]; exact hG.2.2.1.o11 hin
  · rw [eo 10 (by decide) (by decide) (by decide) (by decide) (by decide)]; exact hG.2.2.1.2 c1 hc1
  · rw [dsum_c (B := M) _ (fun k _ => by rw [eo 10 (by decide) (by decide) (by decide) (by decide) (by decide)]), e1 13 (by decide)]; exact hG.2.2.2.2.1.1
  · rw [eo 5 (by decide) (by decide) (by decide) (by decide) (by decide), e1 13 (by decide)]; exact hG.2.2.2.2.1.2
  · rw [eo 8 (by decide) (by decide) (by decide) (by decide) (by decide), eo 9 (by decide) (by decide) (by decide) (by decide) (by decide), eo 10 (by decide) (by decide) (by decide) (by decide) (by decide)]; exact hG.2.2.2.2.2 c1 hc1
abbrev okPay (M : Mem) (h k : Int) : Prop := isH M h ∧ 1 ≤ k ∧ k ≤ M 4 h.toNat ∧ k ≤ M 3 h.toNat
def payM (M : Mem) (h k : Int) : Mem := up (up (keepM M (nxt M) (-1) (-1)) 4 h.toNat (M 4 h.toNat - k)) 3 h.toNat (M 3 h.toNat - k)
theorem GM.pay {M : Mem} (hG : GM M) {h k : Int} (hk : okPay M h k) : GM (payM M h k) := by
  have hq := (nxt_ok hG.2.1).1
  have ko : ∀ o, o ≠ 25 → o < 27 ∨ 57 ≤ o → keepM M (nxt M) (-1) (-1) o = M o := fun o a b => keepM_o a (by omega)
  have hw := hG.1.2.1 h.toNat (by have := hk.1; have := hG.1.1.1; omega)
  have k1 := hk.2.1
  have k2 := hk.2.2.1
  have k3 := hk.2.2.2
  have eo : ∀ o, o ≠ 25 → o < 27 ∨ 57 ≤ o → o ≠ 3 → o ≠ 4 → payM M h k o = M o := fun o a b c3 c4 => by unfold payM; rw [up_row c3, up_row c4, ko o a b]
  refine hG.step (fun k _ _ => ?_) (fun o ho => ?_) (fun k8 hk8 => ?_) (hG.2.1.kp (c := -1) (i := -1) ?_) (fun c1 i1 hin => ?_) (fun c1 hc1 => ?_) ?_ ⟨?_, ?_⟩ (fun c1 hc1 => ?_)
  · rw [eo 1 (by decide) (by decide) (by decide) (by decide)]
  · exact eo o (by omega) (by omega) (by omega) (by omega)
  · unfold payM
    by_cases e : k8 = h.toNat
    · subst e; rw [up_s, up_o (by decide), up_s]; omega
    · rw [up_k e, up_o (by decide), up_o (by decide), up_k e, ko 3 (by decide) (by decide), ko 4 (by decide) (by decide)]; exact (hG.1.2.1 k8 hk8).2
  · unfold payM; rw [up_row (by decide), up_row (by decide)]
  · rw [eo 11 (by decide) (by decide) (by decide) (by decide)]; exact hG.2.2.1.o11 hin
  · rw [eo 10 (by decide) (by decide) (by decide) (by decide)]; exact hG.2.2.1.2 c1 hc1
  · rw [eo 1 (by decide) (by decide) (by decide) (by decide)]; exact hG.2.2.2.1
  · rw [dsum_c (B := M) _ (fun k _ => by rw [eo 10 (by decide) (by decide) (by decide) (by decide)]), eo 1 (by decide) (by decide) (by decide) (by decide)]; exact hG.2.2.2.2.1.1
  · rw [eo 5 (by decide) (by decide) (by decide) (by decide), eo 1 (by decide) (by decide) (by decide) (by decide)]; exact hG.2.2.2.2.1.2
  · rw [eo 10 (by decide) (by decide) (by decide) (by decide), eo 8 (by decide) (by decide) (by decide) (by decide), eo 9 (by decide) (by decide) (by decide) (by decide)]; exact hG.2.2.2.2.2 c1 hc1
theorem adD_13 {M : Mem} {c i h m t : Int} (hd : M 1 13 < 72) : adD M c i h m t 1 13 = M 1 13 + 1 := by
  unfold adD
  rw [if_pos hd]
  unfold addD
  rw [up_s]
theorem burnB_o {M : Mem} {c : Int} (hS : SI M) {o : Nat} (h25 : o ≠ 25) (hb : o < 27 ∨ 57 ≤ o) (h1 : o ≠ 1) (h3 : o ≠ 3) (h4 : o ≠ 4) (h5 : o ≠ 5) (h10 : o ≠ 10) (h12 : o ≠ 12) : burnB M c o = M o := by
  have hq := (nxt_ok hS).1
  unfold burnB
  rw [up_row h10, burnI_row h3 h4 h5 h12 h1, keepM_o h25 (by omega)]
theorem burnB_1 {M : Mem} {c : Int} (hS : SI M) {k : Nat} (hk : k ≠ 13) : burnB M c 1 k = M 1 k := by
  have hq := (nxt_ok hS).1
  unfold burnB
  rw [up_o (by decide), burnI_o (by decide) (by decide) (by decide) (by decide) (Or.inr hk), keepM_o (by decide) (by omega)]
theorem passM_o {M : Mem} {c n h : Int} {o k : Nat} (h8 : o ≠ 8) (h9 : o ≠ 9) (h1 : o ≠ 1 ∨ k ≠ 12) : passM M c n h o k = M o k := by
  have e : ∀ o', putM M c o' o k = M o k := fun o' => by
    unfold putM
    rcases h1 with q | q
    · rw [up_o q, up_o h9]
    · rw [up_k q, up_o h9]
  unfold passM
  split
  · rw [up_o h8]
  split
  · rfl
  split
  · rw [up_o h8, e]
  · rw [e]
theorem GM.burn {M : Mem} (hG : GM M) {c : Int} (hk : okBurn M c) : GM (burnM M c) := by
  have hS := hG.2.1
  have hq := (nxt_ok hS).1
  have hlen := hG.1.1.len hk.1
  have hb5 := hG.1.1.2.1
  have hdl : M 1 13 < 72 := by
    have := dsum_l (M := M) (c := c.toNat) (M 1 5).toNat (by have := hk.1; omega) hG.nx (by have := hk.2.2.2.2; omega)
    have := hG.2.2.2.2.1.1
    omega
  have ko : ∀ o, o ≠ 25 → o < 27 ∨ 57 ≤ o → keepM M (nxt M) c (-1) o = M o := fun o a b => keepM_o a (by omega)
  have t1 := (tellV_b (keepM M (nxt M) c (-1)) 1 (M 9 c.toNat) c (M 10 c.toNat)).1
  have hLK : LW (keepM M (nxt M) c (-1)) := LW.st (keepM_st hq) hG.1
  have hhK : isH (keepM M (nxt M) c (-1)) (M 9 c.toNat) := by unfold isH; rw [ko 1 (by decide) (by decide)]; exact hk.2.2.1
  have hLI := burnI_LW (c := c) (i := M 10 c.toNat) hLK hhK
  have eo : ∀ o, o ≠ 25 → o < 27 ∨ 57 ≤ o → o ≠ 1 → o ≠ 3 → o ≠ 4 → o ≠ 5 → o ≠ 8 → o ≠ 9 → o ≠ 10 → o ≠ 12 → burnM M c o = M o := fun o a b c1 c3 c4 c5 c8 c9 c10 c12 => by
    rw [← burnB_o (c := c) hS a b c1 c3 c4 c5 c10 c12]
    exact funext fun k => passM_o c8 c9 (Or.inl c1)
  have e1 : ∀ k, k ≠ 12 → k ≠ 13 → burnM M c 1 k = M 1 k := fun k hk1 hk2 => by
    rw [← burnB_1 (c := c) hS hk2]
    exact passM_o (by decide) (by decide) (Or.inr hk1)
  have e13 : burnM M c 1 13 = M 1 13 + 1 := by
    have : burnM M c 1 13 = burnB M c 1 13 := passM_o (by decide) (by decide) (Or.inr (by decide))
    rw [this]
    unfold burnB burnI
    rw [up_o (by decide), adD_13 (by rw [bI2_o (by decide) (by decide) (by decide), ko 1 (by decide) (by decide)]; exact hdl), bI2_o (by decide) (by decide) (by decide), ko 1 (by decide) (by decide)]
  have e10 : ∀ k, burnM M c 10 k = up M 10 c.toNat (M 10 c.toNat + 1) 10 k := fun k => by
    have : burnM M c 10 k = burnB M c 10 k := passM_o (by decide) (by decide) (Or.inl (by decide))
    rw [this]
    unfold burnB
    exact congrFun (up_c (by rw [burnI_row (by decide) (by decide) (by decide) (by decide) (by decide), ko 10 (by decide) (by decide)]) rfl) k
  have e34 : ∀ o k, o = 3 ∨ o = 4 ∨ o = 5 → burnM M c o k = burnI (keepM M (nxt M) c (-1)) c (M 10 c.toNat) (M 9 c.toNat) o k := fun o k ho => by
    have : burnM M c o k = burnB M c o k := passM_o (by omega) (by omega) (Or.inl (by omega))
    rw [this]
    unfold burnB
    rw [up_o (by omega)]
  have b7 : burnB M c 7 = M 7 := burnB_o hS (by decide) (by decide) (by decide) (by decide) (by decide) (by decide) (by decide) (by decide)
  have b8 : burnB M c 8 = M 8 := burnB_o hS (by decide) (by decide) (by decide) (by decide) (by decide) (by decide) (by decide) (by decide)
  have b9 : burnB M c 9 = M 9 := burnB_o hS (by decide) (by decide) (by decide) (by decide) (by decide) (by decide) (by decide) (by decide)
  have b11 : burnB M c 11 = M 11 := burnB_o hS (by decide) (by decide) (by decide) (by decide) (by decide) (by decide) (by decide) (by decide)
  have bo : ∀ i, ownr (burnB M c) c i = ownr M c i := fun i => by
    unfold ownr isIn isC
    rw [burnB_1 hS (by decide), b7, b11]
  have hi0 := hk.2.2.2.2
  refine hG.step e1 (fun o ho => eo o (by omega) (by omega) (by omega) (by omega) (by omega) (by omega) (by omega) (by omega) (by omega) (by omega)) (fun k hk8 => ?_) (hS.kp (c := c) (i := -1) ?_) (fun c1 i1 hin => ?_) (fun c1 hc1 => ?_) ?_ ⟨?_, fun k hk8 => ?_⟩ (fun c1 hc1 => ?_)
  · rw [e34 3 k (by omega), e34 4 k (by omega)]
    exact (hLI.2.1 k hk8).2
  · refine funext fun k => ?_
    have : burnM M c 25 k = burnB M c 25 k := passM_o (by decide) (by decide) (Or.inl (by decide))
    rw [this]
    unfold burnB
    rw [up_o (by decide), burnI_row (by decide) (by decide) (by decide) (by decide) (by decide)]
  · rw [eo 11 (by decide) (by decide) (by decide) (by decide) (by decide) (by decide) (by decide) (by decide) (by decide) (by decide)]; exact hG.2.2.1.o11 hin
  · rw [e10]
    by_cases e : c1.toNat = c.toNat
    · rw [e, up_s]; omega
    · rw [up_k e]; exact hG.2.2.1.2 c1 hc1
  · have hx := hG.2.2.2.1
    have hx2 : burnB M c 1 12 = M 1 12 := burnB_1 hS (by decide)
    show 0 ≤ passM (burnB M c) c (M 10 c.toNat + 1) (M 9 c.toNat) 1 12 ∧ passM (burnB M c) c (M 10 c.toNat + 1) (M 9 c.toNat) 1 12 ≤ 50000
    unfold passM putM
    rw [hx2]
    split
    · rw [up_o (by decide), hx2]; exact hx
    split
    · rw [hx2]; exact hx
    split
    · rw [up_o (by decide), up_s]; omega
    · rw [up_s]; omega
  · have h1 := dsum_u (M := M) (M1 := burnM M c) (c := c.toNat) (fun k hk => by rw [e10, up_k hk]) (M 1 5).toNat
    rw [h1, if_pos (by have := hk.1; omega), e10, up_s, e13]
    have := hG.2.2.2.2.1.1
    omega
  · have h5 := hG.2.2.2.2.1.2 k hk8
    rw [e34 5 k (by omega), e13, burnI_5, ko 5 (by decide) (by decide)]
    split
    · rename_i e
      subst e
      omega
    · omega
  · have h0 := hG.2.2.2.2.2 c1 hc1
    have h1 := hk.2.2.1
    rw [e10]
    by_cases e : c1.toNat = c.toNat
    · rw [e, up_s]
      show (0 ≤ passM (burnB M c) c (M 10 c.toNat + 1) (M 9 c.toNat) 8 c.toNat ∧ passM (burnB M c) c (M 10 c.toNat + 1) (M 9 c.toNat) 8 c.toNat ≤ 3) ∧ (passM (burnB M c) c (M 10 c.toNat + 1) (M 9 c.toNat) 8 c.toNat = 0 → _) ∧ (passM (burnB M c) c (M 10 c.toNat + 1) (M 9 c.toNat) 8 c.toNat = 1 ∨ passM (burnB M c) c (M 10 c.toNat + 1) (M 9 c.toNat) 8 c.toNat = 2 → isH M (passM (burnB M c) c (M 10 c.toNat + 1) (M 9 c.toNat) 9 c.toNat) ∧ _)
      have k8 := hk.2.1
      unfold passM
      rw [b7, bo]
      by_cases q1 : M 7 c.toNat ≤ M 10 c.toNat + 1
      · rw [if_pos q1, up_s]
        exact ⟨by omega, by omega, fun z => by omega⟩
      rw [if_neg q1]
      by_cases q2 : ownr M c (M 10 c.toNat + 1) = -1 ∨ ownr M c (M 10 c.toNat + 1) = M 9 c.toNat
      · rw [if_pos q2, b8, b9, k8]
        exact ⟨by omega, by omega, fun _ => ⟨h1, by omega⟩⟩
      rw [if_neg q2]
      have hin : isIn M c (M 10 c.toNat + 1) := ⟨hk.1, by omega, by omega⟩
      have hown := (hG.2.2.1.1 c _ hin).resolve_left (fun z => q2 (Or.inl z))
      unfold putM
      split
      · rw [up_s, up_o (by decide), up_o (by decide), up_s]
        exact ⟨by omega, by omega, fun _ => ⟨hown, by omega⟩⟩
      · rw [up_o (by decide), up_o (by decide), up_o (by decide), up_s, b8, k8]
        exact ⟨by omega, by omega, fun _ => ⟨hown, by omega⟩⟩
    · rw [up_k e]
      have e89 : ∀ o, o = 8 ∨ o = 9 → burnM M c o c1.toNat = M o c1.toNat := fun o ho => by
        have hbo : burnB M c o = M o := burnB_o hS (by omega) (by omega) (by omega) (by omega) (by omega) (by omega) (by omega) (by omega)
        rw [← hbo]
        show passM (burnB M c) c (M 10 c.toNat + 1) (M 9 c.toNat) o c1.toNat = _
        unfold passM putM
        split
        · rw [up_k e]
        split
        · rfl
        split
        · rw [up_k e, up_o (by omega), up_k e]
        · rw [up_o (by omega), up_k e]
      rw [e89 8 (by omega), e89 9 (by omega)]
      exact h0
