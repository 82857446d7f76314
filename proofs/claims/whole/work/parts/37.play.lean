/-! THE DOINGS AS WORDS -/
def buyX (M : Mem) (h c i : Int) : Int := if okBuy M h c i then M 3 h.toNat - tellV M 0 h c i else -1
def buyZ (M : Mem) (h c i : Int) : Mem := if okBuy M h c i then buyM M h c i else M
def lightX (M : Mem) (c : Int) : Int := if okL1 M c then ownr M c 0 else if okL2 M c then M 9 c.toNat else -1
def lightZ (M : Mem) (c : Int) : Mem := if okL1 M c then light1 M c else if okL2 M c then light2 M c else M
def burnX (M : Mem) (c : Int) : Int := if okBurn M c then burnM M c 8 c.toNat else -1
def burnZ (M : Mem) (c : Int) : Mem := if okBurn M c then burnM M c else M
def mothX (M : Mem) (n : Int) : Int := if okMoths M n then mothT n.toNat (keepM M (nxt M) (-1) (-1)) else -1
def mothZ (M : Mem) (n : Int) : Mem := if okMoths M n then mothM n.toNat (keepM M (nxt M) (-1) (-1)) else M
def doX (M : Mem) (k a b c : Int) : Int := if k = 4 then buyX M c b a else if k = 5 then lightX M a else if k = 6 then burnX M a else if k = 7 then mothX M a else 0
def doZ (M : Mem) (k a b c : Int) : Mem := if k = 4 then buyZ M c b a else if k = 5 then lightZ M a else if k = 6 then burnZ M a else if k = 7 then mothZ M a else M
/-- the clauses of a text, played from the i-th on -/
def playX (kd nu : Nat → Int) : Nat → Nat → Mem → Int
  | 0, _, _ => -1
  | n + 1, i, M => if doX M (kd i) (nu (i * 3)) (nu (i * 3 + 1)) (nu (i * 3 + 2)) = -1 then i else playX kd nu n (i + 1) (doZ M (kd i) (nu (i * 3)) (nu (i * 3 + 1)) (nu (i * 3 + 2)))
def playZ (kd nu : Nat → Int) : Nat → Nat → Mem → Mem
  | 0, _, M => M
  | n + 1, i, M => if doX M (kd i) (nu (i * 3)) (nu (i * 3 + 1)) (nu (i * 3 + 2)) = -1 then doZ M (kd i) (nu (i * 3)) (nu (i * 3 + 1)) (nu (i * 3 + 2)) else playZ kd nu n (i + 1) (doZ M (kd i) (nu (i * 3)) (nu (i * 3 + 1)) (nu (i * 3 + 2)))
theorem GM.fr {A B : Mem} (hf : Fr2 A B) (h : GM A) : GM B := by
  have e1 := hf 1 (by decide) (by decide)
  have e25 := hf 25 (by decide) (by decide)
  have e5 := hf 5 (by decide) (by decide)
  have e7 := hf 7 (by decide) (by decide)
  have e8 := hf 8 (by decide) (by decide)
  have e9 := hf 9 (by decide) (by decide)
  have e10 := hf 10 (by decide) (by decide)
  refine ⟨h.1.fr hf, ?_, h.2.2.1.frs hf.frs, ?_, ?_, ?_⟩
  · unfold SI; rw [e25]; exact h.2.1
  · rw [e1]; exact h.2.2.2.1
  · unfold DR; rw [e1, e5, dsum_c (B := A) _ (fun k _ => by rw [e10])]; exact h.2.2.2.2.1
  · unfold ST isC isH; rw [e1, e7, e8, e9, e10]; exact h.2.2.2.2.2
theorem nxt_fr {A B : Mem} (hf : Fr2 A B) : nxt B = nxt A := by unfold nxt; rw [hf 25 (by decide) (by decide)]
theorem buy_fr {A B : Mem} (hG : GM A) (hf : Fr2 A B) (h c i : Int) : buyX B h c i = buyX A h c i ∧ Fr2 (buyZ A h c i) (buyZ B h c i) := by
  have ht := hG.1.2.2.2.1
  have hq := (nxt_ok hG.2.1).1
  have ek : okBuy B h c i = okBuy A h c i := by unfold okBuy; rw [isH_frs hf.frs, isIn_frs hf.frs, hf 10 (by decide) (by decide), ownr_frs hf.frs, tellV_fr hf ht, hf 3 (by decide) (by decide)]
  have em : Fr2 (buyM A h c i) (buyM B h c i) := by
    unfold buyM
    rw [nxt_fr hf, tellV_fr hf ht, hf 3 (by decide) (by decide)]
    exact fr2u (fr2u (keepM_fr hq hf) rfl) rfl
  unfold buyX buyZ
  by_cases q : okBuy A h c i
  · rw [if_pos q, if_pos q, if_pos (by rw [ek]; exact q), if_pos (by rw [ek]; exact q), tellV_fr hf ht, hf 3 (by decide) (by decide)]
    exact ⟨rfl, em⟩
  · rw [if_neg q, if_neg q, if_neg (by rw [ek]; exact q), if_neg (by rw [ek]; exact q)]
    exact ⟨rfl, hf⟩
theorem light_fr {A B : Mem} (hG : GM A) (hf : Fr2 A B) (c : Int) : lightX B c = lightX A c ∧ Fr2 (lightZ A c) (lightZ B c) := by
  have hq := (nxt_ok hG.2.1).1
  have e3 := hf 3 (by decide) (by decide)
  have e8 := hf 8 (by decide) (by decide)
  have e9 := hf 9 (by decide) (by decide)
  have ek : okL1 B c = okL1 A c := by unfold okL1; rw [isC_frs hf.frs, e8, ownr_frs hf.frs]
  have ek2 : okL2 B c = okL2 A c := by unfold okL2; rw [isC_frs hf.frs, e8, e9, isH_frs hf.frs, e3]
  have em : Fr2 (light1 A c) (light1 B c) := by
    unfold light1
    rw [nxt_fr hf, ownr_frs hf.frs]
    exact fr2u (fr2u (keepM_fr hq hf) rfl) rfl
  have em2 : Fr2 (light2 A c) (light2 B c) := by
    unfold light2
    rw [nxt_fr hf, e9, e3]
    exact fr2u (fr2u (keepM_fr hq hf) rfl) rfl
  unfold lightX lightZ
  by_cases q : okL1 A c
  · have qb : okL1 B c := by rw [ek]; exact q
    rw [if_pos q, if_pos q, if_pos qb, if_pos qb, ownr_frs hf.frs]
    exact ⟨rfl, em⟩
  · have qb : ¬ okL1 B c := by rw [ek]; exact q
    rw [if_neg q, if_neg q, if_neg qb, if_neg qb]
    by_cases q2 : okL2 A c
    · have qb2 : okL2 B c := by rw [ek2]; exact q2
      rw [if_pos q2, if_pos q2, if_pos qb2, if_pos qb2, e9]
      exact ⟨rfl, em2⟩
    · have qb2 : ¬ okL2 B c := by rw [ek2]; exact q2
      rw [if_neg q2, if_neg q2, if_neg qb2, if_neg qb2]
      exact ⟨rfl, hf⟩
theorem burnI_fr {A B : Mem} (hf : Fr2 A B) (ht : A 1 15 ≤ 4) (c i h : Int) : Fr2 (burnI A c i h) (burnI B c i h) := by
  unfold burnI
  rw [tellV_fr hf ht, tellV_fr hf ht]
  refine adD_fr ?_ _ _ _ _ _
  unfold bI2 bI1
  rw [tellV_fr hf ht, tellV_fr hf ht, tellV_fr hf ht, ownr_frs hf.frs, hf 5 (by decide) (by decide), hf 3 (by decide) (by decide), hf 4 (by decide) (by decide)]
  split
  · exact fr2u (fr2u (fr2u hf rfl) rfl) rfl
  · exact fr2u (fr2u hf rfl) rfl
theorem burn_fr {A B : Mem} (hG : GM A) (hf : Fr2 A B) (c : Int) : burnX B c = burnX A c ∧ Fr2 (burnZ A c) (burnZ B c) := by
  have hq := (nxt_ok hG.2.1).1
  have e8 := hf 8 (by decide) (by decide)
  have e9 := hf 9 (by decide) (by decide)
  have e10 := hf 10 (by decide) (by decide)
  have ek : okBurn B c = okBurn A c := by unfold okBurn; rw [isC_frs hf.frs, e8, e9, e10, isH_frs hf.frs, isIn_frs hf.frs]
  have kp : Fr2 (keepM A (nxt A) c (-1)) (keepM B (nxt B) c (-1)) := by rw [nxt_fr hf]; exact keepM_fr hq hf
  have k15 : keepM A (nxt A) c (-1) 1 15 ≤ 4 := by rw [keepM_o (by decide) (by omega)]; exact hG.1.2.2.2.1
  have em : okBurn A c → Fr2 (burnM A c) (burnM B c) := fun q => by
    unfold burnM burnB
    rw [e9, e10]
    refine passM_fr (fr2u (burnI_fr kp k15 _ _ _) rfl) ?_ _ _ _
    have := burnB_1 (M := A) (c := c) hG.2.1 (k := 15) (by decide)
    unfold burnB at this
    rw [this]
    exact hG.1.2.2.2.1
  unfold burnX burnZ
  by_cases q : okBurn A c
  · rw [if_pos q, if_pos q, if_pos (by rw [ek]; exact q), if_pos (by rw [ek]; exact q), em q 8 (by decide) (by decide)]
    exact ⟨rfl, em q⟩
  · rw [if_neg q, if_neg q, if_neg (by rw [ek]; exact q), if_neg (by rw [ek]; exact q)]
    exact ⟨rfl, hf⟩
theorem mothM_fr {A B : Mem} (hf : Fr2 A B) : ∀ n, Fr2 (mothM n A) (mothM n B) ∧ mothT n B = mothT n A
  | 0 => ⟨hf, rfl⟩
  | n + 1 => by
    obtain ⟨h1, h2⟩ := mothM_fr hf n
    have e1 := h1 1 (by decide) (by decide)
    have e3 := h1 3 (by decide) (by decide)
    have e4 := h1 4 (by decide) (by decide)
    have es : mHs (mothM n B) = mHs (mothM n A) := by unfold mHs; rw [e1]
    have eh : mHit (mothM n B) = mHit (mothM n A) := by unfold mHit; rw [es, e3, e4]
    unfold mothM mothT moth1 drw
    by_cases q : mHit (mothM n A)
    · have qb : mHit (mothM n B) := by rw [eh]; exact q
      rw [if_pos q, if_pos q, if_pos qb, if_pos qb, es, e1, e3, e4, h2]
      exact ⟨fr2u (fr2u (fr2u h1 rfl) rfl) rfl, rfl⟩
    · have qb : ¬ mHit (mothM n B) := by rw [eh]; exact q
      rw [if_neg q, if_neg q, if_neg qb, if_neg qb, e1, h2]
      exact ⟨fr2u h1 rfl, rfl⟩
theorem moth_fr {A B : Mem} (hG : GM A) (hf : Fr2 A B) (n : Int) : mothX B n = mothX A n ∧ Fr2 (mothZ A n) (mothZ B n) := by
  have hq := (nxt_ok hG.2.1).1
  have ek : okMoths B n = okMoths A n := by unfold okMoths; rw [hf 1 (by decide) (by decide)]
  have kp : Fr2 (keepM A (nxt A) (-1) (-1)) (keepM B (nxt B) (-1) (-1)) := by rw [nxt_fr hf]; exact keepM_fr hq hf
  have hm := mothM_fr kp n.toNat
  unfold mothX mothZ
  by_cases q : okMoths A n
  · rw [if_pos q, if_pos q, if_pos (by rw [ek]; exact q), if_pos (by rw [ek]; exact q)]
    exact ⟨hm.2, hm.1⟩
  · rw [if_neg q, if_neg q, if_neg (by rw [ek]; exact q), if_neg (by rw [ek]; exact q)]
    exact ⟨rfl, hf⟩
theorem gm_buyZ {M : Mem} (hG : GM M) (h c i : Int) : GM (buyZ M h c i) := by
  unfold buyZ
  split
  · rename_i q; exact hG.buy q
  · exact hG
theorem gm_lightZ {M : Mem} (hG : GM M) (c : Int) : GM (lightZ M c) := by
  unfold lightZ
  split
  · rename_i q; exact hG.l1 q
  split
  · rename_i q; exact hG.l2 q
  · exact hG
theorem gm_burnZ {M : Mem} (hG : GM M) (c : Int) : GM (burnZ M c) := by
  unfold burnZ
  split
  · rename_i q; exact hG.burn q
  · exact hG
theorem gm_mothZ {M : Mem} (hG : GM M) (n : Int) : GM (mothZ M n) := by
  unfold mothZ
  split
  · rename_i q; exact hG.moth q.2
  · exact hG
theorem gm_doZ {M : Mem} (hG : GM M) (k a b c : Int) : GM (doZ M k a b c) := by
  unfold doZ
  split
  · exact gm_buyZ hG _ _ _
  split
  · exact gm_lightZ hG _
  split
  · exact gm_burnZ hG _
  split
  · exact gm_mothZ hG _
  · exact hG
theorem doZ_o {M : Mem} (hG : GM M) {k a b c : Int} {o : Nat} (ho : 57 ≤ o) : doZ M k a b c o = M o := by
  have hq := (nxt_ok hG.2.1).1
  have ko : ∀ c i, keepM M (nxt M) c i o = M o := fun c i => keepM_o (by omega) (by omega)
  unfold doZ buyZ lightZ burnZ mothZ
  split
  · split
    · unfold buyM; rw [up_row (by omega), up_row (by omega), ko]
    · rfl
  split
  · split
    · unfold light1; rw [up_row (by omega), up_row (by omega), ko]
    split
    · unfold light2; rw [up_row (by omega), up_row (by omega), ko]
    · rfl
  split
  · split
    · rw [← burnB_o (M := M) (c := a) hG.2.1 (o := o) (by omega) (by omega) (by omega) (by omega) (by omega) (by omega) (by omega) (by omega)]
      exact funext fun k => passM_o (by omega) (by omega) (Or.inl (by omega))
    · rfl
  split
  · split
    · rw [← ko (-1) (-1)]
      exact funext fun k => mothM_o (by omega) (by omega) (Or.inl (by omega)) _
    · rfl
  · rfl
