/-! EACH CALL of both answers alike and keeps the relation -/
def PAIR (l : Launch) (w : Wd) (d : Nat) (y8 : MethodName) (b8 : ByteArray) (n8 : Nat) (y9 : MethodName) (b9 : ByteArray) (n9 : Nat) (rt : FieldType) (mk : Int → MV) (as : List MV) (M : Mem) : Prop :=
  ∃ Q : Option MV → Mem → Prop, MT l w y8 b8 n8 (some rt) d (vR 0 :: as) M Q ∧ ∀ r M1, Q r M1 → ∃ x, r = some (mk x) ∧ ∃ Q2 : Option MV → Mem → Prop, MT l w y9 b9 n9 (some rt) d (vR 134 :: as) M1 Q2 ∧ ∀ r2 M2, Q2 r2 M2 → r2 = some (mk x) ∧ REL M2
section PAIR
variable {l : Launch} {w : Wd} {d : Nat} {M : Mem}
/-- a question whose answer is a word of the class's memory -/
theorem pr_houseOf (hd : 40 ≤ d) (hR : REL M) {a b : Int} : PAIR l w d yX8_houseOf cX8_houseOf 3 yX9_houseOf cX9_houseOf 3 .int vI [vI a, vI b] M := by
  refine ⟨_, ct_X8_houseOf (by omega) hR.1.gm.1.1, fun r M1 hq => ?_⟩
  obtain ⟨rfl, rfl⟩ := hq
  refine ⟨_, rfl, _, ct_X9_houseOf (by omega) hR.1, fun r2 M2 hq2 => ?_⟩
  obtain ⟨rfl, rfl⟩ := hq2
  exact ⟨rfl, hR⟩
theorem pr_candleOf (hd : 40 ≤ d) (hR : REL M) {a b : Int} : PAIR l w d yX8_candleOf cX8_candleOf 3 yX9_candleOf cX9_candleOf 3 .int vI [vI a, vI b] M := by
  refine ⟨_, ct_X8_candleOf (by omega) hR.1.gm.1.1, fun r M1 hq => ?_⟩
  obtain ⟨rfl, rfl⟩ := hq
  refine ⟨_, rfl, _, ct_X9_candleOf (by omega) hR.1, fun r2 M2 hq2 => ?_⟩
  obtain ⟨rfl, rfl⟩ := hq2
  exact ⟨rfl, hR⟩
theorem pr_drip (hd : 40 ≤ d) (hR : REL M) {a b : Int} : PAIR l w d yX8_drip cX8_drip 3 yX9_drip cX9_drip 3 .int vI [vI a, vI b] M := by
  refine ⟨_, ct_X8_drip (by omega) hR.1.gm.dr, fun r M1 hq => ?_⟩
  obtain ⟨rfl, rfl⟩ := hq
  refine ⟨_, rfl, _, ct_X9_drip (by omega) hR.1, fun r2 M2 hq2 => ?_⟩
  obtain ⟨rfl, rfl⟩ := hq2
  exact ⟨rfl, hR⟩
theorem pr_worth (hd : 40 ≤ d) (hR : REL M) {a : Int} : PAIR l w d yX8_worth cX8_worth 2 yX9_worth cX9_worth 2 .int vI [vI a] M := by
  refine ⟨_, ct_X8_worth (by omega) hR.1.gm.1.1, fun r M1 hq => ?_⟩
  obtain ⟨rfl, rfl⟩ := hq
  refine ⟨_, rfl, _, ct_X9_worth (by omega) hR.1, fun r2 M2 hq2 => ?_⟩
  obtain ⟨rfl, rfl⟩ := hq2
  exact ⟨rfl, hR⟩
theorem pr_club (hd : 40 ≤ d) (hR : REL M) {a : Int} : PAIR l w d yX8_club cX8_club 6 yX9_club cX9_club 7 .int vI [vI a] M := by
  refine ⟨_, ct_X8_club (by omega) hR.1.gm.1.1, fun r M1 hq => ?_⟩
  obtain ⟨rfl, rfl⟩ := hq
  refine ⟨_, rfl, _, ct_X9_club (by omega) hR.1, fun r2 M2 hq2 => ?_⟩
  obtain ⟨rfl, rfl⟩ := hq2
  exact ⟨rfl, hR⟩
theorem pr_about (hd : 40 ≤ d) (hR : REL M) {a : Int} : PAIR l w d yX8_about cX8_about 2 yX9_about cX9_about 4 .int vI [vI a] M := by
  refine ⟨_, ct_X8_about (by omega) hR.1.gm.1.1, fun r M1 hq => ?_⟩
  obtain ⟨rfl, rfl⟩ := hq
  refine ⟨_, rfl, _, ct_X9_about (by omega) hR.1 hR.2.2.2.1.2.1, fun r2 M2 hq2 => ?_⟩
  obtain ⟨rfl, rfl⟩ := hq2
  exact ⟨rfl, hR⟩
theorem pr_settles (hd : 40 ≤ d) (hR : REL M) {a b c : Int} : PAIR l w d yX8_settles cX8_settles 9 yX9_settles cX9_settles 9 .int vI [vI a, vI b, vI c] M := by
  refine ⟨_, ct_X8_settles (by omega) hR.1.gm.1.1, fun r M1 hq => ?_⟩
  obtain ⟨rfl, rfl⟩ := hq
  refine ⟨_, rfl, _, ct_X9_settles (by omega) hR.1, fun r2 M2 hq2 => ?_⟩
  obtain ⟨x, rfl, rfl, hf⟩ := hq2
  exact ⟨rfl, hR.q (fun o ho => hf o (by omega))⟩
theorem pr_fault (hd : 40 ≤ d) (hR : REL M) {a : Int} : PAIR l w d yX8_fault cX8_fault 2 yX9_fault cX9_fault 2 .int vI [vI a] M := by
  refine ⟨_, ct_X8_fault (by omega), fun r M1 hq => ?_⟩
  obtain ⟨rfl, rfl⟩ := hq
  refine ⟨_, rfl, _, ct_X9_fault, fun r2 M2 hq2 => ?_⟩
  obtain ⟨rfl, rfl⟩ := hq2
  refine ⟨?_, hR⟩
  have hF := hR.2.2.2.2
  congr 2
  unfold faultV
  by_cases z : M2 114 10 = 0
  · rw [if_pos z, (hF.1 z).1, (hF.1 z).2]; split <;> try rfl
    split <;> rfl
  · rw [if_neg z, (hF.2 z).1, (hF.2 z).2]
/-- a question that is asked by a relation -/
theorem qRel {M M1 M2 : Mem} (hR : REL M) (h1 : FrS M M1) (h2 : FQ M1 M2) : REL M2 := hR.q (fun o ho => (h2 o (by omega)).trans (h1 o (by omega)))
theorem qMd {M M1 : Mem} (hR : REL M) (h1 : FrS M M1) : GS M M1 := hR.md (fun o ho => h1 o (by omega))
theorem pr_says (hd : 40 ≤ d) (hR : REL M) {a b c e : Int} : PAIR l w d yX8_says cX8_says 5 yX9_says cX9_says 5 .int vI [vI a, vI b, vI c, vI e] M := by
  refine ⟨_, ct_X8_says (by omega) hR.1.gm.1, fun r M1 hq => ?_⟩
  obtain ⟨x, rfl, rfl, h1⟩ := hq
  refine ⟨_, rfl, _, ct_X9_says (by omega) (qMd hR h1), fun r2 M2 hq2 => ?_⟩
  obtain ⟨y, rfl, rfl, h2⟩ := hq2
  exact ⟨rfl, qRel hR h1 h2⟩
theorem whose_u {N : Mem} {c t x y : Int} (h1 : whoseR N c t x) (h2 : whoseR N c t y) : y = x := by
  rcases h1 with ⟨a, b, c, d⟩ | ⟨a, b⟩ <;> rcases h2 with ⟨a2, b2, c2, d2⟩ | ⟨a2, b2⟩
  · rw [d, d2]
  · exact absurd ⟨a, b, c⟩ a2
  · exact absurd ⟨a2, b2, c2⟩ a
  · rw [b, b2]
theorem odds_u {N : Mem} {c i b x y : Int} (h1 : oddsR N c i b x) (h2 : oddsR N c i b y) : y = x := by
  rcases h1 with ⟨a, b, c, d⟩ | ⟨a, b⟩ <;> rcases h2 with ⟨a2, b2, c2, d2⟩ | ⟨a2, b2⟩
  · rw [d, d2]
  · exact absurd ⟨a, b, c⟩ a2
  · exact absurd ⟨a2, b2, c2⟩ a
  · rw [b, b2]
theorem blame_u {N : Mem} {c i b x y : Int} (h1 : blameR N c i b x) (h2 : blameR N c i b y) : y = x := by
  rcases h1 with ⟨a, b, c, d⟩ | ⟨a, b⟩ <;> rcases h2 with ⟨a2, b2, c2, d2⟩ | ⟨a2, b2⟩
  · rw [d, d2]
  · exact absurd ⟨a, b, c⟩ a2
  · exact absurd ⟨a2, b2, c2⟩ a
  · rw [b, b2]
theorem supper_u {N : Mem} {s th i x y : Int} (h1 : supperR N s th i x) (h2 : supperR N s th i y) : y = x := by
  rcases h1 with ⟨a, b, c, d, e, f, g, h, z⟩ | ⟨a, b⟩ <;> rcases h2 with ⟨a2, b2, c2, d2, e2, f2, g2, h2, z2⟩ | ⟨a2, b2⟩
  · rw [z, z2]
  · exact absurd ⟨a, b, c, d, e, f, g, h⟩ a2
  · exact absurd ⟨a2, b2, c2, d2, e2, f2, g2, h2⟩ a
  · rw [b, b2]
theorem bst_u {L : List (List Int × Int)} (h : L ≠ []) (b0 b1 : List Int) : L.foldl bstep (-1, b0) = L.foldl bstep (-1, b1) := by
  cases L with
  | nil => exact absurd rfl h
  | cons q L =>
    have e : ∀ b : List Int, bstep (-1, b) q = (q.2, q.1) := fun b => by unfold bstep; rw [if_neg (fun z => z.1 rfl)]
    rw [List.foldl_cons, List.foldl_cons, e, e]
theorem mar_ne {m : Nat → Int} {n : Nat} (h1 : 1 ≤ n) (h2 : n % 2 = 0) (h6 : n ≤ 6) : mar m n 7 (List.replicate n (-1)) 0 0 ≠ [] := by
  rcases (show n = 2 ∨ n = 4 ∨ n = 6 by omega) with rfl | rfl | rfl
  · rw [mar_2]; exact fun z => by cases z
  · rw [mar_4]; exact fun z => by cases z
  · rw [mar_6]; exact fun z => by cases z
theorem married_u {N : Mem} (hI : IB N) {c x y : Int} (h1 : marriedR N c x) (h2 : marriedR N c y) : y = x := by
  rcases h1 with ⟨a, b, b0, d⟩ | ⟨a, b⟩ <;> rcases h2 with ⟨a2, b2, b1, d2⟩ | ⟨a2, b2⟩
  · have := hI.2.1
    rw [d, d2, bst_u (mar_ne (by omega) (by omega) (by omega)) b1 b0]
  · exact absurd ⟨a, b⟩ a2
  · exact absurd ⟨a2, b2⟩ a
  · rw [b, b2]
theorem pr_whose (hd : 40 ≤ d) (hR : REL M) {a b : Int} : PAIR l w d yX8_whose cX8_whose 3 yX9_whose cX9_whose 5 .int vI [vI a, vI b] M := by
  refine ⟨_, ct_X8_whose (by omega) hR.1.gm.1 hR.1.gm.2.2.1, fun r M1 hq => ?_⟩
  obtain ⟨x, rfl, hx, h1⟩ := hq
  refine ⟨_, rfl, _, ct_X9_whose (by omega) (qMd hR h1), fun r2 M2 hq2 => ?_⟩
  obtain ⟨y, rfl, hy, h2⟩ := hq2
  exact ⟨by rw [whose_u hx hy], qRel hR h1 h2⟩
theorem pr_odds (hd : 40 ≤ d) (hR : REL M) {a b c : Int} : PAIR l w d yX8_odds cX8_odds 4 yX9_odds cX9_odds 9 .long vL [vI a, vI b, vI c] M := by
  refine ⟨_, ct_X8_odds (by omega) hR.1.gm.1 hR.1.gm.2.2.1, fun r M1 hq => ?_⟩
  obtain ⟨x, rfl, hx, h1⟩ := hq
  refine ⟨_, rfl, _, ct_X9_odds (by omega) (qMd hR h1), fun r2 M2 hq2 => ?_⟩
  obtain ⟨y, rfl, hy, h2⟩ := hq2
  exact ⟨by rw [odds_u hx hy], qRel hR h1 h2⟩
theorem pr_blame (hd : 40 ≤ d) (hR : REL M) {a b c : Int} : PAIR l w d yX8_blame cX8_blame 4 yX9_blame cX9_blame 11 .long vL [vI a, vI b, vI c] M := by
  refine ⟨_, ct_X8_blame (by omega) hR.1.gm.1 hR.1.gm.2.2.1, fun r M1 hq => ?_⟩
  obtain ⟨x, rfl, hx, h1⟩ := hq
  refine ⟨_, rfl, _, ct_X9_blame (by omega) (qMd hR h1), fun r2 M2 hq2 => ?_⟩
  obtain ⟨y, rfl, hy, h2⟩ := hq2
  exact ⟨by rw [blame_u hx hy], qRel hR h1 h2⟩
theorem pr_supper (hd : 40 ≤ d) (hR : REL M) {a b c : Int} : PAIR l w d yX8_supper cX8_supper 5 yX9_supper cX9_supper 9 .int vI [vI a, vI b, vI c] M := by
  refine ⟨_, ct_X8_supper (by omega) hR.1.gm.1, fun r M1 hq => ?_⟩
  obtain ⟨x, rfl, hx, h1⟩ := hq
  refine ⟨_, rfl, _, ct_X9_supper (by omega) (qMd hR h1), fun r2 M2 hq2 => ?_⟩
  obtain ⟨y, rfl, hy, h2⟩ := hq2
  exact ⟨by rw [supper_u hx hy], qRel hR h1 h2⟩
theorem pr_married (hd : 40 ≤ d) (hR : REL M) {a : Int} : PAIR l w d yX8_married cX8_married 2 yX9_married cX9_married 9 .int vI [vI a] M := by
  refine ⟨_, ct_X8_married (by omega) hR.1.gm.1 hR.1.gm.2.2.1, fun r M1 hq => ?_⟩
  obtain ⟨x, rfl, hx, h1⟩ := hq
  refine ⟨_, rfl, _, ct_X9_married (by omega) (qMd hR h1), fun r2 M2 hq2 => ?_⟩
  obtain ⟨y, rfl, hy, h2⟩ := hq2
  exact ⟨by rw [married_u hR.1.gm.1.1 hx hy], qRel hR h1 h2⟩
/-! the doings -/
theorem zMd {M Z M1 : Mem} (hR : REL M) (hk : KPZ M Z) (h1 : Fr2 Z M1) : GS M M1 := hR.md (fun o ho => (h1 o (by omega) (by omega)).trans (hk.1 o (by omega)))
theorem pr_buy (hd : 40 ≤ d) (hR : REL M) {a b c : Int} : PAIR l w d yX8_buy cX8_buy 5 yX9_buy cX9_buy 5 .int vI [vI a, vI b, vI c] M := by
  have hG := hR.1.gm
  have hk : KPZ M (buyZ M a b c) := kz_do hG 4 c b a
  refine ⟨_, ct_X8_buy (by omega) hG.1 hG.2.1, fun r M1 hq => ?_⟩
  obtain ⟨x, rfl, hx⟩ := hq
  obtain ⟨rfl, h1⟩ := buy_w hx
  refine ⟨_, rfl, _, ct_X9_buy (by omega) (zMd hR hk h1), fun r2 M2 hq2 => ?_⟩
  obtain ⟨y, rfl, rfl, hf, hg⟩ := hq2
  exact ⟨rfl, hR.dz hk.1 hk.2 h1 hf hg⟩
theorem pr_light (hd : 40 ≤ d) (hR : REL M) {a : Int} : PAIR l w d yX8_light cX8_light 2 yX9_light cX9_light 4 .int vI [vI a] M := by
  have hG := hR.1.gm
  have hk : KPZ M (lightZ M a) := kz_do hG 5 a 0 0
  refine ⟨_, ct_X8_light (by omega) hG.1.1 hG.2.1, fun r M1 hq => ?_⟩
  obtain ⟨x, rfl, hx⟩ := hq
  obtain ⟨rfl, h1⟩ := light_w hx
  have h1 : Fr2 (lightZ M a) M1 := by rw [h1]; exact Fr2.rf _
  refine ⟨_, rfl, _, ct_X9_light (by omega) (zMd hR hk h1), fun r2 M2 hq2 => ?_⟩
  obtain ⟨y, rfl, rfl, hf, hg⟩ := hq2
  exact ⟨rfl, hR.dz hk.1 hk.2 h1 hf hg⟩
theorem pr_burn (hd : 40 ≤ d) (hR : REL M) {a : Int} : PAIR l w d yX8_burn cX8_burn 4 yX9_burn cX9_burn 10 .int vI [vI a] M := by
  have hG := hR.1.gm
  have hk : KPZ M (burnZ M a) := kz_do hG 6 a 0 0
  refine ⟨_, ct_X8_burn (by omega) hG.1 hG.2.1 hG.2.2.1 hG.2.2.2.1 hG.dr hG.lt, fun r M1 hq => ?_⟩
  obtain ⟨x, rfl, hx⟩ := hq
  obtain ⟨rfl, h1⟩ := burn_w hx
  refine ⟨_, rfl, _, ct_X9_burn (by omega) (zMd hR hk h1), fun r2 M2 hq2 => ?_⟩
  obtain ⟨y, rfl, rfl, hf, hg⟩ := hq2
  exact ⟨rfl, hR.dz hk.1 hk.2 h1 hf hg⟩
theorem pr_moths (hd : 40 ≤ d) (hR : REL M) {a : Int} : PAIR l w d yX8_moths cX8_moths 5 yX9_moths cX9_moths 5 .int vI [vI a] M := by
  have hG := hR.1.gm
  have hk : KPZ M (mothZ M a) := kz_do hG 7 a 0 0
  refine ⟨_, ct_X8_moths (by omega) hG.1 hG.2.1 hG.2.2.2.1, fun r M1 hq => ?_⟩
  obtain ⟨x, rfl, hx⟩ := hq
  obtain ⟨rfl, h1⟩ := moth_w hx
  have h1 : Fr2 (mothZ M a) M1 := by rw [h1]; exact Fr2.rf _
  refine ⟨_, rfl, _, ct_X9_moths (by omega) (zMd hR hk h1), fun r2 M2 hq2 => ?_⟩
  obtain ⟨y, rfl, rfl, hf, hg⟩ := hq2
  exact ⟨rfl, hR.dz hk.1 hk.2 h1 hf hg⟩
theorem pr_repay (hd : 40 ≤ d) (hR : REL M) {a b : Int} : PAIR l w d yX8_repay cX8_repay 3 yX9_repay cX9_repay 3 .int vI [vI a, vI b] M := by
  have hG := hR.1.gm
  have hk : KPZ M (payZ M a b) := kz_pay hG.2.1 a b
  refine ⟨_, ct_X8_repay (by omega) hG.1.1 hG.2.1, fun r M1 hq => ?_⟩
  obtain ⟨h0, rfl⟩ := hq
  have h1 : Fr2 (payZ M a b) M1 := by rw [h0]; exact Fr2.rf _
  refine ⟨_, rfl, _, ct_X9_repay (by omega) (zMd hR hk h1), fun r2 M2 hq2 => ?_⟩
  obtain ⟨y, rfl, rfl, hf, hg⟩ := hq2
  exact ⟨rfl, hR.dz hk.1 hk.2 h1 hf hg⟩
end PAIR
