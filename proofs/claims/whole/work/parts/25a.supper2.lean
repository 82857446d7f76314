/-- a weaker end will do -/
theorem ww_q {l : Launch} {w : Wd} {own : String} {cc : ByteArray} {nL : Nat} {ret : Option FieldType} {d : Nat} {Q Q2 : Option MV → Mem → Prop} {pc : Nat} {L : List (Option MV)} {st : List MV} {M : Mem} (h : ∀ r M', Q2 r M' → Q r M') (k : WM l w own cc nL ret d Q2 pc L st M) : WM l w own cc nL ret d Q pc L st M := by
  intro p e s m args below meth c H locs ls hF hE hS hA hP hSS hM hL hst
  have hk := k p e s m args below meth c H locs ls hF hE hS hA hP hSS hM hL hst
  intro T hT X
  obtain ⟨t, a, o, b1, b2, ⟨⟨r, M', c1, c2, c3, c4⟩, c5⟩, b4⟩ := hk T hT X
  exact ⟨t, a, o, b1, b2, ⟨⟨r, M', c1, c2, h r M' c3, c4⟩, c5⟩, b4⟩
theorem pop_ex : ∀ n : Nat, n ≤ 6 → ∀ s : Nat, s < 2 ^ n → 1 ≤ popc s → ∃ g, g < n ∧ s.testBit g = true := by
  have h : ∀ n : Nat, n ≤ 6 → ∀ s : Nat, s < 2 ^ n → 1 ≤ popc s → ((List.range n).any fun g => s.testBit g) = true := by decide +kernel
  intro n hn s hs hp
  obtain ⟨g, h1, h2⟩ := List.any_eq_true.mp (h n hn s hs hp)
  exact ⟨g, List.mem_range.mp h1, h2⟩
section SUP2
variable {l : Launch} {w : Wd} {d : Nat} {M : Mem} {Q : Option MV → Mem → Prop} {n : Nat} {G : Nat → Int} {K : Nat → Nat → Int}
theorem ct_X5_weigh (hd : 3 ≤ d) (hS : SP n G K M) (hK : okK K) (hn : n ≤ 6) : GV l w yX5_weigh cX5_weigh 3 d [vR 125] M (fun M1 => FrS M M1 ∧ SP n G K M1 ∧ ∀ t, t < 2 ^ n → M1 129 t = bst K n (popc t) t) := by
  have h64 := (bit_f n hn).2
  have loop : ∀ (q s : Nat) (M1 : Mem) (x2 : Option MV), s + q = 2 ^ n → 1 ≤ s → FrS M M1 → SP n G K M1 → (∀ t, t < s → M1 129 t = bst K n (popc t) t) → WM l w RX5 cX5_weigh 3 none d (fun r M1 => r = none ∧ FrS M M1 ∧ SP n G K M1 ∧ ∀ t, t < 2 ^ n → M1 129 t = bst K n (popc t) t) 9 [some (vR 125), some (vI s), x2] [] M1 := by
    intro q
    induction q with
    | zero =>
      intro s M1 x2 hs h1 hf hS hb
      refine e_iload1 dX5_weigh_9 ?_
      refine e_iconst dX5_weigh_10 rfl kc_1 ?_
      refine e_aload0 dX5_weigh_11 ?_
      refine e_getI fl_X5_24 la_125 rfl dX5_weigh_12 ?_
      refine WW.ec (y := (n : Int)) (hS.1) ?_
      refine e_ishl dX5_weigh_15 ?_
      refine WW.ec (y := ((2 ^ n : Nat) : Int)) (by rw [bShl1 (by omega) (by omega), Int.toNat_natCast]; try simp) ?_
      refine e_icmp_ge (tgt := 87) dX5_weigh_16 (by decide) (fun h16 => ?_) (fun h => absurd h (by omega))
      refine e_vret dX5_weigh_87 ?_
      exact ⟨rfl, hf, hS, fun t ht => hb t (by omega)⟩
    | succ q ih =>
      intro s M1 x2 hs h1 hf hS hb
      have hp := bit_p s (by omega)
      have hp1 := hp.2 (by omega)
      have hS2 : SP n G K (up M1 129 s 0) := hS.up (Or.inr rfl)
      refine e_iload1 dX5_weigh_9 ?_
      refine e_iconst dX5_weigh_10 rfl kc_1 ?_
      refine e_aload0 dX5_weigh_11 ?_
      refine e_getI fl_X5_24 la_125 rfl dX5_weigh_12 ?_
      refine WW.ec (y := (n : Int)) (hS.1) ?_
      refine e_ishl dX5_weigh_15 ?_
      refine WW.ec (y := ((2 ^ n : Nat) : Int)) (by rw [bShl1 (by omega) (by omega), Int.toNat_natCast]; try simp) ?_
      refine e_icmp_ge (tgt := 87) dX5_weigh_16 (by decide) (fun h => absurd h (by omega)) (fun h16 => ?_)
      refine e_iload1 dX5_weigh_19 ?_
      refine e_aload0 dX5_weigh_20 ?_
      refine e_getR fl_X5_21 la_125 rfl dX5_weigh_21 ?_
      refine e_alen la_129 (by decide) (by decide) dX5_weigh_24 ?_
      refine e_icmp_ge (tgt := 87) dX5_weigh_25 (by decide) (fun h => absurd h (by omega)) (fun h25 => ?_)
      refine e_aload0 dX5_weigh_28 ?_
      refine e_getR fl_X5_21 la_125 rfl dX5_weigh_29 ?_
      refine e_iload1 dX5_weigh_32 ?_
      refine e_iconst dX5_weigh_33 rfl kc_0 ?_
      refine e_iast la_129 (⟨by omega, by omega⟩) dX5_weigh_34 ?_
      rw [Int.toNat_natCast]
      refine e_iconst dX5_weigh_35 rfl kc_0 ?_
      refine e_istore2 dX5_weigh_36 rfl ?_
      refine lp_X5_weighIn hd hK hn (f := popc s - 1) (s := s) (by omega) (by omega) (M0 := up M1 129 s 0) (fun M2 hS3 hf3 ho3 hv3 => ?_) n 0 _ (by omega) hS2 (FrS.rf _) (fun t _ => rfl) (fun t ht => by rw [up_k (by omega)]; exact hb t ht) (up_s _ _ _ _)
      refine e_iinc1 dX5_weigh_81 rfl (⟨by omega, by omega⟩) rfl ?_
      refine e_goto (tgt := 9) dX5_weigh_84 (by decide) ?_
      refine ih (s + 1) M2 _ (by omega) (by omega) ((hf.up (by omega)).tr hf3) hS3 (fun t ht => ?_)
      by_cases e : t = s
      · rw [e, hv3, show popc s - 1 + 1 = popc s by omega]
      · rw [ho3 t e, up_k e]; exact hb t (by omega)
  refine MT.of [some (vR 125), none, none] ⟨by decide, rfl⟩ rfl (Nat.le_of_ble_eq_true rfl) (fun hA hM => ?_)
  refine e_aload0 dX5_weigh_0 ?_
  refine e_getR fl_X5_21 la_125 rfl dX5_weigh_1 ?_
  refine e_iconst dX5_weigh_4 rfl kc_0 ?_
  refine e_iconst dX5_weigh_5 rfl kc_1 ?_
  refine e_iast la_129 (⟨by omega, by omega⟩) dX5_weigh_6 ?_
  refine e_iconst dX5_weigh_7 rfl kc_1 ?_
  refine e_istore1 dX5_weigh_8 rfl ?_
  refine loop (2 ^ n - 1) 1 _ none (by have := Nat.one_le_two_pow (n := n); omega) (by omega) ((FrS.rf M).up (by omega)) (hS.up (Or.inr rfl)) (fun t ht => ?_)
  obtain rfl : t = 0 := by omega
  exact up_s _ _ _ _
end SUP2
