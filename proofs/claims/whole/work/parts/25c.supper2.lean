section SUP2c
variable {l : Launch} {w : Wd} {d : Nat} {M : Mem} {Q : Option MV → Mem → Prop} {n : Nat} {G : Nat → Int} {K : Nat → Nat → Int}
theorem ct_X5_choose (hd : 4 ≤ d) (hS : SP n G K M) (hK : okK K) (hn : n ≤ 6) (hn1 : 1 ≤ n) (hb : ∀ t, t < 2 ^ n → M 129 t = bst K n (popc t) t) :
    GV l w yX5_choose cX5_choose 6 d [vR 125] M (fun M1 => FrS M M1 ∧ M1 125 6 = n ∧ ∀ k, k < n → M1 127 k = G ((chs K n (bst K n n (2 ^ n - 1)) n (2 ^ n - 1) 1).getD k 0)) := by
  have h64 := bit_f n hn
  have hpos := Nat.one_le_two_pow (n := n)
  generalize htop : bst K n n (2 ^ n - 1) = top
  have loop : ∀ (f e s : Nat) (q : Int) (M1 : Mem) (x5 : Option MV) (acc : List Nat), e + f = n → s < 2 ^ n → popc s = f → 0 ≤ q ∧ q ≤ 10 ^ e → q * bst K n f s = top → FrS M M1 → SP n G K M1 → M1 129 = M 129 → acc.length = e → (∀ k, k < e → M1 127 k = G (acc.getD k 0)) → (∀ g ∈ acc, g < n) →
      WM l w RX5 cX5_choose 6 none d (fun r M1 => r = none ∧ FrS M M1 ∧ M1 125 6 = n ∧ ∀ k, k < n → M1 127 k = G ((acc ++ chs K n top f s q).getD k 0)) 21 [some (vR 125), some (vI s), some (vI top), some (vI q), some (vI e), x5] [] M1 := by
    intro f
    induction f with
    | zero =>
      intro e s q M1 x5 acc he hs hf hq htp hfr hS1 h129 hlen hrow hall
      obtain rfl : e = n := by omega
      refine e_iload4 dX5_choose_21 ?_
      refine e_aload0 dX5_choose_23 ?_
      refine e_getI fl_X5_24 la_125 rfl dX5_choose_24 ?_
      refine WW.ec (y := (e : Int)) (hS1.1) ?_
      refine e_icmp_ge (tgt := 84) dX5_choose_27 (by decide) (fun h27 => ?_) (fun h => absurd h (by omega))
      refine e_vret dX5_choose_84 ?_
      exact ⟨rfl, hfr, hS1.1, fun k hk => by rw [chs, List.append_nil]; exact hrow k hk⟩
    | succ f ih =>
      intro e s q M1 x5 acc he hs hf hq htp hfr hS1 h129 hlen hrow hall
      have hb1 : ∀ t, t < 2 ^ n → M1 129 t = bst K n (popc t) t := by rw [h129]; exact hb
      have hbits := bit_n n hn s (by omega) hs
      have hex : ∃ g, g < n ∧ s.testBit g = true := pop_ex n hn s hs (by omega)
      obtain ⟨g0, hg0, hb0, e0⟩ := bst_att (f := f) hK hex
      have hsp := fOf_spec (P := chP K n top f s q) n 0 ⟨g0, by omega, by omega, by unfold chP; rw [hb0, e0, htp]; simp⟩
      have hchs : chs K n top (f + 1) s q = fOf (chP K n top f s q) n 0 :: chs K n top f (s - 2 ^ fOf (chP K n top f s q) n 0) (q * K (fOf (chP K n top f s q) n 0) (n - (f + 1))) := rfl
      have hcall := fun d' (h : 3 ≤ d') => ct_X5_firstOf (l := l) (w := w) (d := d') (top := top) h hS1 hK hn hs hf hq (by omega) hb1
      generalize fOf (chP K n top f s q) n 0 = g at hsp hchs hcall
      obtain ⟨hP, -, hgn, -⟩ := hsp
      have hgb : s.testBit g = true ∧ q * (K g (n - (f + 1)) * bst K n f (s - 2 ^ g)) = top := by
        unfold chP at hP
        rw [Bool.and_eq_true] at hP
        exact ⟨hP.1, of_decide_eq_true hP.2⟩
      obtain ⟨d1, d2, d3⟩ := bit_d s (by omega) g (by omega) hgb.1
      have hk := hK g e
      have hne : n - (f + 1) = e := by omega
      rw [hne] at hchs hgb
      have hm1 := mulNN hq.1 hk.1
      have hm2 := mulLE hq.1 hq.2 hk.1 hk.2
      rw [← Int.pow_succ] at hm2
      have hm3 := pow6 (n := e + 1) (by omega)
      rw [hchs]
      refine e_iload4 dX5_choose_21 ?_
      refine e_aload0 dX5_choose_23 ?_
      refine e_getI fl_X5_24 la_125 rfl dX5_choose_24 ?_
      refine WW.ec (y := (n : Int)) (hS1.1) ?_
      refine e_icmp_ge (tgt := 84) dX5_choose_27 (by decide) (fun h => absurd h (by omega)) (fun h27 => ?_)
      refine e_aload0 dX5_choose_30 ?_
      refine e_iload1 dX5_choose_31 ?_
      refine e_iload3 dX5_choose_32 ?_
      refine e_iload2 dX5_choose_33 ?_
      refine e_cVI (hcall (d - 1) (by omega)) cy_X5_firstOf cv_X5_firstOf ml_X5_76 la_125 rfl rfl rfl (rok (by omega) (by decide)) (Nat.le_of_ble_eq_true rfl) dX5_choose_34 ?_
      refine e_istore5 dX5_choose_37 rfl ?_
      refine e_aload0 dX5_choose_39 ?_
      refine e_getR fl_X5_15 la_125 rfl dX5_choose_40 ?_
      refine e_iload4 dX5_choose_43 ?_
      refine e_aload0 dX5_choose_45 ?_
      refine e_getR fl_X5_9 la_125 rfl dX5_choose_46 ?_
      refine e_iload5 dX5_choose_49 ?_
      refine e_iald la_126 (⟨by omega, by omega⟩) dX5_choose_51 ?_
      refine WW.ec (y := G g) (by rw [Int.toNat_natCast]; exact hS1.2.1 g (by omega)) ?_
      refine e_iast la_127 (⟨by omega, by omega⟩) dX5_choose_52 ?_
      rw [Int.toNat_natCast]
      refine e_iload3 dX5_choose_53 ?_
      refine e_aload0 dX5_choose_54 ?_
      refine e_getR fl_X5_18 la_125 rfl dX5_choose_55 ?_
      refine e_iload5 dX5_choose_58 ?_
      refine e_bipush dX5_choose_60 rfl kb_6 ?_
      refine e_imul dX5_choose_62 (⟨by omega, by omega⟩) ?_
      refine e_iload4 dX5_choose_63 ?_
      refine e_iadd dX5_choose_65 (⟨by omega, by omega⟩) ?_
      refine e_iald la_128 (⟨by omega, by omega⟩) dX5_choose_66 ?_
      refine WW.ec (y := K g e) (by rw [up_row (by decide), ← hS1.2.2 g e (by omega) (by omega), show ((g : Int) * 6 + (e : Int)).toNat = g * 6 + e by omega]) ?_
      refine e_imul dX5_choose_67 (⟨by omega, by omega⟩) ?_
      refine e_istore3 dX5_choose_68 rfl ?_
      refine e_iload1 dX5_choose_69 ?_
      refine e_iconst dX5_choose_70 rfl kc_1 ?_
      refine e_iload5 dX5_choose_71 ?_
      refine e_ishl dX5_choose_73 ?_
      refine e_iconst dX5_choose_74 rfl kc_m1 ?_
      refine e_ixor dX5_choose_75 ?_
      refine e_iand dX5_choose_76 ?_
      refine WW.ec (y := ((s - 2 ^ g : Nat) : Int)) (d1) ?_
      refine e_istore1 dX5_choose_77 rfl ?_
      refine e_iinc4 dX5_choose_78 rfl (⟨by omega, by omega⟩) rfl ?_
      refine e_goto (tgt := 21) dX5_choose_81 (by decide) ?_
      refine ww_q ?_ (ih (e + 1) (s - 2 ^ g) (q * K g e) _ _ (acc ++ [g]) (by omega) (by omega) (by omega) ⟨hm1, hm2⟩ (by rw [Int.mul_assoc]; exact hgb.2) (hfr.up (by omega)) (hS1.up (Or.inl rfl)) (by rw [up_row (by decide)]; exact h129) (by simp [hlen]) (fun k hk => ?_) (fun x hx => ?_))
      · intro r M9 hq9
        rw [List.append_assoc] at hq9
        exact hq9
      · by_cases e9 : k = e
        · subst e9
          rw [up_s, List.getD_eq_getElem?_getD, List.getElem?_append_right (by omega), hlen]
          try simp
        · rw [up_k e9, hrow k (by omega), List.getD_eq_getElem?_getD, List.getD_eq_getElem?_getD, List.getElem?_append_left (by omega)]
      · rcases List.mem_append.mp hx with h | h
        · exact hall x h
        · rw [List.mem_singleton.mp h]; omega
  refine MT.of [some (vR 125), none, none, none, none, none] ⟨by decide, rfl⟩ rfl (Nat.le_of_ble_eq_true rfl) (fun hA hM => ?_)
  refine e_iconst dX5_choose_0 rfl kc_1 ?_
  refine e_aload0 dX5_choose_1 ?_
  refine e_getI fl_X5_24 la_125 rfl dX5_choose_2 ?_
  refine WW.ec (y := (n : Int)) (hS.1) ?_
  refine e_ishl dX5_choose_5 ?_
  refine WW.ec (y := ((2 ^ n : Nat) : Int)) (by rw [bShl1 (by omega) (by omega), Int.toNat_natCast]; try simp) ?_
  refine e_iconst dX5_choose_6 rfl kc_1 ?_
  refine e_isub dX5_choose_7 (⟨by omega, by omega⟩) ?_
  refine WW.ec (y := ((2 ^ n - 1 : Nat) : Int)) (by omega) ?_
  refine e_istore1 dX5_choose_8 rfl ?_
  refine e_aload0 dX5_choose_9 ?_
  refine e_getR fl_X5_21 la_125 rfl dX5_choose_10 ?_
  refine e_iload1 dX5_choose_13 ?_
  refine e_iald la_129 (⟨by omega, by omega⟩) dX5_choose_14 ?_
  refine WW.ec (y := top) (by rw [Int.toNat_natCast, hb _ (by omega), h64.1]; exact htop) ?_
  refine e_istore2 dX5_choose_15 rfl ?_
  refine e_iconst dX5_choose_16 rfl kc_1 ?_
  refine e_istore3 dX5_choose_17 rfl ?_
  refine e_iconst dX5_choose_18 rfl kc_0 ?_
  refine e_istore4 dX5_choose_19 rfl ?_
  exact loop n 0 (2 ^ n - 1) 1 M none [] (by omega) (by omega) h64.1 ⟨by decide, by decide⟩ (by rw [Int.one_mul]; exact htop) (FrS.rf M) hS rfl rfl (fun k hk => absurd hk (by omega)) (fun g hg => by cases hg)
end SUP2c
