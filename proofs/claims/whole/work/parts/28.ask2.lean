def oddsR (N : Mem) (c i b x : Int) : Prop := (hasW N c ∧ N 10 c.toNat ≤ i ∧ i < N 7 c.toNat ∧ x = (if b = 0 then oU (wO N c.toNat (N 10 c.toNat).toNat) ((i - N 10 c.toNat).toNat + 1) else oL (wO N c.toNat (N 10 c.toNat).toNat) ((i - N 10 c.toNat).toNat + 1)) / (Nat.gcd (oU (wO N c.toNat (N 10 c.toNat).toNat) ((i - N 10 c.toNat).toNat + 1)).toNat (oL (wO N c.toNat (N 10 c.toNat).toNat) ((i - N 10 c.toNat).toNat + 1)).toNat : Nat)) ∨ (¬ (hasW N c ∧ N 10 c.toNat ≤ i ∧ i < N 7 c.toNat) ∧ x = -1)
def blameR (N : Mem) (c h b x : Int) : Prop := (hasW N c ∧ isH N h ∧ bL (wO N c.toNat (N 10 c.toNat).toNat) ((N 7 c.toNat).toNat - (N 10 c.toNat).toNat) ≠ 0 ∧ x = (if b = 0 then bU (wO N c.toNat (N 10 c.toNat).toNat) (wH N c.toNat (N 10 c.toNat).toNat) h ((N 7 c.toNat).toNat - (N 10 c.toNat).toNat) else bL (wO N c.toNat (N 10 c.toNat).toNat) ((N 7 c.toNat).toNat - (N 10 c.toNat).toNat)) / (Nat.gcd (bU (wO N c.toNat (N 10 c.toNat).toNat) (wH N c.toNat (N 10 c.toNat).toNat) h ((N 7 c.toNat).toNat - (N 10 c.toNat).toNat)).toNat (bL (wO N c.toNat (N 10 c.toNat).toNat) ((N 7 c.toNat).toNat - (N 10 c.toNat).toNat)).toNat : Nat)) ∨
  (¬ (hasW N c ∧ isH N h ∧ bL (wO N c.toNat (N 10 c.toNat).toNat) ((N 7 c.toNat).toNat - (N 10 c.toNat).toNat) ≠ 0) ∧ x = -1)
def supperR (N : Mem) (s th i x : Int) : Prop := (0 ≤ s ∧ s < 2 ^ (N 1 0).toNat ∧ 1 ≤ popc s.toNat ∧ popc s.toNat ≤ 6 ∧ 1 ≤ th ∧ th ≤ 9 ∧ 0 ≤ i ∧ i < popc s.toNat ∧ x = seatV N s.toNat th i.toNat) ∨ (¬ (0 ≤ s ∧ s < 2 ^ (N 1 0).toNat ∧ 1 ≤ popc s.toNat ∧ popc s.toNat ≤ 6 ∧ 1 ≤ th ∧ th ≤ 9 ∧ 0 ≤ i ∧ i < popc s.toNat) ∧ x = -1)
def marriedR (N : Mem) (c x : Int) : Prop := ((c = -1 ∨ isC N c) ∧ (1 ≤ N 1 5 ∧ N 1 5 % 2 = 0 ∧ 1 ≤ N 1 0) ∧ ∃ b0 : List Int, x = if c = -1 then ((mar (mins N) (N 1 5).toNat 7 (List.replicate (N 1 5).toNat (-1)) 0 0).foldl bstep (-1, b0)).1 else ((mar (mins N) (N 1 5).toNat 7 (List.replicate (N 1 5).toNat (-1)) 0 0).foldl bstep (-1, b0)).2.getD c.toNat 0) ∨ (¬ ((c = -1 ∨ isC N c) ∧ (1 ≤ N 1 5 ∧ N 1 5 % 2 = 0 ∧ 1 ≤ N 1 0)) ∧ x = -1)
/-- the best of the sets from 1 to n: the set and its worth -/
def clubF (N : Mem) (k : Int) : Nat → Int × Int
  | 0 => (-1, -1)
  | n + 1 => if (clubF N k n).2 < (if (popc n : Int) = k ∧ 1 ≤ n then wall N n (N 1 5).toNat else -1) then ((n : Int), wall N n (N 1 5).toNat) else clubF N k n
def clubV (N : Mem) (k : Int) : Int := if 1 ≤ k ∧ k ≤ N 1 0 then (clubF N k (2 ^ (N 1 0).toNat)).1 else -1
def turnV (N : Mem) (p f : Int) : Int := if f < cntH N p (N 1 0).toNat then (if p < 99 then 1 else 0) else if cntH N p (N 1 0).toNat < f ∧ 0 < p then -1 else 0
def setl (N : Mem) (f k : Int) : Nat → Int → Int → Int → Int
  | 0, _, _, _ => -2
  | n + 1, p, last, r => if turnV N p f = 0 then (if k = 0 then r else p) else if last ≠ 0 ∧ turnV N p f ≠ last then -2 else setl N f k n (p + turnV N p f) (turnV N p f) (r + 1)
def settlesV (N : Mem) (c p k : Int) : Int := if isC N c ∧ 0 ≤ p ∧ p ≤ 99 ∧ 0 ≤ k ∧ k ≤ 1 then setl N (cntF N c 12) k 100 p 0 0 else -1
theorem turnV_c (N : Mem) (p f : Int) : turnV N p f = 0 ∨ (turnV N p f = 1 ∧ p < 99) ∨ (turnV N p f = -1 ∧ 0 < p) := by
  unfold turnV
  split
  · split
    · right; left; exact ⟨rfl, by assumption⟩
    · left; rfl
  · split
    · right; right; exact ⟨rfl, by omega⟩
    · left; rfl
section ASK2
variable {l : Launch} {w : Wd} {d : Nat} {M : Mem} {Q : Option MV → Mem → Prop}
theorem ct_X8_odds (hd : 7 ≤ d) (hL : LW M) (hO : OWN M) {c i b : Int} : GL l w yX8_odds cX8_odds 4 d [vR 0, vI c, vI i, vI b] M (fun x M1 => oddsR M c i b x ∧ FrS M M1) := by
  refine MT.of [some (vR 0), some (vI c), some (vI i), some (vI b)] ⟨by decide, rfl⟩ rfl (Nat.le_of_ble_eq_true rfl) (fun hA hM => ?_)
  refine e_aload0 dX8_odds_0 ?_
  refine e_getR fl_X8_56 la_0 rfl dX8_odds_1 ?_
  refine e_iload1 dX8_odds_4 ?_
  refine e_cVGI (ct_X6_plan (d := d - 1) (by omega) hL hO) cy_X6_plan cv_X6_plan ml_X8_235 la_122 rfl rfl rfl (rok (by omega) (by decide)) (Nat.le_of_ble_eq_true rfl) dX8_odds_5 (fun x M1 hq => ?_)
  rcases hq with ⟨rfl, hw, nx, ln, e1, e2, hW⟩ | ⟨rfl, hw, hf⟩
  · obtain ⟨c, rfl⟩ : ∃ n : Nat, c = n := ⟨c.toNat, by have := hw.1; omega⟩
    have hlen := hL.1.len hw.1
    rw [e2] at hlen
    rw [Int.toNat_natCast] at hW
    by_cases hi : (nx : Int) ≤ i ∧ i < (ln : Int)
    · obtain ⟨m, hm⟩ : ∃ m : Nat, i = ((nx + m : Nat) : Int) := ⟨(i - nx).toNat, by omega⟩
      have hmm : (i - M 10 (c : Int).toNat).toNat = m := by rw [e1]; omega
      refine e_if_eq (tgt := 33) dX8_odds_8 (by decide) (fun h => absurd h (by decide)) (fun _ => ?_)
      refine e_iload2 dX8_odds_11 ?_
      refine e_aload0 dX8_odds_12 ?_
      refine e_getR fl_X8_56 la_0 rfl dX8_odds_13 ?_
      refine e_getI fl_X8_241 la_122 rfl dX8_odds_16 ?_
      refine WW.ec (y := (nx : Int)) (hW.2.1.2.1) ?_
      refine e_icmp_lt (tgt := 33) dX8_odds_19 (by decide) (fun h => absurd h (by omega)) (fun h19 => ?_)
      refine e_iload2 dX8_odds_22 ?_
      refine e_aload0 dX8_odds_23 ?_
      refine e_getR fl_X8_56 la_0 rfl dX8_odds_24 ?_
      refine e_getI fl_X8_244 la_122 rfl dX8_odds_27 ?_
      refine WW.ec (y := (ln : Int)) (hW.2.1.2.2) ?_
      refine e_icmp_lt (tgt := 37) dX8_odds_30 (by decide) (fun h30 => ?_) (fun h => absurd h (by omega))
      refine WW.cv (L' := [some (vR 0), some (vI c), some (vI ((nx + m : Nat) : Int)), some (vI b)]) (by rw [hm]) rfl rfl ?_
      refine e_aload0 dX8_odds_37 ?_
      refine e_getR fl_X8_56 la_0 rfl dX8_odds_38 ?_
      refine e_iload2 dX8_odds_41 ?_
      refine e_cVGV (ct_X6_reckonOdds (d := d - 1) (by omega) (by omega) hW (by omega)) cy_X6_reckonOdds cv_X6_reckonOdds ml_X8_249 la_122 rfl rfl rfl (rok (by omega) (by decide)) (Nat.le_of_ble_eq_true rfl) dX8_odds_42 (fun M2 hq => ?_)
      refine e_iload3 dX8_odds_45 ?_
      refine e_if_eq (tgt := 59) dX8_odds_46 (by decide) (fun h46 => ?_) (fun h46 => ?_)
      · refine e_aload0 dX8_odds_59 ?_
        refine e_getR fl_X8_56 la_0 rfl dX8_odds_60 ?_
        refine e_getL fl_X8_256 la_122 rfl dX8_odds_63 ?_
        refine e_lret dX8_odds_66 ?_
        refine ⟨_, rfl, Or.inl ⟨hw, by rw [e1]; exact hi.1, by rw [e2]; exact hi.2, ?_⟩, hq.1⟩
        rw [hmm, Int.toNat_natCast, show (M 10 c).toNat = nx by rw [Int.toNat_natCast] at e1; omega]
        by_cases hb : b = 0
        · rw [if_pos hb]; first | exact hq.2.1 | (exfalso; omega)
        · rw [if_neg hb]; first | exact hq.2.2 | (exfalso; omega)
      · refine e_aload0 dX8_odds_49 ?_
        refine e_getR fl_X8_56 la_0 rfl dX8_odds_50 ?_
        refine e_getL fl_X8_252 la_122 rfl dX8_odds_53 ?_
        refine e_goto (tgt := 66) dX8_odds_56 (by decide) ?_
        refine e_lret dX8_odds_66 ?_
        refine ⟨_, rfl, Or.inl ⟨hw, by rw [e1]; exact hi.1, by rw [e2]; exact hi.2, ?_⟩, hq.1⟩
        rw [hmm, Int.toNat_natCast, show (M 10 c).toNat = nx by rw [Int.toNat_natCast] at e1; omega]
        by_cases hb : b = 0
        · rw [if_pos hb]; first | exact hq.2.1 | (exfalso; omega)
        · rw [if_neg hb]; first | exact hq.2.2 | (exfalso; omega)
    · refine e_if_eq (tgt := 33) dX8_odds_8 (by decide) (fun h => absurd h (by decide)) (fun _ => ?_)
      refine e_iload2 dX8_odds_11 ?_
      refine e_aload0 dX8_odds_12 ?_
      refine e_getR fl_X8_56 la_0 rfl dX8_odds_13 ?_
      refine e_getI fl_X8_241 la_122 rfl dX8_odds_16 ?_
      refine WW.ec (y := (nx : Int)) (hW.2.1.2.1) ?_
      refine e_icmp_lt (tgt := 33) dX8_odds_19 (by decide) (fun h19 => ?_) (fun h19 => ?_)
      · refine e_ldc2 dX8_odds_33 kl_X8_247 ⟨by decide, by decide⟩ ?_
        refine e_lret dX8_odds_36 ?_
        exact ⟨_, rfl, Or.inr ⟨fun z => hi (by rw [e1, e2] at z; exact z.2), rfl⟩, hW.1⟩
      · refine e_iload2 dX8_odds_22 ?_
        refine e_aload0 dX8_odds_23 ?_
        refine e_getR fl_X8_56 la_0 rfl dX8_odds_24 ?_
        refine e_getI fl_X8_244 la_122 rfl dX8_odds_27 ?_
        refine WW.ec (y := (ln : Int)) (hW.2.1.2.2) ?_
        refine e_icmp_lt (tgt := 37) dX8_odds_30 (by decide) (fun h30 => ?_) (fun h30 => ?_)
        · exact absurd ⟨by omega, by omega⟩ hi
        · refine e_ldc2 dX8_odds_33 kl_X8_247 ⟨by decide, by decide⟩ ?_
          refine e_lret dX8_odds_36 ?_
          exact ⟨_, rfl, Or.inr ⟨fun z => hi (by rw [e1, e2] at z; exact z.2), rfl⟩, hW.1⟩
  · refine e_if_eq (tgt := 33) dX8_odds_8 (by decide) (fun _ => ?_) (fun h => absurd h (by decide))
    refine e_ldc2 dX8_odds_33 kl_X8_247 ⟨by decide, by decide⟩ ?_
    refine e_lret dX8_odds_36 ?_
    exact ⟨_, rfl, Or.inr ⟨fun z => hw z.1, rfl⟩, hf⟩
theorem ct_X8_blame (hd : 7 ≤ d) (hL : LW M) (hO : OWN M) {c h b : Int} : GL l w yX8_blame cX8_blame 4 d [vR 0, vI c, vI h, vI b] M (fun x M1 => blameR M c h b x ∧ FrS M M1) := by
  by_cases hh : isH M h
  · refine MT.of [some (vR 0), some (vI c), some (vI h), some (vI b)] ⟨by decide, rfl⟩ rfl (Nat.le_of_ble_eq_true rfl) (fun hA hM => ?_)
    refine e_aload0 dX8_blame_0 ?_
    refine e_getR fl_X8_12 la_0 rfl dX8_blame_1 ?_
    refine e_iload2 dX8_blame_4 ?_
    refine e_cVZ (ct_X0_isHouse (d := d - 1) (by omega)) cy_X0_isHouse cv_X0_isHouse ml_X8_86 la_1 rfl rfl rfl (rok (by omega) (by decide)) (Nat.le_of_ble_eq_true rfl) dX8_blame_5 (fun g5 => ?_) (fun g5 => ?_)
    · refine e_if_eq (tgt := 33) dX8_blame_8 (by decide) (fun h => absurd h (by decide)) (fun _ => ?_)
      refine e_aload0 dX8_blame_11 ?_
      refine e_getR fl_X8_56 la_0 rfl dX8_blame_12 ?_
      refine e_iload1 dX8_blame_15 ?_
      refine e_cVGI (ct_X6_plan (d := d - 1) (by omega) hL hO) cy_X6_plan cv_X6_plan ml_X8_235 la_122 rfl rfl rfl (rok (by omega) (by decide)) (Nat.le_of_ble_eq_true rfl) dX8_blame_16 (fun x M1 hq => ?_)
      rcases hq with ⟨rfl, hw, nx, ln, e1, e2, hW⟩ | ⟨rfl, hw, hf⟩
      · obtain ⟨c, rfl⟩ : ∃ n : Nat, c = n := ⟨c.toNat, by have := hw.1; omega⟩
        have hlen := hL.1.len hw.1
        rw [e2] at hlen
        rw [Int.toNat_natCast] at hW e1 e2
        have hR : ∀ x, blameR M c h b x = ((hasW M c ∧ isH M h ∧ bL (wO M c nx) (ln - nx) ≠ 0 ∧ x = (if b = 0 then bU (wO M c nx) (wH M c nx) h (ln - nx) else bL (wO M c nx) (ln - nx)) / (Nat.gcd (bU (wO M c nx) (wH M c nx) h (ln - nx)).toNat (bL (wO M c nx) (ln - nx)).toNat : Nat)) ∨ (¬ (hasW M c ∧ isH M h ∧ bL (wO M c nx) (ln - nx) ≠ 0) ∧ x = -1)) := by
          intro x
          unfold blameR
          rw [Int.toNat_natCast, e1, e2, Int.toNat_natCast, Int.toNat_natCast]
        refine e_if_eq (tgt := 33) dX8_blame_19 (by decide) (fun h => absurd h (by decide)) (fun _ => ?_)
        refine e_aload0 dX8_blame_22 ?_
        refine e_getR fl_X8_56 la_0 rfl dX8_blame_23 ?_
        refine e_iload2 dX8_blame_26 ?_
        refine e_cVGI (ct_X6_reckonBlame (d := d - 1) (by omega) (by omega) hW) cy_X6_reckonBlame cv_X6_reckonBlame ml_X8_259 la_122 rfl rfl rfl (rok (by omega) (by decide)) (Nat.le_of_ble_eq_true rfl) dX8_blame_27 (fun x M2 hq => ?_)
        obtain ⟨hf, ⟨rfl, hz⟩ | ⟨rfl, hz, hu, hlw⟩⟩ := hq
        · refine e_if_ne (tgt := 37) dX8_blame_30 (by decide) (fun q => absurd rfl q) (fun _ => ?_)
          refine e_ldc2 dX8_blame_33 kl_X8_247 ⟨by decide, by decide⟩ ?_
          refine e_lret dX8_blame_36 ⟨_, rfl, ?_, hf⟩
          rw [hR]; exact Or.inr ⟨fun z => z.2.2 hz, rfl⟩
        · refine e_if_ne (tgt := 37) dX8_blame_30 (by decide) (fun _ => ?_) (fun q => absurd q (by decide))
          by_cases hb : b = 0
          · refine e_iload3 dX8_blame_37 ?_
            refine e_if_eq (tgt := 51) dX8_blame_38 (by decide) (fun _ => ?_) (fun q => absurd hb q)
            refine e_aload0 dX8_blame_51 ?_
            refine e_getR fl_X8_56 la_0 rfl dX8_blame_52 ?_
            refine e_getL fl_X8_256 la_122 rfl dX8_blame_55 ?_
            refine e_lret dX8_blame_58 ⟨_, rfl, ?_, hf⟩
            rw [hR, if_pos hb]; exact Or.inl ⟨hw, hh, hz, hu⟩
          · refine e_iload3 dX8_blame_37 ?_
            refine e_if_eq (tgt := 51) dX8_blame_38 (by decide) (fun q => absurd q hb) (fun _ => ?_)
            refine e_aload0 dX8_blame_41 ?_
            refine e_getR fl_X8_56 la_0 rfl dX8_blame_42 ?_
            refine e_getL fl_X8_252 la_122 rfl dX8_blame_45 ?_
            refine e_goto (tgt := 58) dX8_blame_48 (by decide) ?_
            refine e_lret dX8_blame_58 ⟨_, rfl, ?_, hf⟩
            rw [hR, if_neg hb]; exact Or.inl ⟨hw, hh, hz, hlw⟩
      · refine e_if_eq (tgt := 33) dX8_blame_19 (by decide) (fun _ => ?_) (fun h => absurd h (by decide))
        refine e_ldc2 dX8_blame_33 kl_X8_247 ⟨by decide, by decide⟩ ?_
        refine e_lret dX8_blame_36 ?_
        exact ⟨_, rfl, Or.inr ⟨fun z => hw z.1, rfl⟩, hf⟩
    · refine e_if_eq (tgt := 33) dX8_blame_8 (by decide) (fun _ => ?_) (fun h => absurd h (by decide))
      refine e_ldc2 dX8_blame_33 kl_X8_247 ⟨by decide, by decide⟩ ?_
      refine e_lret dX8_blame_36 ?_
      exact absurd hh g5
  · refine MT.of [some (vR 0), some (vI c), some (vI h), some (vI b)] ⟨by decide, rfl⟩ rfl (Nat.le_of_ble_eq_true rfl) (fun hA hM => ?_)
    refine e_aload0 dX8_blame_0 ?_
    refine e_getR fl_X8_12 la_0 rfl dX8_blame_1 ?_
    refine e_iload2 dX8_blame_4 ?_
    refine e_cVZ (ct_X0_isHouse (d := d - 1) (by omega)) cy_X0_isHouse cv_X0_isHouse ml_X8_86 la_1 rfl rfl rfl (rok (by omega) (by decide)) (Nat.le_of_ble_eq_true rfl) dX8_blame_5 (fun g5 => ?_) (fun g5 => ?_)
    · refine e_if_eq (tgt := 33) dX8_blame_8 (by decide) (fun h => absurd h (by decide)) (fun _ => ?_)
      exact absurd g5 hh
    · refine e_if_eq (tgt := 33) dX8_blame_8 (by decide) (fun _ => ?_) (fun h => absurd h (by decide))
      refine e_ldc2 dX8_blame_33 kl_X8_247 ⟨by decide, by decide⟩ ?_
      refine e_lret dX8_blame_36 ?_
      exact ⟨_, rfl, Or.inr ⟨fun z => hh z.2.1, rfl⟩, FrS.rf M⟩
end ASK2
