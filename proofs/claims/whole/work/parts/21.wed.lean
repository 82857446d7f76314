/-! WEDDINGS (object 130: bestMost 5; rows minutes 131, partner 132, bestPartner 133) -/
def mSum (M : Mem) (c : Int) (a : Nat) : Nat → Int
  | 0 => 0
  | n + 1 => mSum M c a n + tellV M 1 0 c ((a + n : Nat) : Int)
theorem mSum_b (M : Mem) (c : Int) (a : Nat) : ∀ n : Nat, 0 ≤ mSum M c a n ∧ mSum M c a n ≤ 99 * n
  | 0 => ⟨Int.le_refl _, Int.le_refl _⟩
  | n + 1 => by
    have h1 := mSum_b M c a n
    have h2 := (tellV_b M 1 0 c ((a + n : Nat) : Int)).1
    unfold mSum
    omega
def mins (M : Mem) (c : Nat) : Int := mSum M c (M 10 c).toNat (M 7 c - M 10 c).toNat
def oneF (p : List Int) (n : Nat) : Nat → Nat → Nat
  | 0, i => i
  | f + 1, i => if i < n ∧ p.getD i 0 ≠ -1 then oneF p n f (i + 1) else i
def mar (m : Nat → Int) (n : Nat) : Nat → List Int → Nat → Int → List (List Int × Int)
  | 0, _, _, _ => []
  | f + 1, p, first, most => if n ≤ oneF p n (n - first) first then [(p, most)] else
      (List.range' (oneF p n (n - first) first + 1) (n - (oneF p n (n - first) first + 1))).flatMap (fun other => if p.getD other 0 = -1 then mar m n f ((p.set (oneF p n (n - first) first) (other : Int)).set other (oneF p n (n - first) first : Int)) (oneF p n (n - first) first + 1) (max most (m (oneF p n (n - first) first) + m other)) else [])
def bstep (b : Int × List Int) (q : List Int × Int) : Int × List Int := if b.1 ≠ -1 ∧ b.1 ≤ q.2 then b else (q.2, q.1)
def bOf (M : Mem) (n : Nat) : Int × List Int := (M 130 5, seg (M 133) 0 n)
theorem oneF_ge (p : List Int) (n : Nat) : ∀ f i, i ≤ oneF p n f i
  | 0, i => Nat.le_refl _
  | f + 1, i => by
    unfold oneF
    split
    · exact Nat.le_trans (Nat.le_succ i) (oneF_ge p n f (i + 1))
    · exact Nat.le_refl _
theorem oneF_le (p : List Int) (n : Nat) : ∀ f i, i ≤ n → oneF p n f i ≤ n
  | 0, i, h => h
  | f + 1, i, h => by
    unfold oneF
    split
    · exact oneF_le p n f (i + 1) (by omega)
    · exact h
theorem seg_get (f : Nat → Int) : ∀ (n a k : Nat), k < n → (seg f a n).getD k 0 = f (a + k)
  | 0, _, _, h => absurd h (by omega)
  | n + 1, a, 0, _ => rfl
  | n + 1, a, k + 1, h => by
    show (seg f (a + 1) n).getD k 0 = _
    rw [seg_get f n (a + 1) k (by omega), show a + 1 + k = a + (k + 1) by omega]
theorem seg_set {f : Nat → Int} {k : Nat} {v : Int} : ∀ (n a : Nat), a ≤ k → k < a + n → seg (fun i => if i = k then v else f i) a n = (seg f a n).set (k - a) v
  | 0, a, h1, h2 => absurd h2 (by omega)
  | n + 1, a, h1, h2 => by
    by_cases e : a = k
    · subst e
      show (if a = a then v else f a) :: seg _ (a + 1) n = (f a :: seg f (a + 1) n).set (a - a) v
      rw [if_pos rfl, Nat.sub_self, List.set_cons_zero]
      congr 1
      exact seg_congr n (a + 1) (fun i h3 h4 => if_neg (by omega))
    · show (if a = k then v else f a) :: seg _ (a + 1) n = (f a :: seg f (a + 1) n).set (k - a) v
      rw [if_neg e, show k - a = (k - (a + 1)) + 1 by omega, List.set_cons_succ]
      congr 1
      exact seg_set n (a + 1) (by omega) (by omega)
theorem seg_up {M : Mem} {o k n : Nat} {v : Int} (hk : k < n) : seg (up M o k v o) 0 n = (seg (M o) 0 n).set k v := by
  have e : up M o k v o = fun i => if i = k then v else M o i := by
    funext i
    by_cases h : i = k
    · subst h; simp [up]
    · simp [up, h]
  rw [e, seg_set n 0 (by omega) (by omega), Nat.sub_zero]
theorem mSum_frs {M M1 : Mem} (h : FrS M M1) (ht : M 1 15 ≤ 4) (c : Int) (a : Nat) : ∀ n, mSum M1 c a n = mSum M c a n
  | 0 => rfl
  | n + 1 => by unfold mSum; rw [mSum_frs h ht c a n, tellV_frs h ht]
section WED
variable {l : Launch} {w : Wd} {d : Nat} {M : Mem} {Q : Option MV → Mem → Prop}
theorem ct_X7_minutesLeft (hd : 6 ≤ d) (hL : LW M) (hO : OWN M) (hh : 1 ≤ M 1 0) {c : Nat} (hc : isC M c) : GI l w yX7_minutesLeft cX7_minutesLeft 4 .int d [vR 130, vI c] M (fun x M1 => x = mins M c ∧ Fr2 M M1) := by
  have hlen := hL.1.len hc
  have hnx0 := hO.2 _ hc
  have hb := hL.1.2.1
  rw [Int.toNat_natCast] at hlen hnx0
  obtain ⟨nx, hnx⟩ : ∃ n : Nat, M 10 c = n := ⟨(M 10 c).toNat, by omega⟩
  obtain ⟨ln, hln⟩ : ∃ n : Nat, M 7 c = n := ⟨(M 7 c).toNat, by omega⟩
  have loop : ∀ (q n : Nat) (M1 : Mem), n + q = ln - nx → Fr2 M M1 → WM l w RX7 cX7_minutesLeft 4 (some .int) d (fun r M' => ∃ x, r = some (vI x) ∧ x = mins M c ∧ Fr2 M M') 12 [some (vR 130), some (vI c), some (vI (mSum M c nx n)), some (vI ((nx + n : Nat) : Int))] [] M1 := by
    intro q
    induction q with
    | zero =>
      intro n M1 hn hf
      have hz : mSum M c nx n = mins M c := by unfold mins; rw [hnx, hln]; congr 1; omega
      refine e_iload3 dX7_minutesLeft_12 ?_
      refine e_aload0 dX7_minutesLeft_13 ?_
      refine e_getR fl_X7_25 la_130 rfl dX7_minutesLeft_14 ?_
      refine e_getR fl_X7_56 la_1 rfl dX7_minutesLeft_17 ?_
      refine e_iload1 dX7_minutesLeft_20 ?_
      refine e_iald la_7 (⟨by omega, by omega⟩) dX7_minutesLeft_21 ?_
      refine WW.ec (y := (ln : Int)) (by rw [hf 7 (by decide) (by decide), Int.toNat_natCast]; exact hln) ?_
      refine e_icmp_ge (tgt := 45) dX7_minutesLeft_22 (by decide) (fun h22 => ?_) (fun h => absurd h (by omega))
      refine e_iload2 dX7_minutesLeft_45 ?_
      refine e_iret dX7_minutesLeft_46 ?_
      exact ⟨_, rfl, hz, hf⟩
    | succ q ih =>
      intro n M1 hn hf
      have hbs := mSum_b M c nx n
      have hbt := (tellV_b M 1 0 c ((nx + n : Nat) : Int)).1
      refine e_iload3 dX7_minutesLeft_12 ?_
      refine e_aload0 dX7_minutesLeft_13 ?_
      refine e_getR fl_X7_25 la_130 rfl dX7_minutesLeft_14 ?_
      refine e_getR fl_X7_56 la_1 rfl dX7_minutesLeft_17 ?_
      refine e_iload1 dX7_minutesLeft_20 ?_
      refine e_iald la_7 (⟨by omega, by omega⟩) dX7_minutesLeft_21 ?_
      refine WW.ec (y := (ln : Int)) (by rw [hf 7 (by decide) (by decide), Int.toNat_natCast]; exact hln) ?_
      refine e_icmp_ge (tgt := 45) dX7_minutesLeft_22 (by decide) (fun h => absurd h (by omega)) (fun h22 => ?_)
      refine e_iload2 dX7_minutesLeft_25 ?_
      refine e_aload0 dX7_minutesLeft_26 ?_
      refine e_getR fl_X7_29 la_130 rfl dX7_minutesLeft_27 ?_
      refine e_iconst dX7_minutesLeft_30 rfl kc_1 ?_
      refine e_iconst dX7_minutesLeft_31 rfl kc_0 ?_
      refine e_iload1 dX7_minutesLeft_32 ?_
      refine e_iload3 dX7_minutesLeft_33 ?_
      refine e_cVGI (ct_X1_tell (d := d - 1) (by omega) (hL.fr hf) (by omega) (by rw [isH_frs hf.frs]; exact ⟨by omega, by omega⟩) (by rw [isIn_frs hf.frs]; exact ⟨hc, by omega, by rw [Int.toNat_natCast, hln]; omega⟩)) cy_X1_tell cv_X1_tell ml_X7_59 la_119 rfl rfl rfl (rok (by omega) (by decide)) (Nat.le_of_ble_eq_true rfl) dX7_minutesLeft_34 (fun x M2 hq => ?_)
      rw [tellV_fr hf hL.2.2.2.1] at hq
      rw [hq.1]
      refine e_iadd dX7_minutesLeft_37 (⟨by omega, by omega⟩) ?_
      refine e_istore2 dX7_minutesLeft_38 rfl ?_
      refine e_iinc3 dX7_minutesLeft_39 rfl (⟨by omega, by omega⟩) rfl ?_
      refine e_goto (tgt := 12) dX7_minutesLeft_42 (by decide) ?_
      exact ih (n + 1) M2 (by omega) (hf.tr hq.2)
  refine MT.of [some (vR 130), some (vI c), none, none] ⟨by decide, rfl⟩ rfl (Nat.le_of_ble_eq_true rfl) (fun hA hM => ?_)
  refine e_iconst dX7_minutesLeft_0 rfl kc_0 ?_
  refine e_istore2 dX7_minutesLeft_1 rfl ?_
  refine e_aload0 dX7_minutesLeft_2 ?_
  refine e_getR fl_X7_25 la_130 rfl dX7_minutesLeft_3 ?_
  refine e_getR fl_X7_53 la_1 rfl dX7_minutesLeft_6 ?_
  refine e_iload1 dX7_minutesLeft_9 ?_
  refine e_iald la_10 (⟨by omega, by omega⟩) dX7_minutesLeft_10 ?_
  refine WW.ec (y := (nx : Int)) (by rw [Int.toNat_natCast]; exact hnx) ?_
  refine e_istore3 dX7_minutesLeft_11 rfl ?_
  exact loop (ln - nx) 0 M (by omega) (Fr2.rf M)
theorem ct_X7_keepIfBetter (hd : 1 ≤ d) {n : Nat} (hn : n ≤ 6) (hcd : M 1 5 = n) {v : Int} : PV l w yX7_keepIfBetter cX7_keepIfBetter 3 d [vR 130, vI v] M (if M 130 5 ≠ -1 ∧ M 130 5 ≤ v then M else cpy (up M 130 5 v) 132 133 n) := by
  have loop : ∀ (q i : Nat) (B : Mem), B 1 5 = n → i + q = n → WM l w RX7 cX7_keepIfBetter 3 none d (fun r M' => M' = cpy B 132 133 n ∧ r = none) 24 [some (vR 130), some (vI v), some (vI i)] [] (cpy B 132 133 i) := by
    intro q
    induction q with
    | zero =>
      intro i B hB hi
      obtain rfl : i = n := by omega
      refine e_iload2 dX7_keepIfBetter_24 ?_
      refine e_aload0 dX7_keepIfBetter_25 ?_
      refine e_getR fl_X7_25 la_130 rfl dX7_keepIfBetter_26 ?_
      refine e_getI fl_X7_39 la_1 rfl dX7_keepIfBetter_29 ?_
      refine WW.ec (y := (i : Int)) (by simp [cpy, hB]) ?_
      refine e_icmp_ge (tgt := 53) dX7_keepIfBetter_32 (by decide) (fun h32 => ?_) (fun h => absurd h (by omega))
      refine e_vret dX7_keepIfBetter_53 ?_
      exact ⟨rfl, rfl⟩
    | succ q ih =>
      intro i B hB hi
      refine e_iload2 dX7_keepIfBetter_24 ?_
      refine e_aload0 dX7_keepIfBetter_25 ?_
      refine e_getR fl_X7_25 la_130 rfl dX7_keepIfBetter_26 ?_
      refine e_getI fl_X7_39 la_1 rfl dX7_keepIfBetter_29 ?_
      refine WW.ec (y := (n : Int)) (by simp [cpy, hB]) ?_
      refine e_icmp_ge (tgt := 53) dX7_keepIfBetter_32 (by decide) (fun h => absurd h (by omega)) (fun h32 => ?_)
      refine e_aload0 dX7_keepIfBetter_35 ?_
      refine e_getR fl_X7_18 la_130 rfl dX7_keepIfBetter_36 ?_
      refine e_iload2 dX7_keepIfBetter_39 ?_
      refine e_aload0 dX7_keepIfBetter_40 ?_
      refine e_getR fl_X7_15 la_130 rfl dX7_keepIfBetter_41 ?_
      refine e_iload2 dX7_keepIfBetter_44 ?_
      refine e_iald la_132 (⟨by omega, by omega⟩) dX7_keepIfBetter_45 ?_
      refine e_iast la_133 (⟨by omega, by omega⟩) dX7_keepIfBetter_46 ?_
      refine e_iinc2 dX7_keepIfBetter_47 rfl (⟨by omega, by omega⟩) rfl ?_
      refine e_goto (tgt := 24) dX7_keepIfBetter_50 (by decide) ?_
      refine WW.cv rfl rfl ?_ (ih (i + 1) B hB (by omega))
      rw [← cpy_s (by decide), Int.toNat_natCast]
  by_cases hk : M 130 5 ≠ -1 ∧ M 130 5 ≤ v
  · rw [if_pos hk]
    refine MT.of [some (vR 130), some (vI v), none] ⟨by decide, rfl⟩ rfl (Nat.le_of_ble_eq_true rfl) (fun hA hM => ?_)
    refine e_aload0 dX7_keepIfBetter_0 ?_
    refine e_getI fl_X7_21 la_130 rfl dX7_keepIfBetter_1 ?_
    refine e_iconst dX7_keepIfBetter_4 rfl kc_m1 ?_
    refine e_icmp_eq (tgt := 17) dX7_keepIfBetter_5 (by decide) (fun h => absurd h (hk.1)) (fun h5 => ?_)
    refine e_iload1 dX7_keepIfBetter_8 ?_
    refine e_aload0 dX7_keepIfBetter_9 ?_
    refine e_getI fl_X7_21 la_130 rfl dX7_keepIfBetter_10 ?_
    refine e_icmp_lt (tgt := 17) dX7_keepIfBetter_13 (by decide) (fun h => absurd h (by omega)) (fun h13 => ?_)
    refine e_vret dX7_keepIfBetter_16 ?_
    exact ⟨rfl, rfl⟩
  · rw [if_neg hk]
    refine MT.of [some (vR 130), some (vI v), none] ⟨by decide, rfl⟩ rfl (Nat.le_of_ble_eq_true rfl) (fun hA hM => ?_)
    refine e_aload0 dX7_keepIfBetter_0 ?_
    refine e_getI fl_X7_21 la_130 rfl dX7_keepIfBetter_1 ?_
    refine e_iconst dX7_keepIfBetter_4 rfl kc_m1 ?_
    refine e_icmp_eq (tgt := 17) dX7_keepIfBetter_5 (by decide) (fun h5 => ?_) (fun h5 => ?_)
    · refine e_aload0 dX7_keepIfBetter_17 ?_
      refine e_iload1 dX7_keepIfBetter_18 ?_
      refine e_putI fp_X7_21 la_130 rfl dX7_keepIfBetter_19 ?_
      refine e_iconst dX7_keepIfBetter_22 rfl kc_0 ?_
      refine e_istore2 dX7_keepIfBetter_23 rfl ?_
      refine WW.cv rfl rfl (cpy_0 _ 132 133).symm (loop n 0 (up M 130 5 v) (by simp [up, hcd]) (by omega))
    · refine e_iload1 dX7_keepIfBetter_8 ?_
      refine e_aload0 dX7_keepIfBetter_9 ?_
      refine e_getI fl_X7_21 la_130 rfl dX7_keepIfBetter_10 ?_
      refine e_icmp_lt (tgt := 17) dX7_keepIfBetter_13 (by decide) (fun h13 => ?_) (fun h13 => ?_)
      · refine e_aload0 dX7_keepIfBetter_17 ?_
        refine e_iload1 dX7_keepIfBetter_18 ?_
        refine e_putI fp_X7_21 la_130 rfl dX7_keepIfBetter_19 ?_
        refine e_iconst dX7_keepIfBetter_22 rfl kc_0 ?_
        refine e_istore2 dX7_keepIfBetter_23 rfl ?_
        refine WW.cv rfl rfl (cpy_0 _ 132 133).symm (loop n 0 (up M 130 5 v) (by simp [up, hcd]) (by omega))
      · refine e_vret dX7_keepIfBetter_16 ?_
        exfalso; omega
end WED
