/-! TOKENS -/
abbrev isDg (x : Int) : Prop := 48 ≤ x ∧ x ≤ 57
abbrev isLt (x : Int) : Prop := (97 ≤ x ∧ x ≤ 122) ∨ (65 ≤ x ∧ x ≤ 90)
abbrev isSg (x : Int) : Prop := x = 43 ∨ x = 45 ∨ x = 42 ∨ x = 47 ∨ x = 40 ∨ x = 41 ∨ x = 59
/-- where the digits end that begin at i, and their number, held at 10000 -/
def dgE (B : Nat → Int) (L : Nat) : Nat → Nat → Nat
  | 0, i => i
  | n + 1, i => if i < L ∧ isDg (B i) then dgE B L n (i + 1) else i
def dgV (B : Nat → Int) (L : Nat) : Nat → Nat → Int → Int
  | 0, _, v => v
  | n + 1, i, v => if i < L ∧ isDg (B i) then dgV B L n (i + 1) (min 10000 (v * 10 + B i - 48)) else v
def ltE (B : Nat → Int) (L : Nat) : Nat → Nat → Nat
  | 0, i => i
  | n + 1, i => if i < L ∧ isLt (B i) then ltE B L n (i + 1) else i
def TS (M M1 : Mem) (ls : List (Int × Nat × Int)) : Prop := (∀ o, o ≠ 114 → o ≠ 116 → o ≠ 117 → o ≠ 118 → M1 o = M o) ∧ (∀ k, k ≠ 5 → M1 114 k = M 114 k) ∧ M1 114 5 = M 114 5 + ls.length ∧ (∀ k : Nat, (k : Int) < M 114 5 → M1 116 k = M 116 k ∧ M1 117 k = M 117 k ∧ M1 118 k = M 118 k) ∧ (∀ (k : Nat) (c : Int × Nat × Int), ls[k]? = some c → M1 116 ((M 114 5).toNat + k) = c.1 ∧ M1 117 ((M 114 5).toNat + k) = c.2.1 ∧ M1 118 ((M 114 5).toNat + k) = c.2.2)
theorem TS.nil (M : Mem) : TS M M [] := ⟨fun _ _ _ _ _ => rfl, fun _ _ => rfl, by simp, fun _ _ => ⟨rfl, rfl, rfl⟩, fun k c h => by simp at h⟩
theorem TS.one {M : Mem} {k v : Int} {p : Nat} (h0 : 0 ≤ M 114 5) : TS M (tokM M k p v) [(k, p, v)] := by
  unfold tokM
  refine ⟨fun o a b c e => by rw [up_row a, up_row e, up_row c, up_row b], fun q hq => by rw [up_k hq, up_o (by decide), up_o (by decide), up_o (by decide)], by rw [up_s]; rfl, fun q hq => ⟨?_, ?_, ?_⟩, fun q c hc => ?_⟩
  · rw [up_o (by decide), up_o (by decide), up_o (by decide), up_k (by omega)]
  · rw [up_o (by decide), up_o (by decide), up_k (by omega), up_o (by decide)]
  · rw [up_o (by decide), up_k (by omega), up_o (by decide), up_o (by decide)]
  · have hq : q = 0 := by
      have := (List.getElem?_eq_some_iff.mp hc).1
      simp at this
      omega
    subst hq
    have : c = (k, p, v) := (Option.some.inj hc).symm
    subst this
    rw [Nat.add_zero]
    refine ⟨?_, ?_, ?_⟩
    · rw [up_o (by decide), up_o (by decide), up_o (by decide), up_s]
    · rw [up_o (by decide), up_o (by decide), up_s]
    · rw [up_o (by decide), up_s]
theorem TS.tr {M M1 M2 : Mem} {a b : List (Int × Nat × Int)} (h0 : 0 ≤ M 114 5) (h : TS M M1 a) (h2 : TS M1 M2 b) : TS M M2 (a ++ b) := by
  obtain ⟨a1, a2, a3, a4, a5⟩ := h
  obtain ⟨b1, b2, b3, b4, b5⟩ := h2
  refine ⟨fun o x y z e => (b1 o x y z e).trans (a1 o x y z e), fun q hq => (b2 q hq).trans (a2 q hq), by rw [b3, a3, List.length_append]; omega, fun q hq => ?_, fun q c hc => ?_⟩
  · have p1 := b4 q (by omega)
    have p2 := a4 q hq
    exact ⟨p1.1.trans p2.1, p1.2.1.trans p2.2.1, p1.2.2.trans p2.2.2⟩
  · by_cases hl : q < a.length
    · rw [List.getElem?_append_left hl] at hc
      have p1 := b4 ((M 114 5).toNat + q) (by omega)
      have p2 := a5 q c hc
      exact ⟨p1.1.trans p2.1, p1.2.1.trans p2.2.1, p1.2.2.trans p2.2.2⟩
    · rw [List.getElem?_append_right (by omega)] at hc
      have p := b5 _ c hc
      rw [show (M1 114 5).toNat + (q - a.length) = (M 114 5).toNat + q by omega] at p
      exact p
theorem byt_in {M : Mem} {L i : Nat} (hL : M 114 1 = L) (hl : L ≤ 300) (hi : i < L) : byt M i = M 115 i := by
  unfold byt
  rw [if_pos (by omega), Int.toNat_natCast]
section LEX
variable {l : Launch} {w : Wd} {d : Nat} {M : Mem} {Q : Option MV → Mem → Prop} {L : Nat}
theorem num_loop (hd : 2 ≤ d) (hL : M 114 1 = L) (hl : L ≤ 300) (ht : 0 ≤ M 114 5 ∧ M 114 5 < 301) {f : Nat} : ∀ (n a : Nat) (v : Int), a ≤ L → L ≤ n + a → (0 ≤ v ∧ v ≤ 10000) → Q (some (vI (dgE (M 115) L n a : Nat))) (tokM M 1 f (dgV (M 115) L n a v)) → WM l w RX2 cX2_takeNumber 4 (some .int) d Q 4 [some (vR 114), some (vI (f : Int)), some (vI v), some (vI (a : Int))] [] M
  | 0, a, v, ha, hn, hv, hQ => by
    unfold dgE dgV at hQ
    refine e_iload3 dX2_takeNumber_4 ?_
    refine e_aload0 dX2_takeNumber_5 ?_
    refine e_getI fl_X2_15 la_114 rfl dX2_takeNumber_6 ?_
    refine WW.ec (y := (L : Int)) (hL) ?_
    refine e_icmp_ge (tgt := 49) dX2_takeNumber_9 (by decide) (fun h9 => ?_) (fun h9 => ?_)
    · refine e_aload0 dX2_takeNumber_49 ?_
      refine e_iconst dX2_takeNumber_50 rfl kc_1 ?_
      refine e_iload1 dX2_takeNumber_51 ?_
      refine e_iload2 dX2_takeNumber_52 ?_
      refine e_cVV (ct_X2_addToken (d := d - 1) (by omega) ht) cy_X2_addToken cv_X2_addToken ml_X2_88 la_114 rfl rfl rfl (rok (by omega) (by decide)) (Nat.le_of_ble_eq_true rfl) dX2_takeNumber_53 ?_
      refine e_iload3 dX2_takeNumber_56 ?_
      refine e_iret dX2_takeNumber_57 ?_
      exact hQ
    · omega
  | n + 1, a, v, ha, hn, hv, hQ => by
    have h49 : (¬ (a < L ∧ isDg (M 115 a))) → WM l w RX2 cX2_takeNumber 4 (some .int) d Q 49 [some (vR 114), some (vI (f : Int)), some (vI v), some (vI (a : Int))] [] M := by
      intro hq
      unfold dgE dgV at hQ
      rw [if_neg hq, if_neg hq] at hQ
      refine e_aload0 dX2_takeNumber_49 ?_
      refine e_iconst dX2_takeNumber_50 rfl kc_1 ?_
      refine e_iload1 dX2_takeNumber_51 ?_
      refine e_iload2 dX2_takeNumber_52 ?_
      refine e_cVV (ct_X2_addToken (d := d - 1) (by omega) ht) cy_X2_addToken cv_X2_addToken ml_X2_88 la_114 rfl rfl rfl (rok (by omega) (by decide)) (Nat.le_of_ble_eq_true rfl) dX2_takeNumber_53 ?_
      refine e_iload3 dX2_takeNumber_56 ?_
      refine e_iret dX2_takeNumber_57 ?_
      exact hQ
    by_cases hal : a < L
    · have hb := byt_in hL hl hal
      have hby : PI l w yX2_byteAt cX2_byteAt 2 (d - 1) [vR 114, vI (a : Int)] M (M 115 a) M := by
        have := ct_X2_byteAt (l := l) (w := w) (d := d - 1) (M := M) (i := (a : Int)) (by omega)
        rw [hb] at this
        exact this
      refine e_iload3 dX2_takeNumber_4 ?_
      refine e_aload0 dX2_takeNumber_5 ?_
      refine e_getI fl_X2_15 la_114 rfl dX2_takeNumber_6 ?_
      refine WW.ec (y := (L : Int)) (hL) ?_
      refine e_icmp_ge (tgt := 49) dX2_takeNumber_9 (by decide) (fun h9 => ?_) (fun h9 => ?_)
      · first | (exfalso; omega) | exact h49 (fun z => g17 z.2)
      · refine e_aload0 dX2_takeNumber_12 ?_
        refine e_iload3 dX2_takeNumber_13 ?_
        refine e_cVI (hby) cy_X2_byteAt cv_X2_byteAt ml_X2_68 la_114 rfl rfl rfl (rok (by omega) (by decide)) (Nat.le_of_ble_eq_true rfl) dX2_takeNumber_14 ?_
        refine e_cSZ (ct_X2_isDigit (d := d - 1) (by omega)) cy_X2_isDigit cs_X2_isDigit ml_X2_72 rfl rfl (rok (by omega) (by decide)) (Nat.le_of_ble_eq_true rfl) dX2_takeNumber_17 (fun g17 => ?_) (fun g17 => ?_)
        · refine e_if_eq (tgt := 49) dX2_takeNumber_20 (by decide) (fun h => absurd h (by decide)) (fun _ => ?_)
          refine e_sipush dX2_takeNumber_23 rfl ks_10000 ?_
          refine e_iload2 dX2_takeNumber_26 ?_
          refine e_bipush dX2_takeNumber_27 rfl kb_10 ?_
          refine e_imul dX2_takeNumber_29 (⟨by omega, by omega⟩) ?_
          refine e_aload0 dX2_takeNumber_30 ?_
          refine e_iload3 dX2_takeNumber_31 ?_
          refine e_cVI (hby) cy_X2_byteAt cv_X2_byteAt ml_X2_68 la_114 rfl rfl rfl (rok (by omega) (by decide)) (Nat.le_of_ble_eq_true rfl) dX2_takeNumber_32 ?_
          refine e_iadd dX2_takeNumber_35 (⟨by omega, by omega⟩) ?_
          refine e_bipush dX2_takeNumber_36 rfl kb_48 ?_
          refine e_isub dX2_takeNumber_38 (⟨by omega, by omega⟩) ?_
          refine e_mmin ml9_X2_92 (rok1 (by omega)) rfl dX2_takeNumber_39 ?_
          refine e_istore2 dX2_takeNumber_42 rfl ?_
          refine e_iinc3 dX2_takeNumber_43 rfl (⟨by omega, by omega⟩) rfl ?_
          refine e_goto (tgt := 4) dX2_takeNumber_46 (by decide) ?_
          unfold dgE dgV at hQ
          rw [if_pos ⟨hal, g17⟩, if_pos ⟨hal, g17⟩] at hQ
          exact num_loop hd hL hl ht n (a + 1) _ (by omega) (by omega) (by omega) hQ
        · refine e_if_eq (tgt := 49) dX2_takeNumber_20 (by decide) (fun _ => ?_) (fun h => absurd h (by decide))
          first | (exfalso; omega) | exact h49 (fun z => g17 z.2)
    · refine e_iload3 dX2_takeNumber_4 ?_
      refine e_aload0 dX2_takeNumber_5 ?_
      refine e_getI fl_X2_15 la_114 rfl dX2_takeNumber_6 ?_
      refine WW.ec (y := (L : Int)) (hL) ?_
      refine e_icmp_ge (tgt := 49) dX2_takeNumber_9 (by decide) (fun h9 => ?_) (fun h9 => ?_)
      · exact h49 (fun z => hal z.1)
      · omega
theorem ct_X2_takeNumber (hd : 2 ≤ d) (hL : M 114 1 = L) (hl : L ≤ 300) (ht : 0 ≤ M 114 5 ∧ M 114 5 < 301) {i : Nat} (hi : i ≤ L) : PI l w yX2_takeNumber cX2_takeNumber 4 d [vR 114, vI (i : Int)] M (dgE (M 115) L L i : Nat) (tokM M 1 i (dgV (M 115) L L i 0)) := by
  have h := num_loop (l := l) (w := w) (d := d) (Q := fun r M' => M' = tokM M 1 i (dgV (M 115) L L i 0) ∧ r = some (vI (dgE (M 115) L L i : Nat))) hd hL hl ht (f := i) L i 0 hi (by omega) (by omega) ⟨rfl, rfl⟩
  refine MT.of [some (vR 114), some (vI (i : Int)), none, none] ⟨by decide, rfl⟩ rfl (Nat.le_of_ble_eq_true rfl) (fun hA hM => ?_)
  refine e_iconst dX2_takeNumber_0 rfl kc_0 ?_
  refine e_istore2 dX2_takeNumber_1 rfl ?_
  refine e_iload1 dX2_takeNumber_2 ?_
  refine e_istore3 dX2_takeNumber_3 rfl ?_
  exact h
end LEX
