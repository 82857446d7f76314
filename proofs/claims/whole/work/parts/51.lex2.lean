/-! ALL TOKENS -/
abbrev wEq (B : Nat → Int) (f e k : Nat) : Prop := strLen.getD k 0 + f = e ∧ ∀ i, i < strLen.getD k 0 → B (f + i) = ((strByt.getD k []).getD i 0).toInt
def wF (B : Nat → Int) (f e : Nat) : List Nat → Int
  | [] => -1
  | k :: ks => if wEq B f e k then (k : Int) else wF B f e ks
def wordC (B : Nat → Int) (f e : Nat) : Int := wF B f e [0, 1, 2, 3, 4, 5, 6, 7, 8, 9]
def wordN (B : Nat → Int) (f e : Nat) : Int := wF B f e [10, 11, 12, 13, 14, 15, 16, 17]
def wordV (B : Nat → Int) (f e : Nat) : Int := if wordC B f e = -1 then wordN B f e else wordC B f e
def LX (B : Nat → Int) (L : Nat) : Nat → Nat → List (Int × Nat × Int)
  | 0, _ => [(0, L, 0)]
  | n + 1, i => if i < L then (if isDg (B i) then (1, i, dgV B L L i 0) :: LX B L n (dgE B L L i) else if isLt (B i) then (2, i, wordV B i (ltE B L L i)) :: LX B L n (ltE B L L i) else if B i = 32 ∨ B i = 10 then LX B L n (i + 1) else ((if isSg (B i) then B i else 3), i, 0) :: LX B L n (i + 1)) else [(0, L, 0)]
theorem dgE_b {B : Nat → Int} {L : Nat} : ∀ n i, i ≤ L → i ≤ dgE B L n i ∧ dgE B L n i ≤ L
  | 0, i, h => ⟨Nat.le_refl _, h⟩
  | n + 1, i, h => by
    unfold dgE
    split
    · have := dgE_b (B := B) (L := L) n (i + 1) (by omega)
      omega
    · exact ⟨Nat.le_refl _, h⟩
theorem dgE_s {B : Nat → Int} {L i : Nat} (hi : i < L) (hd : isDg (B i)) : i < dgE B L L i ∧ dgE B L L i ≤ L := by
  obtain ⟨m, rfl⟩ : ∃ m, L = m + 1 := ⟨L - 1, by omega⟩
  have := dgE_b (B := B) (L := m + 1) m (i + 1) (by omega)
  rw [dgE, if_pos ⟨hi, hd⟩]
  omega
theorem ltE_b {B : Nat → Int} {L : Nat} : ∀ n i, i ≤ L → i ≤ ltE B L n i ∧ ltE B L n i ≤ L
  | 0, i, h => ⟨Nat.le_refl _, h⟩
  | n + 1, i, h => by
    unfold ltE
    split
    · have := ltE_b (B := B) (L := L) n (i + 1) (by omega)
      omega
    · exact ⟨Nat.le_refl _, h⟩
theorem ltE_s {B : Nat → Int} {L i : Nat} (hi : i < L) (hd : isLt (B i)) : i < ltE B L L i ∧ ltE B L L i ≤ L := by
  obtain ⟨m, rfl⟩ : ∃ m, L = m + 1 := ⟨L - 1, by omega⟩
  have := ltE_b (B := B) (L := m + 1) m (i + 1) (by omega)
  rw [ltE, if_pos ⟨hi, hd⟩]
  omega
theorem tokM_1 {M : Mem} {k p v : Int} : tokM M k p v 114 1 = M 114 1 ∧ tokM M k p v 115 = M 115 ∧ tokM M k p v 114 5 = M 114 5 + 1 := by
  unfold tokM
  exact ⟨by rw [up_k (by decide), up_o (by decide), up_o (by decide), up_o (by decide)], by rw [up_row (by decide), up_row (by decide), up_row (by decide), up_row (by decide)], up_s _ _ _ _⟩
section LEX2
variable {l : Launch} {w : Wd} {d : Nat} {Q : Option MV → Mem → Prop} {L : Nat} {B : Nat → Int}
theorem tok_loop (hd : 3 ≤ d) (hl : L ≤ 300) (hW : ∀ (M : Mem) (i : Nat), M 114 1 = L → (0 ≤ M 114 5 ∧ M 114 5 < 301) → i < L → PI l w yX2_takeWord cX2_takeWord 4 (d - 1) [vR 114, vI (i : Int)] M (ltE (M 115) L L i : Nat) (tokM M 2 i (wordV (M 115) i (ltE (M 115) L L i)))) :
    ∀ (n a i : Nat) (v3 : Option MV) (M : Mem), a ≤ L → L ≤ n + a → i ≤ a → M 114 1 = L → M 115 = B → (0 ≤ M 114 5 ∧ M 114 5 ≤ a) → (∀ M1, TS M M1 (LX B L n a) → Q none M1) → WM l w RX2 cX2_takeTokens 4 none d Q 9 [some (vR 114), some (vI (a : Int)), some (vI (i : Int)), v3] [] M := by
  intro n
  have hend : ∀ (a i : Nat) (v3 : Option MV) (M : Mem), M 114 1 = L → (0 ≤ M 114 5 ∧ M 114 5 ≤ 300) → (∀ M1, TS M M1 [(0, L, 0)] → Q none M1) → WM l w RX2 cX2_takeTokens 4 none d Q 101 [some (vR 114), some (vI (a : Int)), some (vI (i : Int)), v3] [] M := by
    intro a i v3 M hL ht hQ
    refine e_aload0 dX2_takeTokens_101 ?_
    refine e_iconst dX2_takeTokens_102 rfl kc_0 ?_
    refine e_aload0 dX2_takeTokens_103 ?_
    refine e_getI fl_X2_15 la_114 rfl dX2_takeTokens_104 ?_
    refine WW.ec (y := (L : Int)) (hL) ?_
    refine e_iconst dX2_takeTokens_107 rfl kc_0 ?_
    refine e_cVV (ct_X2_addToken (d := d - 1) (by omega) (by omega)) cy_X2_addToken cv_X2_addToken ml_X2_88 la_114 rfl rfl rfl (rok (by omega) (by decide)) (Nat.le_of_ble_eq_true rfl) dX2_takeTokens_108 ?_
    refine e_vret dX2_takeTokens_111 ?_
    exact hQ _ (TS.one ht.1)
  induction n with
  | zero =>
    intro a i v3 M ha hn hi hL hB ht hQ
    have he := hend a i v3 M hL (by omega) hQ
    refine e_iload2 dX2_takeTokens_9 ?_
    refine e_sipush dX2_takeTokens_10 rfl ks_300 ?_
    refine e_icmp_ge (tgt := 101) dX2_takeTokens_13 (by decide) (fun h13 => ?_) (fun h13 => ?_)
    · exact he
    · refine e_iload1 dX2_takeTokens_16 ?_
      refine e_aload0 dX2_takeTokens_17 ?_
      refine e_getI fl_X2_15 la_114 rfl dX2_takeTokens_18 ?_
      refine WW.ec (y := (L : Int)) (hL) ?_
      refine e_icmp_ge (tgt := 101) dX2_takeTokens_21 (by decide) (fun h21 => ?_) (fun h21 => ?_)
      · exact he
      · omega
  | succ n ih =>
    intro a i v3 M ha hn hi hL hB ht hQ
    unfold LX at hQ
    by_cases hal : a < L
    · rw [if_pos hal] at hQ
      have hb := byt_in hL hl hal
      rw [hB] at hb
      have hby : PI l w yX2_byteAt cX2_byteAt 2 (d - 1) [vR 114, vI (a : Int)] M (B a) M := by
        have := ct_X2_byteAt (l := l) (w := w) (d := d - 1) (M := M) (i := (a : Int)) (by omega)
        rw [hb] at this
        exact this
      have h95 : ∀ (a2 : Nat) (M2 : Mem) (ls : List (Int × Nat × Int)), a < a2 → a2 ≤ L → M2 114 1 = L → M2 115 = B → (0 ≤ M2 114 5 ∧ M2 114 5 ≤ a2) → TS M M2 ls → (∀ M1, TS M M1 (ls ++ LX B L n a2) → Q none M1) → WM l w RX2 cX2_takeTokens 4 none d Q 95 [some (vR 114), some (vI (a2 : Int)), some (vI (i : Int)), some (vI (B a))] [] M2 := by
        intro a2 M2 ls h1 h2 h3 h4 h5 h6 hQ2
        have hnx := ih a2 (i + 1) (some (vI (B a))) M2 h2 (by omega) (by omega) h3 h4 h5 (fun M1 h => hQ2 M1 (h6.tr ht.1 h))
        refine e_iinc2 dX2_takeTokens_95 rfl (⟨by omega, by omega⟩) rfl ?_
        refine e_goto (tgt := 9) dX2_takeTokens_98 (by decide) ?_
        exact hnx
      by_cases kd : isDg (B a)
      · rw [if_pos kd] at hQ
        have hs := dgE_s hal kd
        have hcall := ct_X2_takeNumber (l := l) (w := w) (d := d - 1) (M := M) (L := L) (i := a) (by omega) hL hl (by omega) (by omega)
        rw [hB] at hcall
        have tm := tokM_1 (M := M) (k := 1) (p := (a : Int)) (v := dgV B L L a 0)
        have hnx := h95 (dgE B L L a) (tokM M 1 a (dgV B L L a 0)) [(1, a, dgV B L L a 0)] hs.1 hs.2 (by rw [tm.1]; exact hL) (by rw [tm.2.1]; exact hB) (by rw [tm.2.2]; omega) (TS.one ht.1) hQ
        refine e_iload2 dX2_takeTokens_9 ?_
        refine e_sipush dX2_takeTokens_10 rfl ks_300 ?_
        refine e_icmp_ge (tgt := 101) dX2_takeTokens_13 (by decide) (fun h13 => ?_) (fun h13 => ?_)
        · omega
        · refine e_iload1 dX2_takeTokens_16 ?_
          refine e_aload0 dX2_takeTokens_17 ?_
          refine e_getI fl_X2_15 la_114 rfl dX2_takeTokens_18 ?_
          refine WW.ec (y := (L : Int)) (hL) ?_
          refine e_icmp_ge (tgt := 101) dX2_takeTokens_21 (by decide) (fun h21 => ?_) (fun h21 => ?_)
          · omega
          · refine e_aload0 dX2_takeTokens_24 ?_
            refine e_iload1 dX2_takeTokens_25 ?_
            refine e_cVI (hby) cy_X2_byteAt cv_X2_byteAt ml_X2_68 la_114 rfl rfl rfl (rok (by omega) (by decide)) (Nat.le_of_ble_eq_true rfl) dX2_takeTokens_26 ?_
            refine e_istore3 dX2_takeTokens_29 rfl ?_
            refine e_iload3 dX2_takeTokens_30 ?_
            refine e_cSZ (ct_X2_isDigit (d := d - 1) (by omega)) cy_X2_isDigit cs_X2_isDigit ml_X2_72 rfl rfl (rok (by omega) (by decide)) (Nat.le_of_ble_eq_true rfl) dX2_takeTokens_31 (fun g31 => ?_) (fun g31 => ?_)
            · refine e_if_eq (tgt := 46) dX2_takeTokens_34 (by decide) (fun h => absurd h (by decide)) (fun _ => ?_)
              refine e_aload0 dX2_takeTokens_37 ?_
              refine e_iload1 dX2_takeTokens_38 ?_
              refine e_cVI (hcall) cy_X2_takeNumber cv_X2_takeNumber ml_X2_76 la_114 rfl rfl rfl (rok (by omega) (by decide)) (Nat.le_of_ble_eq_true rfl) dX2_takeTokens_39 ?_
              refine e_istore1 dX2_takeTokens_42 rfl ?_
              refine e_goto (tgt := 95) dX2_takeTokens_43 (by decide) ?_
              exact hnx
            · refine e_if_eq (tgt := 46) dX2_takeTokens_34 (by decide) (fun _ => ?_) (fun h => absurd h (by decide))
              exact absurd kd g31
      rw [if_neg kd] at hQ
      by_cases kl : isLt (B a)
      · rw [if_pos kl] at hQ
        have hs := ltE_s hal kl
        have hcall := hW M a hL (by omega) hal
        rw [hB] at hcall
        have tm := tokM_1 (M := M) (k := 2) (p := (a : Int)) (v := wordV B a (ltE B L L a))
        have hnx := h95 (ltE B L L a) (tokM M 2 a (wordV B a (ltE B L L a))) [(2, a, wordV B a (ltE B L L a))] hs.1 hs.2 (by rw [tm.1]; exact hL) (by rw [tm.2.1]; exact hB) (by rw [tm.2.2]; omega) (TS.one ht.1) hQ
        refine e_iload2 dX2_takeTokens_9 ?_
        refine e_sipush dX2_takeTokens_10 rfl ks_300 ?_
        refine e_icmp_ge (tgt := 101) dX2_takeTokens_13 (by decide) (fun h13 => ?_) (fun h13 => ?_)
        · omega
        · refine e_iload1 dX2_takeTokens_16 ?_
          refine e_aload0 dX2_takeTokens_17 ?_
          refine e_getI fl_X2_15 la_114 rfl dX2_takeTokens_18 ?_
          refine WW.ec (y := (L : Int)) (hL) ?_
          refine e_icmp_ge (tgt := 101) dX2_takeTokens_21 (by decide) (fun h21 => ?_) (fun h21 => ?_)
          · omega
          · refine e_aload0 dX2_takeTokens_24 ?_
            refine e_iload1 dX2_takeTokens_25 ?_
            refine e_cVI (hby) cy_X2_byteAt cv_X2_byteAt ml_X2_68 la_114 rfl rfl rfl (rok (by omega) (by decide)) (Nat.le_of_ble_eq_true rfl) dX2_takeTokens_26 ?_
            refine e_istore3 dX2_takeTokens_29 rfl ?_
            refine e_iload3 dX2_takeTokens_30 ?_
            refine e_cSZ (ct_X2_isDigit (d := d - 1) (by omega)) cy_X2_isDigit cs_X2_isDigit ml_X2_72 rfl rfl (rok (by omega) (by decide)) (Nat.le_of_ble_eq_true rfl) dX2_takeTokens_31 (fun g31 => ?_) (fun g31 => ?_)
            · refine e_if_eq (tgt := 46) dX2_takeTokens_34 (by decide) (fun h => absurd h (by decide)) (fun _ => ?_)
              exact absurd g31 kd
            · refine e_if_eq (tgt := 46) dX2_takeTokens_34 (by decide) (fun _ => ?_) (fun h => absurd h (by decide))
              refine e_iload3 dX2_takeTokens_46 ?_
              refine e_cSZ (ct_X2_isLetter (d := d - 1) (by omega)) cy_X2_isLetter cs_X2_isLetter ml_X2_79 rfl rfl (rok (by omega) (by decide)) (Nat.le_of_ble_eq_true rfl) dX2_takeTokens_47 (fun g47 => ?_) (fun g47 => ?_)
              · refine e_if_eq (tgt := 62) dX2_takeTokens_50 (by decide) (fun h => absurd h (by decide)) (fun _ => ?_)
                refine e_aload0 dX2_takeTokens_53 ?_
                refine e_iload1 dX2_takeTokens_54 ?_
                refine e_cVI (hcall) cy_X2_takeWord cv_X2_takeWord ml_X2_82 la_114 rfl rfl rfl (rok (by omega) (by decide)) (Nat.le_of_ble_eq_true rfl) dX2_takeTokens_55 ?_
                refine e_istore1 dX2_takeTokens_58 rfl ?_
                refine e_goto (tgt := 95) dX2_takeTokens_59 (by decide) ?_
                exact hnx
              · refine e_if_eq (tgt := 62) dX2_takeTokens_50 (by decide) (fun _ => ?_) (fun h => absurd h (by decide))
                exact absurd kl g47
      rw [if_neg kl] at hQ
      by_cases kw : B a = 32 ∨ B a = 10
      · rw [if_pos kw] at hQ
        have hnx := h95 (a + 1) M [] (by omega) (by omega) hL hB (by omega) (TS.nil M) hQ
        refine e_iload2 dX2_takeTokens_9 ?_
        refine e_sipush dX2_takeTokens_10 rfl ks_300 ?_
        refine e_icmp_ge (tgt := 101) dX2_takeTokens_13 (by decide) (fun h13 => ?_) (fun h13 => ?_)
        · omega
        · refine e_iload1 dX2_takeTokens_16 ?_
          refine e_aload0 dX2_takeTokens_17 ?_
          refine e_getI fl_X2_15 la_114 rfl dX2_takeTokens_18 ?_
          refine WW.ec (y := (L : Int)) (hL) ?_
          refine e_icmp_ge (tgt := 101) dX2_takeTokens_21 (by decide) (fun h21 => ?_) (fun h21 => ?_)
          · omega
          · refine e_aload0 dX2_takeTokens_24 ?_
            refine e_iload1 dX2_takeTokens_25 ?_
            refine e_cVI (hby) cy_X2_byteAt cv_X2_byteAt ml_X2_68 la_114 rfl rfl rfl (rok (by omega) (by decide)) (Nat.le_of_ble_eq_true rfl) dX2_takeTokens_26 ?_
            refine e_istore3 dX2_takeTokens_29 rfl ?_
            refine e_iload3 dX2_takeTokens_30 ?_
            refine e_cSZ (ct_X2_isDigit (d := d - 1) (by omega)) cy_X2_isDigit cs_X2_isDigit ml_X2_72 rfl rfl (rok (by omega) (by decide)) (Nat.le_of_ble_eq_true rfl) dX2_takeTokens_31 (fun g31 => ?_) (fun g31 => ?_)
            · refine e_if_eq (tgt := 46) dX2_takeTokens_34 (by decide) (fun h => absurd h (by decide)) (fun _ => ?_)
              exact absurd g31 kd
            · refine e_if_eq (tgt := 46) dX2_takeTokens_34 (by decide) (fun _ => ?_) (fun h => absurd h (by decide))
              refine e_iload3 dX2_takeTokens_46 ?_
              refine e_cSZ (ct_X2_isLetter (d := d - 1) (by omega)) cy_X2_isLetter cs_X2_isLetter ml_X2_79 rfl rfl (rok (by omega) (by decide)) (Nat.le_of_ble_eq_true rfl) dX2_takeTokens_47 (fun g47 => ?_) (fun g47 => ?_)
              · refine e_if_eq (tgt := 62) dX2_takeTokens_50 (by decide) (fun h => absurd h (by decide)) (fun _ => ?_)
                exact absurd g47 kl
              · refine e_if_eq (tgt := 62) dX2_takeTokens_50 (by decide) (fun _ => ?_) (fun h => absurd h (by decide))
                refine e_iload3 dX2_takeTokens_62 ?_
                refine e_bipush dX2_takeTokens_63 rfl kb_32 ?_
                refine e_icmp_eq (tgt := 92) dX2_takeTokens_65 (by decide) (fun h65 => ?_) (fun h65 => ?_)
                · refine e_iinc1 dX2_takeTokens_92 rfl (⟨by omega, by omega⟩) rfl ?_
                  exact hnx
                · refine e_iload3 dX2_takeTokens_68 ?_
                  refine e_bipush dX2_takeTokens_69 rfl kb_10 ?_
                  refine e_icmp_eq (tgt := 92) dX2_takeTokens_71 (by decide) (fun h71 => ?_) (fun h71 => ?_)
                  · refine e_iinc1 dX2_takeTokens_92 rfl (⟨by omega, by omega⟩) rfl ?_
                    exact hnx
                  · omega
      · rw [if_neg kw] at hQ
        have fin : ∀ k : Int, k = (if isSg (B a) then B a else 3) → WM l w RX2 cX2_takeTokens 4 none d Q 95 [some (vR 114), some (vI ((a + 1 : Nat) : Int)), some (vI (i : Int)), some (vI (B a))] [] (tokM M k a 0) := by
          intro k hk
          subst hk
          have tm := tokM_1 (M := M) (k := if isSg (B a) then B a else 3) (p := (a : Int)) (v := 0)
          exact h95 (a + 1) _ [((if isSg (B a) then B a else 3), a, 0)] (by omega) (by omega) (by rw [tm.1]; exact hL) (by rw [tm.2.1]; exact hB) (by rw [tm.2.2]; omega) (TS.one ht.1) hQ
        refine e_iload2 dX2_takeTokens_9 ?_
        refine e_sipush dX2_takeTokens_10 rfl ks_300 ?_
        refine e_icmp_ge (tgt := 101) dX2_takeTokens_13 (by decide) (fun h13 => ?_) (fun h13 => ?_)
        · omega
        · refine e_iload1 dX2_takeTokens_16 ?_
          refine e_aload0 dX2_takeTokens_17 ?_
          refine e_getI fl_X2_15 la_114 rfl dX2_takeTokens_18 ?_
          refine WW.ec (y := (L : Int)) (hL) ?_
          refine e_icmp_ge (tgt := 101) dX2_takeTokens_21 (by decide) (fun h21 => ?_) (fun h21 => ?_)
          · omega
          · refine e_aload0 dX2_takeTokens_24 ?_
            refine e_iload1 dX2_takeTokens_25 ?_
            refine e_cVI (hby) cy_X2_byteAt cv_X2_byteAt ml_X2_68 la_114 rfl rfl rfl (rok (by omega) (by decide)) (Nat.le_of_ble_eq_true rfl) dX2_takeTokens_26 ?_
            refine e_istore3 dX2_takeTokens_29 rfl ?_
            refine e_iload3 dX2_takeTokens_30 ?_
            refine e_cSZ (ct_X2_isDigit (d := d - 1) (by omega)) cy_X2_isDigit cs_X2_isDigit ml_X2_72 rfl rfl (rok (by omega) (by decide)) (Nat.le_of_ble_eq_true rfl) dX2_takeTokens_31 (fun g31 => ?_) (fun g31 => ?_)
            · refine e_if_eq (tgt := 46) dX2_takeTokens_34 (by decide) (fun h => absurd h (by decide)) (fun _ => ?_)
              exact absurd g31 kd
            · refine e_if_eq (tgt := 46) dX2_takeTokens_34 (by decide) (fun _ => ?_) (fun h => absurd h (by decide))
              refine e_iload3 dX2_takeTokens_46 ?_
              refine e_cSZ (ct_X2_isLetter (d := d - 1) (by omega)) cy_X2_isLetter cs_X2_isLetter ml_X2_79 rfl rfl (rok (by omega) (by decide)) (Nat.le_of_ble_eq_true rfl) dX2_takeTokens_47 (fun g47 => ?_) (fun g47 => ?_)
              · refine e_if_eq (tgt := 62) dX2_takeTokens_50 (by decide) (fun h => absurd h (by decide)) (fun _ => ?_)
                exact absurd g47 kl
              · refine e_if_eq (tgt := 62) dX2_takeTokens_50 (by decide) (fun _ => ?_) (fun h => absurd h (by decide))
                refine e_iload3 dX2_takeTokens_62 ?_
                refine e_bipush dX2_takeTokens_63 rfl kb_32 ?_
                refine e_icmp_eq (tgt := 92) dX2_takeTokens_65 (by decide) (fun h65 => ?_) (fun h65 => ?_)
                · refine e_iinc1 dX2_takeTokens_92 rfl (⟨by omega, by omega⟩) rfl ?_
                  first | (exfalso; omega) | exact fin _ (by rw [if_pos g76]) | exact fin _ (by rw [if_neg g76])
                · refine e_iload3 dX2_takeTokens_68 ?_
                  refine e_bipush dX2_takeTokens_69 rfl kb_10 ?_
                  refine e_icmp_eq (tgt := 92) dX2_takeTokens_71 (by decide) (fun h71 => ?_) (fun h71 => ?_)
                  · refine e_iinc1 dX2_takeTokens_92 rfl (⟨by omega, by omega⟩) rfl ?_
                    first | (exfalso; omega) | exact fin _ (by rw [if_pos g76]) | exact fin _ (by rw [if_neg g76])
                  · refine e_aload0 dX2_takeTokens_74 ?_
                    refine e_iload3 dX2_takeTokens_75 ?_
                    refine e_cSZ (ct_X2_isSign (d := d - 1) (by omega)) cy_X2_isSign cs_X2_isSign ml_X2_85 rfl rfl (rok (by omega) (by decide)) (Nat.le_of_ble_eq_true rfl) dX2_takeTokens_76 (fun g76 => ?_) (fun g76 => ?_)
                    · refine e_if_eq (tgt := 86) dX2_takeTokens_79 (by decide) (fun h => absurd h (by decide)) (fun _ => ?_)
                      refine e_iload3 dX2_takeTokens_82 ?_
                      refine e_goto (tgt := 87) dX2_takeTokens_83 (by decide) ?_
                      refine e_iload1 dX2_takeTokens_87 ?_
                      refine e_iconst dX2_takeTokens_88 rfl kc_0 ?_
                      refine e_cVV (ct_X2_addToken (d := d - 1) (by omega) (by omega)) cy_X2_addToken cv_X2_addToken ml_X2_88 la_114 rfl rfl rfl (rok (by omega) (by decide)) (Nat.le_of_ble_eq_true rfl) dX2_takeTokens_89 ?_
                      refine e_iinc1 dX2_takeTokens_92 rfl (⟨by omega, by omega⟩) rfl ?_
                      first | (exfalso; omega) | exact fin _ (by rw [if_pos g76]) | exact fin _ (by rw [if_neg g76])
                    · refine e_if_eq (tgt := 86) dX2_takeTokens_79 (by decide) (fun _ => ?_) (fun h => absurd h (by decide))
                      refine e_iconst dX2_takeTokens_86 rfl kc_3 ?_
                      refine e_iload1 dX2_takeTokens_87 ?_
                      refine e_iconst dX2_takeTokens_88 rfl kc_0 ?_
                      refine e_cVV (ct_X2_addToken (d := d - 1) (by omega) (by omega)) cy_X2_addToken cv_X2_addToken ml_X2_88 la_114 rfl rfl rfl (rok (by omega) (by decide)) (Nat.le_of_ble_eq_true rfl) dX2_takeTokens_89 ?_
                      refine e_iinc1 dX2_takeTokens_92 rfl (⟨by omega, by omega⟩) rfl ?_
                      first | (exfalso; omega) | exact fin _ (by rw [if_pos g76]) | exact fin _ (by rw [if_neg g76])
    · rw [if_neg hal] at hQ
      have he := hend a i v3 M hL (by omega) hQ
      refine e_iload2 dX2_takeTokens_9 ?_
      refine e_sipush dX2_takeTokens_10 rfl ks_300 ?_
      refine e_icmp_ge (tgt := 101) dX2_takeTokens_13 (by decide) (fun h13 => ?_) (fun h13 => ?_)
      · exact he
      · refine e_iload1 dX2_takeTokens_16 ?_
        refine e_aload0 dX2_takeTokens_17 ?_
        refine e_getI fl_X2_15 la_114 rfl dX2_takeTokens_18 ?_
        refine WW.ec (y := (L : Int)) (hL) ?_
        refine e_icmp_ge (tgt := 101) dX2_takeTokens_21 (by decide) (fun h21 => ?_) (fun h21 => ?_)
        · exact he
        · omega
end LEX2
