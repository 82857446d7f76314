/-! WORDS -/
section WORD
variable {l : Launch} {w : Wd} {d : Nat} {M : Mem} {Q : Option MV → Mem → Prop} {L : Nat}
theorem word_loop (hd : 4 ≤ d) (hL : M 114 1 = L) (hl : L ≤ 300) {f e k : Nat} (hk : k < 18) (he : e ≤ L) (hfe : strLen.getD k 0 + f = e) : ∀ (n a : Nat), a + n = strLen.getD k 0 → (∀ i, i < a → M 115 (f + i) = chr k i) → (wEq (M 115) f e k → Q (some (vI 1)) M) → (¬ wEq (M 115) f e k → Q (some (vI 0)) M) → WM l w RX2 cX2_isWord 5 (some .boolean) d Q 19 [some (vR 114), some (vR (strB + k)), some (vI (f : Int)), some (vI (e : Int)), some (vI (a : Int))] [] M
  | 0, a, hn, ha, q1, q0 => by
    have hb := strLen_b k hk
    refine e_iload4 dX2_isWord_19 ?_
    refine e_aload1 dX2_isWord_21 ?_
    refine e_cWI hk rfl (ct_J0_length (d := d - 1) (by omega) hk) cy_J0_length_8abf5 cv_J0_length_8abf5 ml_X2_143 rfl rfl (rok (by omega) (by decide)) (Nat.le_of_ble_eq_true rfl) dX2_isWord_22 ?_
    refine e_icmp_ge (tgt := 53) dX2_isWord_25 (by decide) (fun h25 => ?_) (fun h25 => ?_)
    · refine e_iconst dX2_isWord_53 rfl kc_1 ?_
      refine e_zret dX2_isWord_54 (by decide) ?_
      exact q1 ⟨hfe, fun i hi => ha i (by omega)⟩
    · omega
  | n + 1, a, hn, ha, q1, q0 => by
    have hb := strLen_b k hk
    have hbb := byt_in hL hl (show f + a < L by omega)
    have hby : PI l w yX2_byteAt cX2_byteAt 2 (d - 1) [vR 114, vI ((f : Int) + (a : Int))] M (M 115 (f + a)) M := by
      have := ct_X2_byteAt (l := l) (w := w) (d := d - 1) (M := M) (i := ((f + a : Nat) : Int)) (by omega)
      rw [hbb] at this
      exact this
    refine e_iload4 dX2_isWord_19 ?_
    refine e_aload1 dX2_isWord_21 ?_
    refine e_cWI hk rfl (ct_J0_length (d := d - 1) (by omega) hk) cy_J0_length_8abf5 cv_J0_length_8abf5 ml_X2_143 rfl rfl (rok (by omega) (by decide)) (Nat.le_of_ble_eq_true rfl) dX2_isWord_22 ?_
    refine e_icmp_ge (tgt := 53) dX2_isWord_25 (by decide) (fun h25 => ?_) (fun h25 => ?_)
    · omega
    · refine e_aload0 dX2_isWord_28 ?_
      refine e_iload2 dX2_isWord_29 ?_
      refine e_iload4 dX2_isWord_30 ?_
      refine e_iadd dX2_isWord_32 (⟨by omega, by omega⟩) ?_
      refine e_cVI (hby) cy_X2_byteAt cv_X2_byteAt ml_X2_68 la_114 rfl rfl rfl (rok (by omega) (by decide)) (Nat.le_of_ble_eq_true rfl) dX2_isWord_33 ?_
      refine e_aload1 dX2_isWord_36 ?_
      refine e_iload4 dX2_isWord_37 ?_
      refine e_cWI hk rfl (ct_J0_charAt (d := d - 1) (by omega) hk (by omega)) cy_J0_charAt_5068e cv_J0_charAt_5068e ml_X2_148 rfl rfl (rok (by omega) (by decide)) (Nat.le_of_ble_eq_true rfl) dX2_isWord_39 ?_
      refine WW.ec (y := chr k a) (rfl) ?_
      refine e_icmp_eq (tgt := 47) dX2_isWord_42 (by decide) (fun h42 => ?_) (fun h42 => ?_)
      · refine e_iinc4 dX2_isWord_47 rfl (⟨by omega, by omega⟩) rfl ?_
        refine e_goto (tgt := 19) dX2_isWord_50 (by decide) ?_
        exact word_loop hd hL hl hk he hfe n (a + 1) (by omega) (fun i hi => by rcases Nat.lt_succ_iff_lt_or_eq.mp hi with h | h; exact ha i h; subst h; exact h42) q1 q0
      · refine e_iconst dX2_isWord_45 rfl kc_0 ?_
        refine e_zret dX2_isWord_46 (by decide) ?_
        exact q0 (fun z => h42 (z.2 a (by omega)))
theorem ct_X2_isWord (hd : 4 ≤ d) (hL : M 114 1 = L) (hl : L ≤ 300) {f e k : Nat} (hk : k < 18) (hf : f ≤ e) (he : e ≤ L) : PZ l w yX2_isWord cX2_isWord 5 d [vR 114, vR (strB + k), vI (f : Int), vI (e : Int)] M (wEq (M 115) f e k) := by
  have hb := strLen_b k hk
  refine MT.of [some (vR 114), some (vR (strB + k)), some (vI (f : Int)), some (vI (e : Int)), none] ⟨by decide, rfl⟩ rfl (Nat.le_of_ble_eq_true rfl) (fun hA hM => ?_)
  refine e_aload1 dX2_isWord_0 ?_
  refine e_ifnull dX2_isWord_1 ?_
  refine e_aload1 dX2_isWord_4 ?_
  refine e_cWI hk rfl (ct_J0_length (d := d - 1) (by omega) hk) cy_J0_length_8abf5 cv_J0_length_8abf5 ml_X2_143 rfl rfl (rok (by omega) (by decide)) (Nat.le_of_ble_eq_true rfl) dX2_isWord_5 ?_
  refine e_iload3 dX2_isWord_8 ?_
  refine e_iload2 dX2_isWord_9 ?_
  refine e_isub dX2_isWord_10 (⟨by omega, by omega⟩) ?_
  refine e_icmp_eq (tgt := 16) dX2_isWord_11 (by decide) (fun h11 => ?_) (fun h11 => ?_)
  · refine e_iconst dX2_isWord_16 rfl kc_0 ?_
    refine e_istore4 dX2_isWord_17 rfl ?_
    exact word_loop hd hL hl hk he (by omega) (strLen.getD k 0) 0 (by omega) (fun i hi => absurd hi (Nat.not_lt_zero i)) (fun z => ⟨rfl, Or.inl ⟨rfl, z⟩⟩) (fun z => ⟨rfl, Or.inr ⟨rfl, z⟩⟩)
  · refine e_iconst dX2_isWord_14 rfl kc_0 ?_
    refine e_zret dX2_isWord_15 (by decide) ?_
    exact ⟨rfl, Or.inr ⟨rfl, fun z => h11 (by omega)⟩⟩
theorem ct_X2_clauseWord (hd : 5 ≤ d) (hL : M 114 1 = L) (hl : L ≤ 300) {f e : Nat} (hf : f ≤ e) (he : e ≤ L) : PI l w yX2_clauseWord cX2_clauseWord 3 d [vR 114, vI (f : Int), vI (e : Int)] M (wordC (M 115) f e) M := by
  refine MT.of [some (vR 114), some (vI (f : Int)), some (vI (e : Int))] ⟨by decide, rfl⟩ rfl (Nat.le_of_ble_eq_true rfl) (fun hA hM => ?_)
  refine e_aload0 dX2_clauseWord_0 ?_
  refine e_ldcS 0 (by decide) rfl dX2_clauseWord_1 rfl ?_
  refine e_iload1 dX2_clauseWord_3 ?_
  refine e_iload2 dX2_clauseWord_4 ?_
  refine e_cVZ (ct_X2_isWord (d := d - 1) (k := 0) (by omega) hL hl (by decide) hf he) cy_X2_isWord cv_X2_isWord ml_X2_106 la_114 rfl rfl rfl (rok (by omega) (by decide)) (Nat.le_of_ble_eq_true rfl) dX2_clauseWord_5 (fun g5 => ?_) (fun g5 => ?_)
  · refine e_if_eq (tgt := 13) dX2_clauseWord_8 (by decide) (fun h => absurd h (by decide)) (fun _ => ?_)
    refine e_iconst dX2_clauseWord_11 rfl kc_0 ?_
    refine e_iret dX2_clauseWord_12 ?_
    exact ⟨rfl, by simp only [wordC, wF, if_pos g5]; rfl⟩
  · refine e_if_eq (tgt := 13) dX2_clauseWord_8 (by decide) (fun _ => ?_) (fun h => absurd h (by decide))
    refine e_aload0 dX2_clauseWord_13 ?_
    refine e_ldcS 1 (by decide) rfl dX2_clauseWord_14 rfl ?_
    refine e_iload1 dX2_clauseWord_16 ?_
    refine e_iload2 dX2_clauseWord_17 ?_
    refine e_cVZ (ct_X2_isWord (d := d - 1) (k := 1) (by omega) hL hl (by decide) hf he) cy_X2_isWord cv_X2_isWord ml_X2_106 la_114 rfl rfl rfl (rok (by omega) (by decide)) (Nat.le_of_ble_eq_true rfl) dX2_clauseWord_18 (fun g18 => ?_) (fun g18 => ?_)
    · refine e_if_eq (tgt := 26) dX2_clauseWord_21 (by decide) (fun h => absurd h (by decide)) (fun _ => ?_)
      refine e_iconst dX2_clauseWord_24 rfl kc_1 ?_
      refine e_iret dX2_clauseWord_25 ?_
      exact ⟨rfl, by simp only [wordC, wF, if_neg g5, if_pos g18]; rfl⟩
    · refine e_if_eq (tgt := 26) dX2_clauseWord_21 (by decide) (fun _ => ?_) (fun h => absurd h (by decide))
      refine e_aload0 dX2_clauseWord_26 ?_
      refine e_ldcS 2 (by decide) rfl dX2_clauseWord_27 rfl ?_
      refine e_iload1 dX2_clauseWord_29 ?_
      refine e_iload2 dX2_clauseWord_30 ?_
      refine e_cVZ (ct_X2_isWord (d := d - 1) (k := 2) (by omega) hL hl (by decide) hf he) cy_X2_isWord cv_X2_isWord ml_X2_106 la_114 rfl rfl rfl (rok (by omega) (by decide)) (Nat.le_of_ble_eq_true rfl) dX2_clauseWord_31 (fun g31 => ?_) (fun g31 => ?_)
      · refine e_if_eq (tgt := 39) dX2_clauseWord_34 (by decide) (fun h => absurd h (by decide)) (fun _ => ?_)
        refine e_iconst dX2_clauseWord_37 rfl kc_2 ?_
        refine e_iret dX2_clauseWord_38 ?_
        exact ⟨rfl, by simp only [wordC, wF, if_neg g5, if_neg g18, if_pos g31]; rfl⟩
      · refine e_if_eq (tgt := 39) dX2_clauseWord_34 (by decide) (fun _ => ?_) (fun h => absurd h (by decide))
        refine e_aload0 dX2_clauseWord_39 ?_
        refine e_ldcS 3 (by decide) rfl dX2_clauseWord_40 rfl ?_
        refine e_iload1 dX2_clauseWord_42 ?_
        refine e_iload2 dX2_clauseWord_43 ?_
        refine e_cVZ (ct_X2_isWord (d := d - 1) (k := 3) (by omega) hL hl (by decide) hf he) cy_X2_isWord cv_X2_isWord ml_X2_106 la_114 rfl rfl rfl (rok (by omega) (by decide)) (Nat.le_of_ble_eq_true rfl) dX2_clauseWord_44 (fun g44 => ?_) (fun g44 => ?_)
        · refine e_if_eq (tgt := 52) dX2_clauseWord_47 (by decide) (fun h => absurd h (by decide)) (fun _ => ?_)
          refine e_iconst dX2_clauseWord_50 rfl kc_3 ?_
          refine e_iret dX2_clauseWord_51 ?_
          exact ⟨rfl, by simp only [wordC, wF, if_neg g5, if_neg g18, if_neg g31, if_pos g44]; rfl⟩
        · refine e_if_eq (tgt := 52) dX2_clauseWord_47 (by decide) (fun _ => ?_) (fun h => absurd h (by decide))
          refine e_aload0 dX2_clauseWord_52 ?_
          refine e_ldcS 4 (by decide) rfl dX2_clauseWord_53 rfl ?_
          refine e_iload1 dX2_clauseWord_55 ?_
          refine e_iload2 dX2_clauseWord_56 ?_
          refine e_cVZ (ct_X2_isWord (d := d - 1) (k := 4) (by omega) hL hl (by decide) hf he) cy_X2_isWord cv_X2_isWord ml_X2_106 la_114 rfl rfl rfl (rok (by omega) (by decide)) (Nat.le_of_ble_eq_true rfl) dX2_clauseWord_57 (fun g57 => ?_) (fun g57 => ?_)
          · refine e_if_eq (tgt := 65) dX2_clauseWord_60 (by decide) (fun h => absurd h (by decide)) (fun _ => ?_)
            refine e_iconst dX2_clauseWord_63 rfl kc_4 ?_
            refine e_iret dX2_clauseWord_64 ?_
            exact ⟨rfl, by simp only [wordC, wF, if_neg g5, if_neg g18, if_neg g31, if_neg g44, if_pos g57]; rfl⟩
          · refine e_if_eq (tgt := 65) dX2_clauseWord_60 (by decide) (fun _ => ?_) (fun h => absurd h (by decide))
            refine e_aload0 dX2_clauseWord_65 ?_
            refine e_ldcS 5 (by decide) rfl dX2_clauseWord_66 rfl ?_
            refine e_iload1 dX2_clauseWord_68 ?_
            refine e_iload2 dX2_clauseWord_69 ?_
            refine e_cVZ (ct_X2_isWord (d := d - 1) (k := 5) (by omega) hL hl (by decide) hf he) cy_X2_isWord cv_X2_isWord ml_X2_106 la_114 rfl rfl rfl (rok (by omega) (by decide)) (Nat.le_of_ble_eq_true rfl) dX2_clauseWord_70 (fun g70 => ?_) (fun g70 => ?_)
            · refine e_if_eq (tgt := 78) dX2_clauseWord_73 (by decide) (fun h => absurd h (by decide)) (fun _ => ?_)
              refine e_iconst dX2_clauseWord_76 rfl kc_5 ?_
              refine e_iret dX2_clauseWord_77 ?_
              exact ⟨rfl, by simp only [wordC, wF, if_neg g5, if_neg g18, if_neg g31, if_neg g44, if_neg g57, if_pos g70]; rfl⟩
            · refine e_if_eq (tgt := 78) dX2_clauseWord_73 (by decide) (fun _ => ?_) (fun h => absurd h (by decide))
              refine e_aload0 dX2_clauseWord_78 ?_
              refine e_ldcS 6 (by decide) rfl dX2_clauseWord_79 rfl ?_
              refine e_iload1 dX2_clauseWord_81 ?_
              refine e_iload2 dX2_clauseWord_82 ?_
              refine e_cVZ (ct_X2_isWord (d := d - 1) (k := 6) (by omega) hL hl (by decide) hf he) cy_X2_isWord cv_X2_isWord ml_X2_106 la_114 rfl rfl rfl (rok (by omega) (by decide)) (Nat.le_of_ble_eq_true rfl) dX2_clauseWord_83 (fun g83 => ?_) (fun g83 => ?_)
              · refine e_if_eq (tgt := 92) dX2_clauseWord_86 (by decide) (fun h => absurd h (by decide)) (fun _ => ?_)
                refine e_bipush dX2_clauseWord_89 rfl kb_6 ?_
                refine e_iret dX2_clauseWord_91 ?_
                exact ⟨rfl, by simp only [wordC, wF, if_neg g5, if_neg g18, if_neg g31, if_neg g44, if_neg g57, if_neg g70, if_pos g83]; rfl⟩
              · refine e_if_eq (tgt := 92) dX2_clauseWord_86 (by decide) (fun _ => ?_) (fun h => absurd h (by decide))
                refine e_aload0 dX2_clauseWord_92 ?_
                refine e_ldcS 7 (by decide) rfl dX2_clauseWord_93 rfl ?_
                refine e_iload1 dX2_clauseWord_95 ?_
                refine e_iload2 dX2_clauseWord_96 ?_
                refine e_cVZ (ct_X2_isWord (d := d - 1) (k := 7) (by omega) hL hl (by decide) hf he) cy_X2_isWord cv_X2_isWord ml_X2_106 la_114 rfl rfl rfl (rok (by omega) (by decide)) (Nat.le_of_ble_eq_true rfl) dX2_clauseWord_97 (fun g97 => ?_) (fun g97 => ?_)
                · refine e_if_eq (tgt := 106) dX2_clauseWord_100 (by decide) (fun h => absurd h (by decide)) (fun _ => ?_)
                  refine e_bipush dX2_clauseWord_103 rfl kb_7 ?_
                  refine e_iret dX2_clauseWord_105 ?_
                  exact ⟨rfl, by simp only [wordC, wF, if_neg g5, if_neg g18, if_neg g31, if_neg g44, if_neg g57, if_neg g70, if_neg g83, if_pos g97]; rfl⟩
                · refine e_if_eq (tgt := 106) dX2_clauseWord_100 (by decide) (fun _ => ?_) (fun h => absurd h (by decide))
                  refine e_aload0 dX2_clauseWord_106 ?_
                  refine e_ldcS 8 (by decide) rfl dX2_clauseWord_107 rfl ?_
                  refine e_iload1 dX2_clauseWord_109 ?_
                  refine e_iload2 dX2_clauseWord_110 ?_
                  refine e_cVZ (ct_X2_isWord (d := d - 1) (k := 8) (by omega) hL hl (by decide) hf he) cy_X2_isWord cv_X2_isWord ml_X2_106 la_114 rfl rfl rfl (rok (by omega) (by decide)) (Nat.le_of_ble_eq_true rfl) dX2_clauseWord_111 (fun g111 => ?_) (fun g111 => ?_)
                  · refine e_if_eq (tgt := 120) dX2_clauseWord_114 (by decide) (fun h => absurd h (by decide)) (fun _ => ?_)
                    refine e_bipush dX2_clauseWord_117 rfl kb_8 ?_
                    refine e_iret dX2_clauseWord_119 ?_
                    exact ⟨rfl, by simp only [wordC, wF, if_neg g5, if_neg g18, if_neg g31, if_neg g44, if_neg g57, if_neg g70, if_neg g83, if_neg g97, if_pos g111]; rfl⟩
                  · refine e_if_eq (tgt := 120) dX2_clauseWord_114 (by decide) (fun _ => ?_) (fun h => absurd h (by decide))
                    refine e_aload0 dX2_clauseWord_120 ?_
                    refine e_ldcS 9 (by decide) rfl dX2_clauseWord_121 rfl ?_
                    refine e_iload1 dX2_clauseWord_123 ?_
                    refine e_iload2 dX2_clauseWord_124 ?_
                    refine e_cVZ (ct_X2_isWord (d := d - 1) (k := 9) (by omega) hL hl (by decide) hf he) cy_X2_isWord cv_X2_isWord ml_X2_106 la_114 rfl rfl rfl (rok (by omega) (by decide)) (Nat.le_of_ble_eq_true rfl) dX2_clauseWord_125 (fun g125 => ?_) (fun g125 => ?_)
                    · refine e_if_eq (tgt := 136) dX2_clauseWord_128 (by decide) (fun h => absurd h (by decide)) (fun _ => ?_)
                      refine e_bipush dX2_clauseWord_131 rfl kb_9 ?_
                      refine e_goto (tgt := 137) dX2_clauseWord_133 (by decide) ?_
                      refine e_iret dX2_clauseWord_137 ?_
                      first | exact ⟨rfl, by simp only [wordC, wF, if_neg g5, if_neg g18, if_neg g31, if_neg g44, if_neg g57, if_neg g70, if_neg g83, if_neg g97, if_neg g111, if_pos g125]; rfl⟩ | exact ⟨rfl, by simp only [wordC, wF, if_neg g5, if_neg g18, if_neg g31, if_neg g44, if_neg g57, if_neg g70, if_neg g83, if_neg g97, if_neg g111, if_neg g125]⟩
                    · refine e_if_eq (tgt := 136) dX2_clauseWord_128 (by decide) (fun _ => ?_) (fun h => absurd h (by decide))
                      refine e_iconst dX2_clauseWord_136 rfl kc_m1 ?_
                      refine e_iret dX2_clauseWord_137 ?_
                      first | exact ⟨rfl, by simp only [wordC, wF, if_neg g5, if_neg g18, if_neg g31, if_neg g44, if_neg g57, if_neg g70, if_neg g83, if_neg g97, if_neg g111, if_pos g125]; rfl⟩ | exact ⟨rfl, by simp only [wordC, wF, if_neg g5, if_neg g18, if_neg g31, if_neg g44, if_neg g57, if_neg g70, if_neg g83, if_neg g97, if_neg g111, if_neg g125]⟩
theorem ct_X2_nameWord (hd : 5 ≤ d) (hL : M 114 1 = L) (hl : L ≤ 300) {f e : Nat} (hf : f ≤ e) (he : e ≤ L) : PI l w yX2_nameWord cX2_nameWord 3 d [vR 114, vI (f : Int), vI (e : Int)] M (wordN (M 115) f e) M := by
  refine MT.of [some (vR 114), some (vI (f : Int)), some (vI (e : Int))] ⟨by decide, rfl⟩ rfl (Nat.le_of_ble_eq_true rfl) (fun hA hM => ?_)
  refine e_aload0 dX2_nameWord_0 ?_
  refine e_ldcS 10 (by decide) rfl dX2_nameWord_1 rfl ?_
  refine e_iload1 dX2_nameWord_3 ?_
  refine e_iload2 dX2_nameWord_4 ?_
  refine e_cVZ (ct_X2_isWord (d := d - 1) (k := 10) (by omega) hL hl (by decide) hf he) cy_X2_isWord cv_X2_isWord ml_X2_106 la_114 rfl rfl rfl (rok (by omega) (by decide)) (Nat.le_of_ble_eq_true rfl) dX2_nameWord_5 (fun g5 => ?_) (fun g5 => ?_)
  · refine e_if_eq (tgt := 14) dX2_nameWord_8 (by decide) (fun h => absurd h (by decide)) (fun _ => ?_)
    refine e_bipush dX2_nameWord_11 rfl kb_10 ?_
    refine e_iret dX2_nameWord_13 ?_
    exact ⟨rfl, by simp only [wordN, wF, if_pos g5]; rfl⟩
  · refine e_if_eq (tgt := 14) dX2_nameWord_8 (by decide) (fun _ => ?_) (fun h => absurd h (by decide))
    refine e_aload0 dX2_nameWord_14 ?_
    refine e_ldcS 11 (by decide) rfl dX2_nameWord_15 rfl ?_
    refine e_iload1 dX2_nameWord_17 ?_
    refine e_iload2 dX2_nameWord_18 ?_
    refine e_cVZ (ct_X2_isWord (d := d - 1) (k := 11) (by omega) hL hl (by decide) hf he) cy_X2_isWord cv_X2_isWord ml_X2_106 la_114 rfl rfl rfl (rok (by omega) (by decide)) (Nat.le_of_ble_eq_true rfl) dX2_nameWord_19 (fun g19 => ?_) (fun g19 => ?_)
    · refine e_if_eq (tgt := 28) dX2_nameWord_22 (by decide) (fun h => absurd h (by decide)) (fun _ => ?_)
      refine e_bipush dX2_nameWord_25 rfl kb_11 ?_
      refine e_iret dX2_nameWord_27 ?_
      exact ⟨rfl, by simp only [wordN, wF, if_neg g5, if_pos g19]; rfl⟩
    · refine e_if_eq (tgt := 28) dX2_nameWord_22 (by decide) (fun _ => ?_) (fun h => absurd h (by decide))
      refine e_aload0 dX2_nameWord_28 ?_
      refine e_ldcS 12 (by decide) rfl dX2_nameWord_29 rfl ?_
      refine e_iload1 dX2_nameWord_31 ?_
      refine e_iload2 dX2_nameWord_32 ?_
      refine e_cVZ (ct_X2_isWord (d := d - 1) (k := 12) (by omega) hL hl (by decide) hf he) cy_X2_isWord cv_X2_isWord ml_X2_106 la_114 rfl rfl rfl (rok (by omega) (by decide)) (Nat.le_of_ble_eq_true rfl) dX2_nameWord_33 (fun g33 => ?_) (fun g33 => ?_)
      · refine e_if_eq (tgt := 42) dX2_nameWord_36 (by decide) (fun h => absurd h (by decide)) (fun _ => ?_)
        refine e_bipush dX2_nameWord_39 rfl kb_12 ?_
        refine e_iret dX2_nameWord_41 ?_
        exact ⟨rfl, by simp only [wordN, wF, if_neg g5, if_neg g19, if_pos g33]; rfl⟩
      · refine e_if_eq (tgt := 42) dX2_nameWord_36 (by decide) (fun _ => ?_) (fun h => absurd h (by decide))
        refine e_aload0 dX2_nameWord_42 ?_
        refine e_ldcS 13 (by decide) rfl dX2_nameWord_43 rfl ?_
        refine e_iload1 dX2_nameWord_45 ?_
        refine e_iload2 dX2_nameWord_46 ?_
        refine e_cVZ (ct_X2_isWord (d := d - 1) (k := 13) (by omega) hL hl (by decide) hf he) cy_X2_isWord cv_X2_isWord ml_X2_106 la_114 rfl rfl rfl (rok (by omega) (by decide)) (Nat.le_of_ble_eq_true rfl) dX2_nameWord_47 (fun g47 => ?_) (fun g47 => ?_)
        · refine e_if_eq (tgt := 56) dX2_nameWord_50 (by decide) (fun h => absurd h (by decide)) (fun _ => ?_)
          refine e_bipush dX2_nameWord_53 rfl kb_13 ?_
          refine e_iret dX2_nameWord_55 ?_
          exact ⟨rfl, by simp only [wordN, wF, if_neg g5, if_neg g19, if_neg g33, if_pos g47]; rfl⟩
        · refine e_if_eq (tgt := 56) dX2_nameWord_50 (by decide) (fun _ => ?_) (fun h => absurd h (by decide))
          refine e_aload0 dX2_nameWord_56 ?_
          refine e_ldcS 14 (by decide) rfl dX2_nameWord_57 rfl ?_
          refine e_iload1 dX2_nameWord_59 ?_
          refine e_iload2 dX2_nameWord_60 ?_
          refine e_cVZ (ct_X2_isWord (d := d - 1) (k := 14) (by omega) hL hl (by decide) hf he) cy_X2_isWord cv_X2_isWord ml_X2_106 la_114 rfl rfl rfl (rok (by omega) (by decide)) (Nat.le_of_ble_eq_true rfl) dX2_nameWord_61 (fun g61 => ?_) (fun g61 => ?_)
          · refine e_if_eq (tgt := 70) dX2_nameWord_64 (by decide) (fun h => absurd h (by decide)) (fun _ => ?_)
            refine e_bipush dX2_nameWord_67 rfl kb_14 ?_
            refine e_iret dX2_nameWord_69 ?_
            exact ⟨rfl, by simp only [wordN, wF, if_neg g5, if_neg g19, if_neg g33, if_neg g47, if_pos g61]; rfl⟩
          · refine e_if_eq (tgt := 70) dX2_nameWord_64 (by decide) (fun _ => ?_) (fun h => absurd h (by decide))
            refine e_aload0 dX2_nameWord_70 ?_
            refine e_ldcS 15 (by decide) rfl dX2_nameWord_71 rfl ?_
            refine e_iload1 dX2_nameWord_73 ?_
            refine e_iload2 dX2_nameWord_74 ?_
            refine e_cVZ (ct_X2_isWord (d := d - 1) (k := 15) (by omega) hL hl (by decide) hf he) cy_X2_isWord cv_X2_isWord ml_X2_106 la_114 rfl rfl rfl (rok (by omega) (by decide)) (Nat.le_of_ble_eq_true rfl) dX2_nameWord_75 (fun g75 => ?_) (fun g75 => ?_)
            · refine e_if_eq (tgt := 84) dX2_nameWord_78 (by decide) (fun h => absurd h (by decide)) (fun _ => ?_)
              refine e_bipush dX2_nameWord_81 rfl kb_15 ?_
              refine e_iret dX2_nameWord_83 ?_
              exact ⟨rfl, by simp only [wordN, wF, if_neg g5, if_neg g19, if_neg g33, if_neg g47, if_neg g61, if_pos g75]; rfl⟩
            · refine e_if_eq (tgt := 84) dX2_nameWord_78 (by decide) (fun _ => ?_) (fun h => absurd h (by decide))
              refine e_aload0 dX2_nameWord_84 ?_
              refine e_ldcS 16 (by decide) rfl dX2_nameWord_85 rfl ?_
              refine e_iload1 dX2_nameWord_87 ?_
              refine e_iload2 dX2_nameWord_88 ?_
              refine e_cVZ (ct_X2_isWord (d := d - 1) (k := 16) (by omega) hL hl (by decide) hf he) cy_X2_isWord cv_X2_isWord ml_X2_106 la_114 rfl rfl rfl (rok (by omega) (by decide)) (Nat.le_of_ble_eq_true rfl) dX2_nameWord_89 (fun g89 => ?_) (fun g89 => ?_)
              · refine e_if_eq (tgt := 98) dX2_nameWord_92 (by decide) (fun h => absurd h (by decide)) (fun _ => ?_)
                refine e_bipush dX2_nameWord_95 rfl kb_16 ?_
                refine e_iret dX2_nameWord_97 ?_
                exact ⟨rfl, by simp only [wordN, wF, if_neg g5, if_neg g19, if_neg g33, if_neg g47, if_neg g61, if_neg g75, if_pos g89]; rfl⟩
              · refine e_if_eq (tgt := 98) dX2_nameWord_92 (by decide) (fun _ => ?_) (fun h => absurd h (by decide))
                refine e_aload0 dX2_nameWord_98 ?_
                refine e_ldcS 17 (by decide) rfl dX2_nameWord_99 rfl ?_
                refine e_iload1 dX2_nameWord_101 ?_
                refine e_iload2 dX2_nameWord_102 ?_
                refine e_cVZ (ct_X2_isWord (d := d - 1) (k := 17) (by omega) hL hl (by decide) hf he) cy_X2_isWord cv_X2_isWord ml_X2_106 la_114 rfl rfl rfl (rok (by omega) (by decide)) (Nat.le_of_ble_eq_true rfl) dX2_nameWord_103 (fun g103 => ?_) (fun g103 => ?_)
                · refine e_if_eq (tgt := 114) dX2_nameWord_106 (by decide) (fun h => absurd h (by decide)) (fun _ => ?_)
                  refine e_bipush dX2_nameWord_109 rfl kb_17 ?_
                  refine e_goto (tgt := 115) dX2_nameWord_111 (by decide) ?_
                  refine e_iret dX2_nameWord_115 ?_
                  first | exact ⟨rfl, by simp only [wordN, wF, if_neg g5, if_neg g19, if_neg g33, if_neg g47, if_neg g61, if_neg g75, if_neg g89, if_pos g103]; rfl⟩ | exact ⟨rfl, by simp only [wordN, wF, if_neg g5, if_neg g19, if_neg g33, if_neg g47, if_neg g61, if_neg g75, if_neg g89, if_neg g103]⟩
                · refine e_if_eq (tgt := 114) dX2_nameWord_106 (by decide) (fun _ => ?_) (fun h => absurd h (by decide))
                  refine e_iconst dX2_nameWord_114 rfl kc_m1 ?_
                  refine e_iret dX2_nameWord_115 ?_
                  first | exact ⟨rfl, by simp only [wordN, wF, if_neg g5, if_neg g19, if_neg g33, if_neg g47, if_neg g61, if_neg g75, if_neg g89, if_pos g103]; rfl⟩ | exact ⟨rfl, by simp only [wordN, wF, if_neg g5, if_neg g19, if_neg g33, if_neg g47, if_neg g61, if_neg g75, if_neg g89, if_neg g103]⟩
theorem lt_loop (hd : 6 ≤ d) (hL : M 114 1 = L) (hl : L ≤ 300) (ht : 0 ≤ M 114 5 ∧ M 114 5 < 301) {f : Nat} : ∀ (n a : Nat), f ≤ a → a ≤ L → L ≤ n + a → Q (some (vI (ltE (M 115) L n a : Nat))) (tokM M 2 f (wordV (M 115) f (ltE (M 115) L n a))) → WM l w RX2 cX2_takeWord 4 (some .int) d Q 2 [some (vR 114), some (vI (f : Int)), some (vI (a : Int)), none] [] M := by
  have h27 : ∀ a, f ≤ a → a ≤ L → Q (some (vI (a : Nat))) (tokM M 2 f (wordV (M 115) f a)) → WM l w RX2 cX2_takeWord 4 (some .int) d Q 27 [some (vR 114), some (vI (f : Int)), some (vI (a : Int)), none] [] M := by
    intro a hf ha hQ
    by_cases hc : wordC (M 115) f a = -1
    · have e : wordV (M 115) f a = wordN (M 115) f a := if_pos hc
      rw [e] at hQ
      refine e_aload0 dX2_takeWord_27 ?_
      refine e_iload1 dX2_takeWord_28 ?_
      refine e_iload2 dX2_takeWord_29 ?_
      refine e_cVI (ct_X2_clauseWord (d := d - 1) (by omega) hL hl hf ha) cy_X2_clauseWord cv_X2_clauseWord ml_X2_98 la_114 rfl rfl rfl (rok (by omega) (by decide)) (Nat.le_of_ble_eq_true rfl) dX2_takeWord_30 ?_
      refine e_istore3 dX2_takeWord_33 rfl ?_
      refine e_aload0 dX2_takeWord_34 ?_
      refine e_iconst dX2_takeWord_35 rfl kc_2 ?_
      refine e_iload1 dX2_takeWord_36 ?_
      refine e_iload3 dX2_takeWord_37 ?_
      refine e_iconst dX2_takeWord_38 rfl kc_m1 ?_
      refine e_icmp_ne (tgt := 51) dX2_takeWord_39 (by decide) (fun h => absurd h (by omega)) (fun h39 => ?_)
      refine e_aload0 dX2_takeWord_42 ?_
      refine e_iload1 dX2_takeWord_43 ?_
      refine e_iload2 dX2_takeWord_44 ?_
      refine e_cVI (ct_X2_nameWord (d := d - 1) (by omega) hL hl hf ha) cy_X2_nameWord cv_X2_nameWord ml_X2_101 la_114 rfl rfl rfl (rok (by omega) (by decide)) (Nat.le_of_ble_eq_true rfl) dX2_takeWord_45 ?_
      refine e_goto (tgt := 52) dX2_takeWord_48 (by decide) ?_
      refine e_cVV (ct_X2_addToken (d := d - 1) (by omega) ht) cy_X2_addToken cv_X2_addToken ml_X2_88 la_114 rfl rfl rfl (rok (by omega) (by decide)) (Nat.le_of_ble_eq_true rfl) dX2_takeWord_52 ?_
      refine e_iload2 dX2_takeWord_55 ?_
      refine e_iret dX2_takeWord_56 ?_
      exact hQ
    · have e : wordV (M 115) f a = wordC (M 115) f a := if_neg hc
      rw [e] at hQ
      refine e_aload0 dX2_takeWord_27 ?_
      refine e_iload1 dX2_takeWord_28 ?_
      refine e_iload2 dX2_takeWord_29 ?_
      refine e_cVI (ct_X2_clauseWord (d := d - 1) (by omega) hL hl hf ha) cy_X2_clauseWord cv_X2_clauseWord ml_X2_98 la_114 rfl rfl rfl (rok (by omega) (by decide)) (Nat.le_of_ble_eq_true rfl) dX2_takeWord_30 ?_
      refine e_istore3 dX2_takeWord_33 rfl ?_
      refine e_aload0 dX2_takeWord_34 ?_
      refine e_iconst dX2_takeWord_35 rfl kc_2 ?_
      refine e_iload1 dX2_takeWord_36 ?_
      refine e_iload3 dX2_takeWord_37 ?_
      refine e_iconst dX2_takeWord_38 rfl kc_m1 ?_
      refine e_icmp_ne (tgt := 51) dX2_takeWord_39 (by decide) (fun h39 => ?_) (fun h => absurd h (by omega))
      refine e_iload3 dX2_takeWord_51 ?_
      refine e_cVV (ct_X2_addToken (d := d - 1) (by omega) ht) cy_X2_addToken cv_X2_addToken ml_X2_88 la_114 rfl rfl rfl (rok (by omega) (by decide)) (Nat.le_of_ble_eq_true rfl) dX2_takeWord_52 ?_
      refine e_iload2 dX2_takeWord_55 ?_
      refine e_iret dX2_takeWord_56 ?_
      exact hQ
  intro n
  induction n with
  | zero =>
    intro a hf ha hn hQ
    unfold ltE at hQ
    have h := h27 a hf ha hQ
    refine e_iload2 dX2_takeWord_2 ?_
    refine e_aload0 dX2_takeWord_3 ?_
    refine e_getI fl_X2_15 la_114 rfl dX2_takeWord_4 ?_
    refine WW.ec (y := (L : Int)) (hL) ?_
    refine e_icmp_ge (tgt := 27) dX2_takeWord_7 (by decide) (fun h7 => ?_) (fun h7 => ?_)
    · exact h
    · omega
  | succ n ih =>
    intro a hf ha hn hQ
    unfold ltE at hQ
    by_cases hal : a < L
    · have hb := byt_in hL hl hal
      have hby : PI l w yX2_byteAt cX2_byteAt 2 (d - 1) [vR 114, vI (a : Int)] M (M 115 a) M := by
        have := ct_X2_byteAt (l := l) (w := w) (d := d - 1) (M := M) (i := (a : Int)) (by omega)
        rw [hb] at this
        exact this
      refine e_iload2 dX2_takeWord_2 ?_
      refine e_aload0 dX2_takeWord_3 ?_
      refine e_getI fl_X2_15 la_114 rfl dX2_takeWord_4 ?_
      refine WW.ec (y := (L : Int)) (hL) ?_
      refine e_icmp_ge (tgt := 27) dX2_takeWord_7 (by decide) (fun h7 => ?_) (fun h7 => ?_)
      · first | (exfalso; omega) | (rw [if_neg (fun z => g15 z.2)] at hQ; exact h27 a hf ha hQ)
      · refine e_aload0 dX2_takeWord_10 ?_
        refine e_iload2 dX2_takeWord_11 ?_
        refine e_cVI (hby) cy_X2_byteAt cv_X2_byteAt ml_X2_68 la_114 rfl rfl rfl (rok (by omega) (by decide)) (Nat.le_of_ble_eq_true rfl) dX2_takeWord_12 ?_
        refine e_cSZ (ct_X2_isLetter (d := d - 1) (by omega)) cy_X2_isLetter cs_X2_isLetter ml_X2_79 rfl rfl (rok (by omega) (by decide)) (Nat.le_of_ble_eq_true rfl) dX2_takeWord_15 (fun g15 => ?_) (fun g15 => ?_)
        · refine e_if_eq (tgt := 27) dX2_takeWord_18 (by decide) (fun h => absurd h (by decide)) (fun _ => ?_)
          refine e_iinc2 dX2_takeWord_21 rfl (⟨by omega, by omega⟩) rfl ?_
          refine e_goto (tgt := 2) dX2_takeWord_24 (by decide) ?_
          rw [if_pos ⟨hal, g15⟩] at hQ
          exact ih (a + 1) (by omega) (by omega) (by omega) hQ
        · refine e_if_eq (tgt := 27) dX2_takeWord_18 (by decide) (fun _ => ?_) (fun h => absurd h (by decide))
          first | (exfalso; omega) | (rw [if_neg (fun z => g15 z.2)] at hQ; exact h27 a hf ha hQ)
    · rw [if_neg (fun z => hal z.1)] at hQ
      have h := h27 a hf ha hQ
      refine e_iload2 dX2_takeWord_2 ?_
      refine e_aload0 dX2_takeWord_3 ?_
      refine e_getI fl_X2_15 la_114 rfl dX2_takeWord_4 ?_
      refine WW.ec (y := (L : Int)) (hL) ?_
      refine e_icmp_ge (tgt := 27) dX2_takeWord_7 (by decide) (fun h7 => ?_) (fun h7 => ?_)
      · exact h
      · omega
theorem ct_X2_takeWord (hd : 6 ≤ d) (hL : M 114 1 = L) (hl : L ≤ 300) (ht : 0 ≤ M 114 5 ∧ M 114 5 < 301) {i : Nat} (hi : i ≤ L) : PI l w yX2_takeWord cX2_takeWord 4 d [vR 114, vI (i : Int)] M (ltE (M 115) L L i : Nat) (tokM M 2 i (wordV (M 115) i (ltE (M 115) L L i))) := by
  have h := lt_loop (l := l) (w := w) (d := d) (Q := fun r M' => M' = tokM M 2 i (wordV (M 115) i (ltE (M 115) L L i)) ∧ r = some (vI (ltE (M 115) L L i : Nat))) hd hL hl ht (f := i) L i (Nat.le_refl _) hi (by omega) ⟨rfl, rfl⟩
  refine MT.of [some (vR 114), some (vI (i : Int)), none, none] ⟨by decide, rfl⟩ rfl (Nat.le_of_ble_eq_true rfl) (fun hA hM => ?_)
  refine e_iload1 dX2_takeWord_0 ?_
  refine e_istore2 dX2_takeWord_1 rfl ?_
  exact h
end WORD
