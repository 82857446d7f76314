theorem WW.el {l : Launch} {w : Wd} {own : String} {cc : ByteArray} {nL : Nat} {R : Room} {cs sl : Nat} {A : State → Nat → Prop} {Qf : List Frame → Array Value → State → State → Prop} {Ex : State → Array Value → Method → Prop} {pc : Nat} {L : List (Option MV)} {st : List MV} {M : Mem} {x y : Int} (h : x = y) (k : WW l w own cc nL R cs sl A Qf Ex pc L (vL y :: st) M) : WW l w own cc nL R cs sl A Qf Ex pc L (vL x :: st) M := by
  subst h; exact k
section WAY4
variable {l : Launch} {w : Wd} {d : Nat} {M : Mem} {Q : Option MV → Mem → Prop}
theorem ct_X6_reckonBlame (hd : 3 ≤ d) {c nx ln : Nat} (hl12 : ln ≤ 12) {M1 : Mem} (hW : WP M c nx ln (ln - nx) M1) {h : Int} :
    GI l w yX6_reckonBlame cX6_reckonBlame 7 .boolean d [vR 122, vI h] M1 (fun x M2 => FrS M M2 ∧ ((x = 0 ∧ bL (wO M c nx) (ln - nx) = 0) ∨ (x = 1 ∧ bL (wO M c nx) (ln - nx) ≠ 0 ∧ M2 122 7 = bU (wO M c nx) (wH M c nx) h (ln - nx) / (Nat.gcd (bU (wO M c nx) (wH M c nx) h (ln - nx)).toNat (bL (wO M c nx) (ln - nx)).toNat : Nat) ∧ M2 122 8 = bL (wO M c nx) (ln - nx) / (Nat.gcd (bU (wO M c nx) (wH M c nx) h (ln - nx)).toNat (bL (wO M c nx) (ln - nx)).toNat : Nat)))) := by
  have loop : ∀ (q n : Nat) (M2 : Mem) (x5 x6 : Option MV), n + q = ln - nx → FrS M M2 → M2 123 = M1 123 → M2 124 = M1 124 → M2 122 6 = ln → M2 122 7 = bU (wO M c nx) (wH M c nx) h n → M2 122 8 = bL (wO M c nx) n → WM l w RX6 cX6_reckonBlame 7 (some .boolean) d (fun r M2 => ∃ x, r = some (vI x) ∧ FrS M M2 ∧ ((x = 0 ∧ bL (wO M c nx) (ln - nx) = 0) ∨ (x = 1 ∧ bL (wO M c nx) (ln - nx) ≠ 0 ∧ M2 122 7 = bU (wO M c nx) (wH M c nx) h (ln - nx) / (Nat.gcd (bU (wO M c nx) (wH M c nx) h (ln - nx)).toNat (bL (wO M c nx) (ln - nx)).toNat : Nat) ∧ M2 122 8 = bL (wO M c nx) (ln - nx) / (Nat.gcd (bU (wO M c nx) (wH M c nx) h (ln - nx)).toNat (bL (wO M c nx) (ln - nx)).toNat : Nat)))) 18 [some (vR 122), some (vI h), some (vL (oU (wO M c nx) n)), none, some (vI ((nx + n : Nat) : Int)), x5, x6] [] M2 := by
    intro q
    induction q with
    | zero =>
      intro n M2 x5 x6 hn hf hh ho h6 hu hl
      obtain rfl : n = ln - nx := by omega
      have hb := oUL (wO_ok M c nx) (ln - nx)
      have hbl := bLb (wO_ok M c nx) (ln - nx)
      have hbu := bUb (H := wH M c nx) (a := h) (wO_ok M c nx) (ln - nx)
      have hp := pow12 (n := ln - nx) (by omega)
      by_cases hz : bL (wO M c nx) (ln - nx) = 0
      · refine e_iload4 dX6_reckonBlame_18 ?_
        refine e_if_lt (tgt := 127) dX6_reckonBlame_20 (by decide) (fun h => absurd h (by omega)) (fun h20 => ?_)
        refine e_iload4 dX6_reckonBlame_23 ?_
        refine e_aload0 dX6_reckonBlame_25 ?_
        refine e_getI fl_X6_25 la_122 rfl dX6_reckonBlame_26 ?_
        refine WW.ec (y := (ln : Int)) (h6) ?_
        refine e_icmp_ge (tgt := 127) dX6_reckonBlame_29 (by decide) (fun h29 => ?_) (fun h => absurd h (by omega))
        refine e_aload0 dX6_reckonBlame_127 ?_
        refine e_getL fl_X6_32 la_122 rfl dX6_reckonBlame_128 ?_
        refine WW.el (y := 0) (by rw [hl, hz]) ?_
        refine e_lconst0 dX6_reckonBlame_131 ?_
        refine e_lcmp dX6_reckonBlame_132 ?_
        refine WW.ec (y := 0) (by decide) ?_
        refine e_if_ne (tgt := 138) dX6_reckonBlame_133 (by decide) (fun h => absurd h (by decide)) (fun h133 => ?_)
        refine e_iconst dX6_reckonBlame_136 rfl kc_0 ?_
        refine e_zret dX6_reckonBlame_137 (by decide) ?_
        exact ⟨0, rfl, hf, Or.inl ⟨rfl, hz⟩⟩
      · refine e_iload4 dX6_reckonBlame_18 ?_
        refine e_if_lt (tgt := 127) dX6_reckonBlame_20 (by decide) (fun h => absurd h (by omega)) (fun h20 => ?_)
        refine e_iload4 dX6_reckonBlame_23 ?_
        refine e_aload0 dX6_reckonBlame_25 ?_
        refine e_getI fl_X6_25 la_122 rfl dX6_reckonBlame_26 ?_
        refine WW.ec (y := (ln : Int)) (h6) ?_
        refine e_icmp_ge (tgt := 127) dX6_reckonBlame_29 (by decide) (fun h29 => ?_) (fun h => absurd h (by omega))
        refine e_aload0 dX6_reckonBlame_127 ?_
        refine e_getL fl_X6_32 la_122 rfl dX6_reckonBlame_128 ?_
        rw [hl]
        refine e_lconst0 dX6_reckonBlame_131 ?_
        refine e_lcmp dX6_reckonBlame_132 ?_
        refine WW.ec (y := 1) (by unfold cmpL; rw [if_pos (by omega)]) ?_
        refine e_if_ne (tgt := 138) dX6_reckonBlame_133 (by decide) (fun h133 => ?_) (fun h => absurd h (by decide))
        refine e_aload0 dX6_reckonBlame_138 ?_
        refine e_cVV (ct_X6_shorten (d := d - 1) (by omega) (by rw [hu]; omega) (by rw [hl]; omega)) cy_X6_shorten cv_X6_shorten ml_X6_76 la_122 rfl rfl rfl (rok (by omega) (by decide)) (Nat.le_of_ble_eq_true rfl) dX6_reckonBlame_139 ?_
        refine e_iconst dX6_reckonBlame_142 rfl kc_1 ?_
        refine e_zret dX6_reckonBlame_143 (by decide) ?_
        refine ⟨1, rfl, (hf.up (by omega)).up (by omega), Or.inr ⟨rfl, hz, ?_, ?_⟩⟩
        · rw [up_k (by decide), up_s, hu, hl]
        · rw [up_s, hu, hl]
    | succ q ih =>
      intro n M2 x5 x6 hn hf hh ho h6 hu hl
      have hb := oUL (wO_ok M c nx) n
      have hbl := bLb (wO_ok M c nx) n
      have hbu := bUb (H := wH M c nx) (a := h) (wO_ok M c nx) n
      have hp := pow12 (n := n) (by omega)
      have hb2 := oUL (wO_ok M c nx) (n + 1)
      have hbl2 := bLb (wO_ok M c nx) (n + 1)
      have hbu2 := bUb (H := wH M c nx) (a := h) (wO_ok M c nx) (n + 1)
      have hp2 := pow12 (n := n + 1) (by omega)
      have hr := hW.2.2 n (by omega)
      rw [← ho, ← hh] at hr
      by_cases h1 : wO M c nx n = -1
      · refine e_iload4 dX6_reckonBlame_18 ?_
        refine e_if_lt (tgt := 127) dX6_reckonBlame_20 (by decide) (fun h => absurd h (by omega)) (fun h20 => ?_)
        refine e_iload4 dX6_reckonBlame_23 ?_
        refine e_aload0 dX6_reckonBlame_25 ?_
        refine e_getI fl_X6_25 la_122 rfl dX6_reckonBlame_26 ?_
        refine WW.ec (y := (ln : Int)) (h6) ?_
        refine e_icmp_ge (tgt := 127) dX6_reckonBlame_29 (by decide) (fun h => absurd h (by omega)) (fun h29 => ?_)
        refine e_iload4 dX6_reckonBlame_32 ?_
        refine e_bipush dX6_reckonBlame_34 rfl kb_12 ?_
        refine e_icmp_ge (tgt := 127) dX6_reckonBlame_36 (by decide) (fun h => absurd h (by omega)) (fun h36 => ?_)
        refine e_aload0 dX6_reckonBlame_39 ?_
        refine e_getR fl_X6_15 la_122 rfl dX6_reckonBlame_40 ?_
        refine e_iload4 dX6_reckonBlame_43 ?_
        refine e_iald la_124 (⟨by omega, by omega⟩) dX6_reckonBlame_45 ?_
        refine WW.ec (y := wO M c nx n) (by rw [Int.toNat_natCast]; exact hr.2) ?_
        refine e_iconst dX6_reckonBlame_46 rfl kc_m1 ?_
        refine e_icmp_eq (tgt := 121) dX6_reckonBlame_47 (by decide) (fun h47 => ?_) (fun h => absurd h (fun q => q h1))
        refine e_iinc4 dX6_reckonBlame_121 rfl (⟨by omega, by omega⟩) rfl ?_
        refine e_goto (tgt := 18) dX6_reckonBlame_124 (by decide) ?_
        refine WW.cv (L' := [some (vR 122), some (vI h), some (vL (oU (wO M c nx) (n + 1))), none, some (vI ((nx + (n + 1) : Nat) : Int)), x5, x6]) (by rw [oU, if_pos h1]; rfl) rfl rfl (ih (n + 1) M2 x5 x6 (by omega) hf hh ho h6 (by rw [bU, if_pos h1]; exact hu) (by rw [bL, if_pos h1]; exact hl))
      · have hok := (wO_ok M c nx n).resolve_left h1
        have hu2 : oU (wO M c nx) (n + 1) = oU (wO M c nx) n * (10 - wO M c nx n) := by rw [oU, if_neg h1]
        have hl2 : bL (wO M c nx) (n + 1) = bL (wO M c nx) n * 10 + oU (wO M c nx) n * wO M c nx n := by rw [bL, if_neg h1]
        have hm1 := mulNN hb.1 hok.1
        have hm2 := mulLE hb.1 (Int.le_refl _) hok.1 hok.2
        by_cases h2 : wH M c nx n = h
        · have hv2 : bU (wO M c nx) (wH M c nx) h (n + 1) = bU (wO M c nx) (wH M c nx) h n * 10 + oU (wO M c nx) n * wO M c nx n := by rw [bU, if_neg h1, if_pos h2]
          refine e_iload4 dX6_reckonBlame_18 ?_
          refine e_if_lt (tgt := 127) dX6_reckonBlame_20 (by decide) (fun h => absurd h (by omega)) (fun h20 => ?_)
          refine e_iload4 dX6_reckonBlame_23 ?_
          refine e_aload0 dX6_reckonBlame_25 ?_
          refine e_getI fl_X6_25 la_122 rfl dX6_reckonBlame_26 ?_
          refine WW.ec (y := (ln : Int)) (h6) ?_
          refine e_icmp_ge (tgt := 127) dX6_reckonBlame_29 (by decide) (fun h => absurd h (by omega)) (fun h29 => ?_)
          refine e_iload4 dX6_reckonBlame_32 ?_
          refine e_bipush dX6_reckonBlame_34 rfl kb_12 ?_
          refine e_icmp_ge (tgt := 127) dX6_reckonBlame_36 (by decide) (fun h => absurd h (by omega)) (fun h36 => ?_)
          refine e_aload0 dX6_reckonBlame_39 ?_
          refine e_getR fl_X6_15 la_122 rfl dX6_reckonBlame_40 ?_
          refine e_iload4 dX6_reckonBlame_43 ?_
          refine e_iald la_124 (⟨by omega, by omega⟩) dX6_reckonBlame_45 ?_
          refine WW.ec (y := wO M c nx n) (by rw [Int.toNat_natCast]; exact hr.2) ?_
          refine e_iconst dX6_reckonBlame_46 rfl kc_m1 ?_
          refine e_icmp_eq (tgt := 121) dX6_reckonBlame_47 (by decide) (fun h => absurd h (h1)) (fun h47 => ?_)
          refine e_lload2 dX6_reckonBlame_50 ?_
          refine e_aload0 dX6_reckonBlame_51 ?_
          refine e_getR fl_X6_15 la_122 rfl dX6_reckonBlame_52 ?_
          refine e_iload4 dX6_reckonBlame_55 ?_
          refine e_iald la_124 (⟨by omega, by omega⟩) dX6_reckonBlame_57 ?_
          refine WW.ec (y := wO M c nx n) (by rw [Int.toNat_natCast]; exact hr.2) ?_
          refine e_i2l dX6_reckonBlame_58 ?_
          refine e_lmul dX6_reckonBlame_59 (⟨by omega, by omega⟩) ?_
          refine e_lstore5 dX6_reckonBlame_60 rfl ?_
          refine e_aload0 dX6_reckonBlame_62 ?_
          refine e_aload0 dX6_reckonBlame_63 ?_
          refine e_getL fl_X6_28 la_122 rfl dX6_reckonBlame_64 ?_
          rw [hu]
          refine e_ldc2 dX6_reckonBlame_67 kl_X6_74 ⟨by decide, by decide⟩ ?_
          refine e_lmul dX6_reckonBlame_70 (⟨by omega, by omega⟩) ?_
          refine e_aload0 dX6_reckonBlame_71 ?_
          refine e_getR fl_X6_9 la_122 rfl dX6_reckonBlame_72 ?_
          refine e_iload4 dX6_reckonBlame_75 ?_
          refine e_iald la_123 (⟨by omega, by omega⟩) dX6_reckonBlame_77 ?_
          refine WW.ec (y := wH M c nx n) (by rw [Int.toNat_natCast]; exact hr.1) ?_
          refine e_iload1 dX6_reckonBlame_78 ?_
          refine e_icmp_ne (tgt := 87) dX6_reckonBlame_79 (by decide) (fun h => absurd h (fun q => q h2)) (fun h79 => ?_)
          refine e_lload5 dX6_reckonBlame_82 ?_
          refine e_goto (tgt := 88) dX6_reckonBlame_84 (by decide) ?_
          refine e_ladd dX6_reckonBlame_88 (⟨by omega, by omega⟩) ?_
          refine e_putL fp_X6_28 la_122 rfl dX6_reckonBlame_89 ?_
          refine e_aload0 dX6_reckonBlame_92 ?_
          refine e_aload0 dX6_reckonBlame_93 ?_
          refine e_getL fl_X6_32 la_122 rfl dX6_reckonBlame_94 ?_
          rw [up_k (by decide), hl]
          refine e_ldc2 dX6_reckonBlame_97 kl_X6_74 ⟨by decide, by decide⟩ ?_
          refine e_lmul dX6_reckonBlame_100 (⟨by omega, by omega⟩) ?_
          refine e_lload5 dX6_reckonBlame_101 ?_
          refine e_ladd dX6_reckonBlame_103 (⟨by omega, by omega⟩) ?_
          refine e_putL fp_X6_32 la_122 rfl dX6_reckonBlame_104 ?_
          refine e_lload2 dX6_reckonBlame_107 ?_
          refine e_bipush dX6_reckonBlame_108 rfl kb_10 ?_
          refine e_aload0 dX6_reckonBlame_110 ?_
          refine e_getR fl_X6_15 la_122 rfl dX6_reckonBlame_111 ?_
          refine e_iload4 dX6_reckonBlame_114 ?_
          refine e_iald la_124 (⟨by omega, by omega⟩) dX6_reckonBlame_116 ?_
          refine WW.ec (y := wO M c nx n) (by rw [up_row (by decide), up_row (by decide), Int.toNat_natCast]; exact hr.2) ?_
          refine e_isub dX6_reckonBlame_117 (⟨by omega, by omega⟩) ?_
          refine e_i2l dX6_reckonBlame_118 ?_
          refine e_lmul dX6_reckonBlame_119 (by rw [← hu2]; exact ⟨by omega, by omega⟩) ?_
          refine e_lstore2 dX6_reckonBlame_120 rfl ?_
          refine e_iinc4 dX6_reckonBlame_121 rfl (⟨by omega, by omega⟩) rfl ?_
          refine e_goto (tgt := 18) dX6_reckonBlame_124 (by decide) ?_
          refine WW.cv (L' := [some (vR 122), some (vI h), some (vL (oU (wO M c nx) (n + 1))), none, some (vI ((nx + (n + 1) : Nat) : Int)), _, _]) (by rw [hu2]; rfl) rfl rfl (ih (n + 1) _ _ _ (by omega) ((hf.up (by omega)).up (by omega)) (by rw [up_row (by decide), up_row (by decide)]; exact hh) (by rw [up_row (by decide), up_row (by decide)]; exact ho) (by rw [up_k (by decide), up_k (by decide)]; exact h6) ?_ ?_)
          · rw [up_k (by decide), up_s, hv2]
          · rw [up_s, hl2]
        · have hv2 : bU (wO M c nx) (wH M c nx) h (n + 1) = bU (wO M c nx) (wH M c nx) h n * 10 + 0 := by rw [bU, if_neg h1, if_neg h2]
          refine e_iload4 dX6_reckonBlame_18 ?_
          refine e_if_lt (tgt := 127) dX6_reckonBlame_20 (by decide) (fun h => absurd h (by omega)) (fun h20 => ?_)
          refine e_iload4 dX6_reckonBlame_23 ?_
          refine e_aload0 dX6_reckonBlame_25 ?_
          refine e_getI fl_X6_25 la_122 rfl dX6_reckonBlame_26 ?_
          refine WW.ec (y := (ln : Int)) (h6) ?_
          refine e_icmp_ge (tgt := 127) dX6_reckonBlame_29 (by decide) (fun h => absurd h (by omega)) (fun h29 => ?_)
          refine e_iload4 dX6_reckonBlame_32 ?_
          refine e_bipush dX6_reckonBlame_34 rfl kb_12 ?_
          refine e_icmp_ge (tgt := 127) dX6_reckonBlame_36 (by decide) (fun h => absurd h (by omega)) (fun h36 => ?_)
          refine e_aload0 dX6_reckonBlame_39 ?_
          refine e_getR fl_X6_15 la_122 rfl dX6_reckonBlame_40 ?_
          refine e_iload4 dX6_reckonBlame_43 ?_
          refine e_iald la_124 (⟨by omega, by omega⟩) dX6_reckonBlame_45 ?_
          refine WW.ec (y := wO M c nx n) (by rw [Int.toNat_natCast]; exact hr.2) ?_
          refine e_iconst dX6_reckonBlame_46 rfl kc_m1 ?_
          refine e_icmp_eq (tgt := 121) dX6_reckonBlame_47 (by decide) (fun h => absurd h (h1)) (fun h47 => ?_)
          refine e_lload2 dX6_reckonBlame_50 ?_
          refine e_aload0 dX6_reckonBlame_51 ?_
          refine e_getR fl_X6_15 la_122 rfl dX6_reckonBlame_52 ?_
          refine e_iload4 dX6_reckonBlame_55 ?_
          refine e_iald la_124 (⟨by omega, by omega⟩) dX6_reckonBlame_57 ?_
          refine WW.ec (y := wO M c nx n) (by rw [Int.toNat_natCast]; exact hr.2) ?_
          refine e_i2l dX6_reckonBlame_58 ?_
          refine e_lmul dX6_reckonBlame_59 (⟨by omega, by omega⟩) ?_
          refine e_lstore5 dX6_reckonBlame_60 rfl ?_
          refine e_aload0 dX6_reckonBlame_62 ?_
          refine e_aload0 dX6_reckonBlame_63 ?_
          refine e_getL fl_X6_28 la_122 rfl dX6_reckonBlame_64 ?_
          rw [hu]
          refine e_ldc2 dX6_reckonBlame_67 kl_X6_74 ⟨by decide, by decide⟩ ?_
          refine e_lmul dX6_reckonBlame_70 (⟨by omega, by omega⟩) ?_
          refine e_aload0 dX6_reckonBlame_71 ?_
          refine e_getR fl_X6_9 la_122 rfl dX6_reckonBlame_72 ?_
          refine e_iload4 dX6_reckonBlame_75 ?_
          refine e_iald la_123 (⟨by omega, by omega⟩) dX6_reckonBlame_77 ?_
          refine WW.ec (y := wH M c nx n) (by rw [Int.toNat_natCast]; exact hr.1) ?_
          refine e_iload1 dX6_reckonBlame_78 ?_
          refine e_icmp_ne (tgt := 87) dX6_reckonBlame_79 (by decide) (fun h79 => ?_) (fun h => absurd h (fun q => h2 q))
          refine e_lconst0 dX6_reckonBlame_87 ?_
          refine e_ladd dX6_reckonBlame_88 (⟨by omega, by omega⟩) ?_
          refine e_putL fp_X6_28 la_122 rfl dX6_reckonBlame_89 ?_
          refine e_aload0 dX6_reckonBlame_92 ?_
          refine e_aload0 dX6_reckonBlame_93 ?_
          refine e_getL fl_X6_32 la_122 rfl dX6_reckonBlame_94 ?_
          rw [up_k (by decide), hl]
          refine e_ldc2 dX6_reckonBlame_97 kl_X6_74 ⟨by decide, by decide⟩ ?_
          refine e_lmul dX6_reckonBlame_100 (⟨by omega, by omega⟩) ?_
          refine e_lload5 dX6_reckonBlame_101 ?_
          refine e_ladd dX6_reckonBlame_103 (⟨by omega, by omega⟩) ?_
          refine e_putL fp_X6_32 la_122 rfl dX6_reckonBlame_104 ?_
          refine e_lload2 dX6_reckonBlame_107 ?_
          refine e_bipush dX6_reckonBlame_108 rfl kb_10 ?_
          refine e_aload0 dX6_reckonBlame_110 ?_
          refine e_getR fl_X6_15 la_122 rfl dX6_reckonBlame_111 ?_
          refine e_iload4 dX6_reckonBlame_114 ?_
          refine e_iald la_124 (⟨by omega, by omega⟩) dX6_reckonBlame_116 ?_
          refine WW.ec (y := wO M c nx n) (by rw [up_row (by decide), up_row (by decide), Int.toNat_natCast]; exact hr.2) ?_
          refine e_isub dX6_reckonBlame_117 (⟨by omega, by omega⟩) ?_
          refine e_i2l dX6_reckonBlame_118 ?_
          refine e_lmul dX6_reckonBlame_119 (by rw [← hu2]; exact ⟨by omega, by omega⟩) ?_
          refine e_lstore2 dX6_reckonBlame_120 rfl ?_
          refine e_iinc4 dX6_reckonBlame_121 rfl (⟨by omega, by omega⟩) rfl ?_
          refine e_goto (tgt := 18) dX6_reckonBlame_124 (by decide) ?_
          refine WW.cv (L' := [some (vR 122), some (vI h), some (vL (oU (wO M c nx) (n + 1))), none, some (vI ((nx + (n + 1) : Nat) : Int)), _, _]) (by rw [hu2]; rfl) rfl rfl (ih (n + 1) _ _ _ (by omega) ((hf.up (by omega)).up (by omega)) (by rw [up_row (by decide), up_row (by decide)]; exact hh) (by rw [up_row (by decide), up_row (by decide)]; exact ho) (by rw [up_k (by decide), up_k (by decide)]; exact h6) ?_ ?_)
          · rw [up_k (by decide), up_s, hv2]
          · rw [up_s, hl2]
  refine MT.of [some (vR 122), some (vI h), none, none, none, none, none] ⟨by decide, rfl⟩ rfl (Nat.le_of_ble_eq_true rfl) (fun hA hM => ?_)
  refine e_lconst1 dX6_reckonBlame_0 ?_
  refine e_lstore2 dX6_reckonBlame_1 rfl ?_
  refine e_aload0 dX6_reckonBlame_2 ?_
  refine e_lconst0 dX6_reckonBlame_3 ?_
  refine e_putL fp_X6_28 la_122 rfl dX6_reckonBlame_4 ?_
  refine e_aload0 dX6_reckonBlame_7 ?_
  refine e_lconst0 dX6_reckonBlame_8 ?_
  refine e_putL fp_X6_32 la_122 rfl dX6_reckonBlame_9 ?_
  refine e_aload0 dX6_reckonBlame_12 ?_
  refine e_getI fl_X6_22 la_122 rfl dX6_reckonBlame_13 ?_
  refine WW.ec (y := (nx : Int)) (by rw [up_k (by decide), up_k (by decide)]; exact hW.2.1.2.1) ?_
  refine e_istore4 dX6_reckonBlame_16 rfl ?_
  exact loop (ln - nx) 0 _ none none (by omega) ((hW.1.up (by omega)).up (by omega)) (by rw [up_row (by decide), up_row (by decide)]) (by rw [up_row (by decide), up_row (by decide)]) (by rw [up_k (by decide), up_k (by decide)]; exact hW.2.1.2.2) (by simp [up, bU]) (by simp [up, bL])
end WAY4
