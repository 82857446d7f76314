/-! THE MODEL'S PRICES -/
theorem cntF_len {G : Mem} {c : Nat} (hc : (c : Int) < G 1 5) : ∀ n : Nat, (G 7 c).toNat ≤ n → cntF G c n = cntF G c (G 7 c).toNat
  | 0, h => by rw [show (G 7 c).toNat = 0 by omega]
  | n + 1, h => by
    by_cases q : (G 7 c).toNat = n + 1
    · rw [q]
    · show cntF G c n + (if isIn G c n ∧ ownr G c n = -1 then 1 else 0) = _
      rw [if_neg (fun z => by have := z.1.2.2; rw [toN] at this; omega), cntF_len hc n (by omega)]
      omega
/-- the prices that came, at price p, turning r times from the start, the last turn being t -/
def CM (F : Nat → Int) (p r : Int) (t : Int) : Prop := (t = 0 ∧ r = 0 ∧ ∀ k, k < 100 → F k = 0) ∨ (t = 1 ∧ 1 ≤ r ∧ r ≤ p ∧ F (p - 1).toNat = 1 ∧ ∀ k : Nat, k < 100 → p ≤ k → F k = 0) ∨ (t = -1 ∧ 1 ≤ r ∧ p + r ≤ 99 ∧ F (p + 1).toNat = 1 ∧ ∀ k : Nat, k < 100 → (k : Int) ≤ p → F k = 0)
section MSET
variable {l : Launch} {w : Wd} {d : Nat} {M : Mem} {Q : Option MV → Mem → Prop}
theorem st_zero {c p k0 : Int} (hQ : ∀ N, (∀ o, o ≠ 166 → N o = M o) → (∀ k, k < 100 → N 166 k = 0) → ∀ v, WM l w RX9 cX9_settles 9 (some .int) d Q 53 (some (vR 134) :: some (vI c) :: some (vI p) :: some (vI k0) :: some (vI v) :: none :: none :: none :: none :: []) [] N) : ∀ (q i : Nat) (N : Mem), i + q = 100 → (∀ o, o ≠ 166 → N o = M o) → (∀ k, k < i → N 166 k = 0) → WM l w RX9 cX9_settles 9 (some .int) d Q 32 [some (vR 134), some (vI c), some (vI p), some (vI k0), some (vI (i : Int)), none, none, none, none] [] N
  | 0, i, N, hi, hf, hz => by
    have hq := hQ N hf (fun k hk => hz k (by omega)) (i : Int)
    refine e_iload4 dX9_settles_32 ?_
    refine e_bipush dX9_settles_34 rfl kb_100 ?_
    refine e_icmp_ge (tgt := 53) dX9_settles_36 (by decide) (fun h36 => ?_) (fun h36 => ?_)
    · exact hq
    · omega
  | q + 1, i, N, hi, hf, hz => by
    have ih := st_zero hQ q (i + 1) (up N 166 i 0) (by omega) (fun o ho => by rw [up_row ho]; exact hf o ho) (fun k hk => by
      by_cases e : k = i
      · rw [e, up_s]
      · rw [up_k e]; exact hz k (by omega))
    refine e_iload4 dX9_settles_32 ?_
    refine e_bipush dX9_settles_34 rfl kb_100 ?_
    refine e_icmp_ge (tgt := 53) dX9_settles_36 (by decide) (fun h36 => ?_) (fun h36 => ?_)
    · omega
    · refine e_aload0 dX9_settles_39 ?_
      refine e_getR fl_X9_112 la_134 rfl dX9_settles_40 ?_
      refine e_iload4 dX9_settles_43 ?_
      refine e_iconst dX9_settles_45 rfl kc_0 ?_
      refine e_zastK (k := i) la_166 (by omega) (by omega) (by omega) dX9_settles_46 ?_
      refine e_iinc4 dX9_settles_47 rfl (⟨by omega, by omega⟩) rfl ?_
      refine e_goto (tgt := 32) dX9_settles_50 (by decide) ?_
      exact ih
theorem st_off {G : Mem} (hd : 1 ≤ d) (hg : GS G M) {c : Nat} {p k0 : Int} (hc : (c : Int) < G 1 5) (hQ : ∀ v, WM l w RX9 cX9_settles 9 (some .int) d Q 96 [some (vR 134), some (vI (c : Int)), some (vI p), some (vI k0), some (vI (cntF G c (G 7 c).toNat)), some (vI v), none, none, none] [] M) : ∀ (q i : Nat), i + q = (G 7 c).toNat → WM l w RX9 cX9_settles 9 (some .int) d Q 59 [some (vR 134), some (vI (c : Int)), some (vI p), some (vI k0), some (vI (cntF G c i)), some (vI (i : Int)), none, none, none] [] M
  | 0, i, hi => by
    obtain ⟨⟨a1, a2⟩, _, a6, h6, h7, _⟩ := hg.cn hc
    have hq := hQ (i : Int)
    rw [show (G 7 c).toNat = i by omega] at hq
    refine e_iload5 dX9_settles_59 ?_
    refine e_aload0 dX9_settles_61 ?_
    refine e_iload1 dX9_settles_62 ?_
    refine e_cVI (ct_X9_inchesOf (d := d - 1) h6) cy_X9_inchesOf cv_X9_inchesOf ml_X9_310 la_134 rfl rfl rfl (rok (by omega) (by decide)) (Nat.le_of_ble_eq_true rfl) dX9_settles_63 ?_
    refine WW.ec (y := G 7 c) (a2) ?_
    refine e_icmp_ge (tgt := 96) dX9_settles_66 (by decide) (fun h66 => ?_) (fun h66 => ?_)
    · exact hq
    · omega
  | q + 1, i, hi => by
    obtain ⟨⟨a1, a2⟩, _, a6, h6, h7, _⟩ := hg.cn hc
    have ih := st_off hd hg (p := p) (k0 := k0) hc hQ q (i + 1) (by omega)
    have b := cntF_b G c i
    have hin : isIn G c i := ⟨⟨by omega, hc⟩, by omega, by rw [toN]; omega⟩
    have es : cntF G c (i + 1) = cntF G c i + if isIn G c i ∧ ownr G c i = -1 then 1 else 0 := rfl
    rw [es] at ih
    refine e_iload5 dX9_settles_59 ?_
    refine e_aload0 dX9_settles_61 ?_
    refine e_iload1 dX9_settles_62 ?_
    refine e_cVI (ct_X9_inchesOf (d := d - 1) h6) cy_X9_inchesOf cv_X9_inchesOf ml_X9_310 la_134 rfl rfl rfl (rok (by omega) (by decide)) (Nat.le_of_ble_eq_true rfl) dX9_settles_63 ?_
    refine WW.ec (y := G 7 c) (a2) ?_
    refine e_icmp_ge (tgt := 96) dX9_settles_66 (by decide) (fun h66 => ?_) (fun h66 => ?_)
    · omega
    · refine e_iload4 dX9_settles_69 ?_
      refine e_aload0 dX9_settles_71 ?_
      refine e_iload1 dX9_settles_72 ?_
      refine e_iload5 dX9_settles_73 ?_
      refine e_cVI (ct_X9_ownerOf (d := d - 1) h6 (by omega)) cy_X9_ownerOf cv_X9_ownerOf ml_X9_330 la_134 rfl rfl rfl (rok (by omega) (by decide)) (Nat.le_of_ble_eq_true rfl) dX9_settles_75 ?_
      refine WW.ec (y := ownr G c i) (a6 i (by omega)) ?_
      refine e_iconst dX9_settles_78 rfl kc_m1 ?_
      refine e_icmp_ne (tgt := 86) dX9_settles_79 (by decide) (fun h79 => ?_) (fun h79 => ?_)
      · refine e_iconst dX9_settles_86 rfl kc_0 ?_
        refine e_iadd dX9_settles_87 (⟨by omega, by omega⟩) ?_
        refine e_istore4 dX9_settles_88 rfl ?_
        refine e_iinc5 dX9_settles_90 rfl (⟨by omega, by omega⟩) rfl ?_
        refine e_goto (tgt := 59) dX9_settles_93 (by decide) ?_
        first | (rw [if_pos ⟨hin, h79⟩] at ih; exact ih) | (rw [if_neg (fun z => h79 z.2)] at ih; exact ih)
      · refine e_iconst dX9_settles_82 rfl kc_1 ?_
        refine e_goto (tgt := 87) dX9_settles_83 (by decide) ?_
        refine e_iadd dX9_settles_87 (⟨by omega, by omega⟩) ?_
        refine e_istore4 dX9_settles_88 rfl ?_
        refine e_iinc5 dX9_settles_90 rfl (⟨by omega, by omega⟩) rfl ?_
        refine e_goto (tgt := 59) dX9_settles_93 (by decide) ?_
        first | (rw [if_pos ⟨hin, h79⟩] at ih; exact ih) | (rw [if_neg (fun z => h79 z.2)] at ih; exact ih)
theorem st_ask {G : Mem} (hg : GS G M) {c p k0 f r : Int} {pr : Int} (hQ : ∀ v, WM l w RX9 cX9_settles 9 (some .int) d Q 168 [some (vR 134), some (vI c), some (vI p), some (vI k0), some (vI f), some (vI pr), some (vI r), some (vI (cntH G pr (G 1 0).toNat)), some (vI v)] [] M) : ∀ (q i : Nat), i + q = (G 1 0).toNat → WM l w RX9 cX9_settles 9 (some .int) d Q 126 [some (vR 134), some (vI c), some (vI p), some (vI k0), some (vI f), some (vI pr), some (vI r), some (vI (cntH G pr i)), some (vI (i : Int))] [] M
  | 0, i, hi => by
    have e0 := hg.2.2.1.1.1.1
    have h0 := hg.gm.1.1.1
    have hq := hQ (i : Int)
    rw [show (G 1 0).toNat = i by omega] at hq
    refine e_iload8 dX9_settles_126 ?_
    refine e_aload0 dX9_settles_128 ?_
    refine e_getR fl_X9_7 la_134 rfl dX9_settles_129 ?_
    refine e_iconst dX9_settles_132 rfl kc_0 ?_
    refine e_ialdK (k := 0) la_135 (by decide) (rfl) dX9_settles_133 ?_
    refine WW.ec (y := G 1 0) (e0) ?_
    refine e_icmp_ge (tgt := 168) dX9_settles_134 (by decide) (fun h134 => ?_) (fun h134 => ?_)
    · exact hq
    · omega
  | q + 1, i, hi => by
    have e0 := hg.2.2.1.1.1.1
    have h0 := hg.gm.1.1.1
    have ih := st_ask hg (c := c) (p := p) (k0 := k0) (f := f) (r := r) hQ q (i + 1) (by omega)
    have b := cntH_b G pr i
    have aw := hg.2.2.1.h0 (k := i) (by omega)
    have es : cntH G pr (i + 1) = cntH G pr i + if pr ≤ G 3 i then 1 else 0 := rfl
    rw [es] at ih
    refine e_iload8 dX9_settles_126 ?_
    refine e_aload0 dX9_settles_128 ?_
    refine e_getR fl_X9_7 la_134 rfl dX9_settles_129 ?_
    refine e_iconst dX9_settles_132 rfl kc_0 ?_
    refine e_ialdK (k := 0) la_135 (by decide) (rfl) dX9_settles_133 ?_
    refine WW.ec (y := G 1 0) (e0) ?_
    refine e_icmp_ge (tgt := 168) dX9_settles_134 (by decide) (fun h134 => ?_) (fun h134 => ?_)
    · omega
    · refine e_iload7 dX9_settles_137 ?_
      refine e_aload0 dX9_settles_139 ?_
      refine e_getR fl_X9_7 la_134 rfl dX9_settles_140 ?_
      refine e_bipush dX9_settles_143 rfl kb_40 ?_
      refine e_iload8 dX9_settles_145 ?_
      refine e_iadd dX9_settles_147 (⟨by omega, by omega⟩) ?_
      refine e_ialdK (k := 40 + i) la_135 (by omega) (by omega) dX9_settles_148 ?_
      refine WW.ec (y := G 3 i) (aw.1) ?_
      refine e_iload5 dX9_settles_149 ?_
      refine e_icmp_lt (tgt := 158) dX9_settles_151 (by decide) (fun h151 => ?_) (fun h151 => ?_)
      · refine e_iconst dX9_settles_158 rfl kc_0 ?_
        refine e_iadd dX9_settles_159 (⟨by omega, by omega⟩) ?_
        refine e_istore7 dX9_settles_160 rfl ?_
        refine e_iinc8 dX9_settles_162 rfl (⟨by omega, by omega⟩) rfl ?_
        refine e_goto (tgt := 126) dX9_settles_165 (by decide) ?_
        first | (rw [if_pos (by omega)] at ih; exact ih) | (rw [if_neg (by omega)] at ih; exact ih)
      · refine e_iconst dX9_settles_154 rfl kc_1 ?_
        refine e_goto (tgt := 159) dX9_settles_155 (by decide) ?_
        refine e_iadd dX9_settles_159 (⟨by omega, by omega⟩) ?_
        refine e_istore7 dX9_settles_160 rfl ?_
        refine e_iinc8 dX9_settles_162 rfl (⟨by omega, by omega⟩) rfl ?_
        refine e_goto (tgt := 126) dX9_settles_165 (by decide) ?_
        first | (rw [if_pos (by omega)] at ih; exact ih) | (rw [if_neg (by omega)] at ih; exact ih)
theorem st_loop {G : Mem} (hd : 1 ≤ d) {c p k0 f : Int} (hf : 0 ≤ f ∧ f ≤ 12) : ∀ (n : Nat) (N : Mem) (pr t r : Int) (v7 v8 : Option MV), GS G N → (0 ≤ pr ∧ pr ≤ 99) → r + n = 100 → CM (N 166) pr r t → (∀ N', FQ N N' → Q (some (vI (setl G f k0 n pr t r))) N') → WM l w RX9 cX9_settles 9 (some .int) d Q 102 [some (vR 134), some (vI c), some (vI p), some (vI k0), some (vI f), some (vI pr), some (vI r), v7, v8] [] N
  | 0, N, pr, t, r, v7, v8, hg, hp, hr, hc, hQ => by
    unfold CM at hc
    omega
  | n + 1, N, pr, t, r, v7, v8, hg, hp, hr, hc, hQ => by
    obtain ⟨p', rfl⟩ : ∃ m : Nat, pr = m := ⟨pr.toNat, by omega⟩
    have h0 := hg.gm.1.1.1
    have hr0 : 0 ≤ r ∧ r ≤ 100 := by
      have h2 := hc
      unfold CM at h2
      omega
    have z0 : N 166 p' = 0 := by
      rcases hc with h | h | h
      · exact h.2.2 p' (by omega)
      · exact h.2.2.2.2 p' (by omega) (by omega)
      · exact h.2.2.2.2 p' (by omega) (by omega)
    have hf1 : FQ N (up N 166 p' 1) := (FQ.rf N).up (by decide)
    have hg1 := hg.fq hf1
    have bH := cntH_b G p' (G 1 0).toNat
    have k168 : ∀ v, WM l w RX9 cX9_settles 9 (some .int) d Q 168 [some (vR 134), some (vI c), some (vI p), some (vI k0), some (vI f), some (vI (p' : Int)), some (vI r), some (vI (cntH G p' (G 1 0).toNat)), some (vI v)] [] (up N 166 p' 1) := by
      intro v
      unfold setl at hQ
      by_cases t0 : turnV G p' f = 0
      · rw [if_pos t0] at hQ
        have hq := hQ (up N 166 p' 1) hf1
        have hno : (f < cntH G p' (G 1 0).toNat → (p' : Int) = 99) ∧ (cntH G p' (G 1 0).toNat < f → (p' : Int) = 0) := by
          unfold turnV at t0
          refine ⟨fun a => ?_, fun a => ?_⟩
          · rw [if_pos a] at t0
            by_cases q : (p' : Int) < 99
            · rw [if_pos q] at t0; omega
            · omega
          · rw [if_neg (by omega)] at t0
            by_cases q : (0 : Int) < p'
            · rw [if_pos ⟨a, q⟩] at t0; omega
            · omega
        by_cases kz : k0 = 0
        · rw [if_pos kz] at hq
          refine e_iload7 dX9_settles_168 ?_
          refine e_iload4 dX9_settles_170 ?_
          refine e_icmp_le (tgt := 182) dX9_settles_172 (by decide) (fun h172 => ?_) (fun h172 => ?_)
          · refine e_iload7 dX9_settles_182 ?_
            refine e_iload4 dX9_settles_184 ?_
            refine e_icmp_ge (tgt := 196) dX9_settles_186 (by decide) (fun h186 => ?_) (fun h186 => ?_)
            · refine e_iload5 dX9_settles_196 ?_
              refine e_istore8 dX9_settles_198 rfl ?_
              refine e_iload8 dX9_settles_200 ?_
              refine e_iload5 dX9_settles_202 ?_
              refine e_icmp_eq (tgt := 218) dX9_settles_204 (by decide) (fun h204 => ?_) (fun h204 => ?_)
              · refine e_iload3 dX9_settles_218 ?_
                refine e_if_ne (tgt := 227) dX9_settles_219 (by decide) (fun h219 => ?_) (fun h219 => ?_)
                · refine e_iload5 dX9_settles_227 ?_
                  refine e_iret dX9_settles_229 ?_
                  first | (exfalso; omega) | exact hq
                · refine e_iload6 dX9_settles_222 ?_
                  refine e_goto (tgt := 229) dX9_settles_224 (by decide) ?_
                  refine e_iret dX9_settles_229 ?_
                  first | (exfalso; omega) | exact hq
              · refine e_iload8 dX9_settles_207 ?_
                refine e_iconst dX9_settles_209 rfl kc_0 ?_
                refine e_bipush dX9_settles_210 rfl kb_99 ?_
                refine e_cSZ (ct_X9_in (d := d - 1)) cy_X9_in cs_X9_in ml_X9_120 rfl rfl (rok (by omega) (by decide)) (Nat.le_of_ble_eq_true rfl) dX9_settles_212 (fun g212 => ?_) (fun g212 => ?_)
                · refine e_if_ne (tgt := 230) dX9_settles_215 (by decide) (fun _ => ?_) (fun h => absurd h (by decide))
                  exfalso; omega
                · refine e_if_ne (tgt := 230) dX9_settles_215 (by decide) (fun h => absurd h (by decide)) (fun _ => ?_)
                  refine e_iload3 dX9_settles_218 ?_
                  refine e_if_ne (tgt := 227) dX9_settles_219 (by decide) (fun h219 => ?_) (fun h219 => ?_)
                  · refine e_iload5 dX9_settles_227 ?_
                    refine e_iret dX9_settles_229 ?_
                    first | (exfalso; omega) | exact hq
                  · refine e_iload6 dX9_settles_222 ?_
                    refine e_goto (tgt := 229) dX9_settles_224 (by decide) ?_
                    refine e_iret dX9_settles_229 ?_
                    first | (exfalso; omega) | exact hq
            · refine e_iload5 dX9_settles_189 ?_
              refine e_iconst dX9_settles_191 rfl kc_1 ?_
              refine e_isub dX9_settles_192 (⟨by omega, by omega⟩) ?_
              refine e_goto (tgt := 198) dX9_settles_193 (by decide) ?_
              refine e_istore8 dX9_settles_198 rfl ?_
              refine e_iload8 dX9_settles_200 ?_
              refine e_iload5 dX9_settles_202 ?_
              refine e_icmp_eq (tgt := 218) dX9_settles_204 (by decide) (fun h204 => ?_) (fun h204 => ?_)
              · refine e_iload3 dX9_settles_218 ?_
                refine e_if_ne (tgt := 227) dX9_settles_219 (by decide) (fun h219 => ?_) (fun h219 => ?_)
                · refine e_iload5 dX9_settles_227 ?_
                  refine e_iret dX9_settles_229 ?_
                  first | (exfalso; omega) | exact hq
                · refine e_iload6 dX9_settles_222 ?_
                  refine e_goto (tgt := 229) dX9_settles_224 (by decide) ?_
                  refine e_iret dX9_settles_229 ?_
                  first | (exfalso; omega) | exact hq
              · refine e_iload8 dX9_settles_207 ?_
                refine e_iconst dX9_settles_209 rfl kc_0 ?_
                refine e_bipush dX9_settles_210 rfl kb_99 ?_
                refine e_cSZ (ct_X9_in (d := d - 1)) cy_X9_in cs_X9_in ml_X9_120 rfl rfl (rok (by omega) (by decide)) (Nat.le_of_ble_eq_true rfl) dX9_settles_212 (fun g212 => ?_) (fun g212 => ?_)
                · refine e_if_ne (tgt := 230) dX9_settles_215 (by decide) (fun _ => ?_) (fun h => absurd h (by decide))
                  exfalso; omega
                · refine e_if_ne (tgt := 230) dX9_settles_215 (by decide) (fun h => absurd h (by decide)) (fun _ => ?_)
                  refine e_iload3 dX9_settles_218 ?_
                  refine e_if_ne (tgt := 227) dX9_settles_219 (by decide) (fun h219 => ?_) (fun h219 => ?_)
                  · refine e_iload5 dX9_settles_227 ?_
                    refine e_iret dX9_settles_229 ?_
                    first | (exfalso; omega) | exact hq
                  · refine e_iload6 dX9_settles_222 ?_
                    refine e_goto (tgt := 229) dX9_settles_224 (by decide) ?_
                    refine e_iret dX9_settles_229 ?_
                    first | (exfalso; omega) | exact hq
          · refine e_iload5 dX9_settles_175 ?_
            refine e_iconst dX9_settles_177 rfl kc_1 ?_
            refine e_iadd dX9_settles_178 (⟨by omega, by omega⟩) ?_
            refine e_goto (tgt := 198) dX9_settles_179 (by decide) ?_
            refine e_istore8 dX9_settles_198 rfl ?_
            refine e_iload8 dX9_settles_200 ?_
            refine e_iload5 dX9_settles_202 ?_
            refine e_icmp_eq (tgt := 218) dX9_settles_204 (by decide) (fun h204 => ?_) (fun h204 => ?_)
            · refine e_iload3 dX9_settles_218 ?_
              refine e_if_ne (tgt := 227) dX9_settles_219 (by decide) (fun h219 => ?_) (fun h219 => ?_)
              · refine e_iload5 dX9_settles_227 ?_
                refine e_iret dX9_settles_229 ?_
                first | (exfalso; omega) | exact hq
              · refine e_iload6 dX9_settles_222 ?_
                refine e_goto (tgt := 229) dX9_settles_224 (by decide) ?_
                refine e_iret dX9_settles_229 ?_
                first | (exfalso; omega) | exact hq
            · refine e_iload8 dX9_settles_207 ?_
              refine e_iconst dX9_settles_209 rfl kc_0 ?_
              refine e_bipush dX9_settles_210 rfl kb_99 ?_
              refine e_cSZ (ct_X9_in (d := d - 1)) cy_X9_in cs_X9_in ml_X9_120 rfl rfl (rok (by omega) (by decide)) (Nat.le_of_ble_eq_true rfl) dX9_settles_212 (fun g212 => ?_) (fun g212 => ?_)
              · refine e_if_ne (tgt := 230) dX9_settles_215 (by decide) (fun _ => ?_) (fun h => absurd h (by decide))
                exfalso; omega
              · refine e_if_ne (tgt := 230) dX9_settles_215 (by decide) (fun h => absurd h (by decide)) (fun _ => ?_)
                refine e_iload3 dX9_settles_218 ?_
                refine e_if_ne (tgt := 227) dX9_settles_219 (by decide) (fun h219 => ?_) (fun h219 => ?_)
                · refine e_iload5 dX9_settles_227 ?_
                  refine e_iret dX9_settles_229 ?_
                  first | (exfalso; omega) | exact hq
                · refine e_iload6 dX9_settles_222 ?_
                  refine e_goto (tgt := 229) dX9_settles_224 (by decide) ?_
                  refine e_iret dX9_settles_229 ?_
                  first | (exfalso; omega) | exact hq
        · rw [if_neg kz] at hq
          refine e_iload7 dX9_settles_168 ?_
          refine e_iload4 dX9_settles_170 ?_
          refine e_icmp_le (tgt := 182) dX9_settles_172 (by decide) (fun h172 => ?_) (fun h172 => ?_)
          · refine e_iload7 dX9_settles_182 ?_
            refine e_iload4 dX9_settles_184 ?_
            refine e_icmp_ge (tgt := 196) dX9_settles_186 (by decide) (fun h186 => ?_) (fun h186 => ?_)
            · refine e_iload5 dX9_settles_196 ?_
              refine e_istore8 dX9_settles_198 rfl ?_
              refine e_iload8 dX9_settles_200 ?_
              refine e_iload5 dX9_settles_202 ?_
              refine e_icmp_eq (tgt := 218) dX9_settles_204 (by decide) (fun h204 => ?_) (fun h204 => ?_)
              · refine e_iload3 dX9_settles_218 ?_
                refine e_if_ne (tgt := 227) dX9_settles_219 (by decide) (fun h219 => ?_) (fun h219 => ?_)
                · refine e_iload5 dX9_settles_227 ?_
                  refine e_iret dX9_settles_229 ?_
                  first | (exfalso; omega) | exact hq
                · refine e_iload6 dX9_settles_222 ?_
                  refine e_goto (tgt := 229) dX9_settles_224 (by decide) ?_
                  refine e_iret dX9_settles_229 ?_
                  first | (exfalso; omega) | exact hq
              · refine e_iload8 dX9_settles_207 ?_
                refine e_iconst dX9_settles_209 rfl kc_0 ?_
                refine e_bipush dX9_settles_210 rfl kb_99 ?_
                refine e_cSZ (ct_X9_in (d := d - 1)) cy_X9_in cs_X9_in ml_X9_120 rfl rfl (rok (by omega) (by decide)) (Nat.le_of_ble_eq_true rfl) dX9_settles_212 (fun g212 => ?_) (fun g212 => ?_)
                · refine e_if_ne (tgt := 230) dX9_settles_215 (by decide) (fun _ => ?_) (fun h => absurd h (by decide))
                  exfalso; omega
                · refine e_if_ne (tgt := 230) dX9_settles_215 (by decide) (fun h => absurd h (by decide)) (fun _ => ?_)
                  refine e_iload3 dX9_settles_218 ?_
                  refine e_if_ne (tgt := 227) dX9_settles_219 (by decide) (fun h219 => ?_) (fun h219 => ?_)
                  · refine e_iload5 dX9_settles_227 ?_
                    refine e_iret dX9_settles_229 ?_
                    first | (exfalso; omega) | exact hq
                  · refine e_iload6 dX9_settles_222 ?_
                    refine e_goto (tgt := 229) dX9_settles_224 (by decide) ?_
                    refine e_iret dX9_settles_229 ?_
                    first | (exfalso; omega) | exact hq
            · refine e_iload5 dX9_settles_189 ?_
              refine e_iconst dX9_settles_191 rfl kc_1 ?_
              refine e_isub dX9_settles_192 (⟨by omega, by omega⟩) ?_
              refine e_goto (tgt := 198) dX9_settles_193 (by decide) ?_
              refine e_istore8 dX9_settles_198 rfl ?_
              refine e_iload8 dX9_settles_200 ?_
              refine e_iload5 dX9_settles_202 ?_
              refine e_icmp_eq (tgt := 218) dX9_settles_204 (by decide) (fun h204 => ?_) (fun h204 => ?_)
              · refine e_iload3 dX9_settles_218 ?_
                refine e_if_ne (tgt := 227) dX9_settles_219 (by decide) (fun h219 => ?_) (fun h219 => ?_)
                · refine e_iload5 dX9_settles_227 ?_
                  refine e_iret dX9_settles_229 ?_
                  first | (exfalso; omega) | exact hq
                · refine e_iload6 dX9_settles_222 ?_
                  refine e_goto (tgt := 229) dX9_settles_224 (by decide) ?_
                  refine e_iret dX9_settles_229 ?_
                  first | (exfalso; omega) | exact hq
              · refine e_iload8 dX9_settles_207 ?_
                refine e_iconst dX9_settles_209 rfl kc_0 ?_
                refine e_bipush dX9_settles_210 rfl kb_99 ?_
                refine e_cSZ (ct_X9_in (d := d - 1)) cy_X9_in cs_X9_in ml_X9_120 rfl rfl (rok (by omega) (by decide)) (Nat.le_of_ble_eq_true rfl) dX9_settles_212 (fun g212 => ?_) (fun g212 => ?_)
                · refine e_if_ne (tgt := 230) dX9_settles_215 (by decide) (fun _ => ?_) (fun h => absurd h (by decide))
                  exfalso; omega
                · refine e_if_ne (tgt := 230) dX9_settles_215 (by decide) (fun h => absurd h (by decide)) (fun _ => ?_)
                  refine e_iload3 dX9_settles_218 ?_
                  refine e_if_ne (tgt := 227) dX9_settles_219 (by decide) (fun h219 => ?_) (fun h219 => ?_)
                  · refine e_iload5 dX9_settles_227 ?_
                    refine e_iret dX9_settles_229 ?_
                    first | (exfalso; omega) | exact hq
                  · refine e_iload6 dX9_settles_222 ?_
                    refine e_goto (tgt := 229) dX9_settles_224 (by decide) ?_
                    refine e_iret dX9_settles_229 ?_
                    first | (exfalso; omega) | exact hq
          · refine e_iload5 dX9_settles_175 ?_
            refine e_iconst dX9_settles_177 rfl kc_1 ?_
            refine e_iadd dX9_settles_178 (⟨by omega, by omega⟩) ?_
            refine e_goto (tgt := 198) dX9_settles_179 (by decide) ?_
            refine e_istore8 dX9_settles_198 rfl ?_
            refine e_iload8 dX9_settles_200 ?_
            refine e_iload5 dX9_settles_202 ?_
            refine e_icmp_eq (tgt := 218) dX9_settles_204 (by decide) (fun h204 => ?_) (fun h204 => ?_)
            · refine e_iload3 dX9_settles_218 ?_
              refine e_if_ne (tgt := 227) dX9_settles_219 (by decide) (fun h219 => ?_) (fun h219 => ?_)
              · refine e_iload5 dX9_settles_227 ?_
                refine e_iret dX9_settles_229 ?_
                first | (exfalso; omega) | exact hq
              · refine e_iload6 dX9_settles_222 ?_
                refine e_goto (tgt := 229) dX9_settles_224 (by decide) ?_
                refine e_iret dX9_settles_229 ?_
                first | (exfalso; omega) | exact hq
            · refine e_iload8 dX9_settles_207 ?_
              refine e_iconst dX9_settles_209 rfl kc_0 ?_
              refine e_bipush dX9_settles_210 rfl kb_99 ?_
              refine e_cSZ (ct_X9_in (d := d - 1)) cy_X9_in cs_X9_in ml_X9_120 rfl rfl (rok (by omega) (by decide)) (Nat.le_of_ble_eq_true rfl) dX9_settles_212 (fun g212 => ?_) (fun g212 => ?_)
              · refine e_if_ne (tgt := 230) dX9_settles_215 (by decide) (fun _ => ?_) (fun h => absurd h (by decide))
                exfalso; omega
              · refine e_if_ne (tgt := 230) dX9_settles_215 (by decide) (fun h => absurd h (by decide)) (fun _ => ?_)
                refine e_iload3 dX9_settles_218 ?_
                refine e_if_ne (tgt := 227) dX9_settles_219 (by decide) (fun h219 => ?_) (fun h219 => ?_)
                · refine e_iload5 dX9_settles_227 ?_
                  refine e_iret dX9_settles_229 ?_
                  first | (exfalso; omega) | exact hq
                · refine e_iload6 dX9_settles_222 ?_
                  refine e_goto (tgt := 229) dX9_settles_224 (by decide) ?_
                  refine e_iret dX9_settles_229 ?_
                  first | (exfalso; omega) | exact hq
      · rw [if_neg t0] at hQ
        have htn : (turnV G p' f = 1 ∧ f < cntH G p' (G 1 0).toNat ∧ (p' : Int) < 99) ∨ (turnV G p' f = -1 ∧ cntH G p' (G 1 0).toNat < f ∧ 0 < (p' : Int)) := by
          unfold turnV at t0 ⊢
          by_cases a : f < cntH G p' (G 1 0).toNat
          · rw [if_pos a] at t0 ⊢
            by_cases q : (p' : Int) < 99
            · rw [if_pos q]; exact Or.inl ⟨rfl, a, q⟩
            · rw [if_neg q] at t0; omega
          · rw [if_neg a] at t0 ⊢
            by_cases q : cntH G p' (G 1 0).toNat < f ∧ 0 < (p' : Int)
            · rw [if_pos q]; exact Or.inr ⟨rfl, q⟩
            · rw [if_neg q] at t0; omega
        -- the next round
        have knx : WM l w RX9 cX9_settles 9 (some .int) d Q 102 [some (vR 134), some (vI c), some (vI p), some (vI k0), some (vI f), some (vI ((p' : Int) + turnV G p' f)), some (vI (r + 1)), some (vI (cntH G p' (G 1 0).toNat)), some (vI ((p' : Int) + turnV G p' f))] [] (up N 166 p' 1) := by
          by_cases ab : t ≠ 0 ∧ turnV G p' f ≠ t
          · rw [if_pos ab] at hQ
            have hq := hQ (up N 166 p' 1) hf1
            obtain ⟨m, em⟩ : ∃ m : Nat, (p' : Int) + turnV G p' f = m := ⟨((p' : Int) + turnV G p' f).toNat, by omega⟩
            have e1 : up N 166 p' 1 166 m = 1 := by
              rcases hc with h | h | h
              · exact absurd h.1 ab.1
              · rw [up_k (by omega), show m = ((p' : Int) - 1).toNat by omega]; exact h.2.2.2.1
              · rw [up_k (by omega), show m = ((p' : Int) + 1).toNat by omega]; exact h.2.2.2.1
            rw [em]
            refine e_aload0 dX9_settles_102 ?_
            refine e_getR fl_X9_112 la_134 rfl dX9_settles_103 ?_
            refine e_iload5 dX9_settles_106 ?_
            refine e_zaldK (k := m) la_166 (by omega) (by omega) dX9_settles_108 ?_
            refine WW.ec (y := 1) (e1) ?_
            refine e_if_ne (tgt := 240) dX9_settles_109 (by decide) (fun h109 => ?_) (fun h109 => ?_)
            · refine e_bipush dX9_settles_240 rfl kb_m2 ?_
              refine e_iret dX9_settles_242 ?_
              exact hq
            · omega
          · rw [if_neg ab] at hQ
            refine st_loop hd hf n (up N 166 p' 1) _ _ _ _ _ hg1 (by omega) (by omega) ?_ (fun N' h => hQ N' (hf1.tr h))
            unfold CM at hc ⊢
            rcases htn with ⟨e, _, hl⟩ | ⟨e, _, hl⟩
            · rw [e] at ab ⊢
              refine Or.inr (Or.inl ⟨rfl, by omega, by omega, ?_, fun k hk hk2 => ?_⟩)
              · rw [show ((p' : Int) + 1 - 1).toNat = p' by omega, up_s]
              · rw [up_k (by omega)]
                rcases hc with h | h | h
                · exact h.2.2 k hk
                · exact h.2.2.2.2 k hk (by omega)
                · omega
            · rw [e] at ab ⊢
              refine Or.inr (Or.inr ⟨rfl, by omega, by omega, ?_, fun k hk hk2 => ?_⟩)
              · rw [show ((p' : Int) + -1 + 1).toNat = p' by omega, up_s]
              · rw [up_k (by omega)]
                rcases hc with h | h | h
                · exact h.2.2 k hk
                · omega
                · exact h.2.2.2.2 k hk (by omega)
        refine e_iload7 dX9_settles_168 ?_
        refine e_iload4 dX9_settles_170 ?_
        refine e_icmp_le (tgt := 182) dX9_settles_172 (by decide) (fun h172 => ?_) (fun h172 => ?_)
        · refine e_iload7 dX9_settles_182 ?_
          refine e_iload4 dX9_settles_184 ?_
          refine e_icmp_ge (tgt := 196) dX9_settles_186 (by decide) (fun h186 => ?_) (fun h186 => ?_)
          · refine e_iload5 dX9_settles_196 ?_
            refine e_istore8 dX9_settles_198 rfl ?_
            refine e_iload8 dX9_settles_200 ?_
            refine e_iload5 dX9_settles_202 ?_
            refine e_icmp_eq (tgt := 218) dX9_settles_204 (by decide) (fun h204 => ?_) (fun h204 => ?_)
            · exfalso; omega
            · refine e_iload8 dX9_settles_207 ?_
              refine e_iconst dX9_settles_209 rfl kc_0 ?_
              refine e_bipush dX9_settles_210 rfl kb_99 ?_
              refine e_cSZ (ct_X9_in (d := d - 1)) cy_X9_in cs_X9_in ml_X9_120 rfl rfl (rok (by omega) (by decide)) (Nat.le_of_ble_eq_true rfl) dX9_settles_212 (fun g212 => ?_) (fun g212 => ?_)
              · refine e_if_ne (tgt := 230) dX9_settles_215 (by decide) (fun _ => ?_) (fun h => absurd h (by decide))
                refine e_iload8 dX9_settles_230 ?_
                refine e_istore5 dX9_settles_232 rfl ?_
                refine e_iinc6 dX9_settles_234 rfl (⟨by omega, by omega⟩) rfl ?_
                refine e_goto (tgt := 102) dX9_settles_237 (by decide) ?_
                first | (exfalso; omega) | (rw [show turnV G p' f = 1 by omega] at knx; exact knx) | (rw [show turnV G p' f = -1 by omega] at knx; exact knx)
              · refine e_if_ne (tgt := 230) dX9_settles_215 (by decide) (fun h => absurd h (by decide)) (fun _ => ?_)
                exfalso; omega
          · refine e_iload5 dX9_settles_189 ?_
            refine e_iconst dX9_settles_191 rfl kc_1 ?_
            refine e_isub dX9_settles_192 (⟨by omega, by omega⟩) ?_
            refine e_goto (tgt := 198) dX9_settles_193 (by decide) ?_
            refine e_istore8 dX9_settles_198 rfl ?_
            refine e_iload8 dX9_settles_200 ?_
            refine e_iload5 dX9_settles_202 ?_
            refine e_icmp_eq (tgt := 218) dX9_settles_204 (by decide) (fun h204 => ?_) (fun h204 => ?_)
            · exfalso; omega
            · refine e_iload8 dX9_settles_207 ?_
              refine e_iconst dX9_settles_209 rfl kc_0 ?_
              refine e_bipush dX9_settles_210 rfl kb_99 ?_
              refine e_cSZ (ct_X9_in (d := d - 1)) cy_X9_in cs_X9_in ml_X9_120 rfl rfl (rok (by omega) (by decide)) (Nat.le_of_ble_eq_true rfl) dX9_settles_212 (fun g212 => ?_) (fun g212 => ?_)
              · refine e_if_ne (tgt := 230) dX9_settles_215 (by decide) (fun _ => ?_) (fun h => absurd h (by decide))
                refine e_iload8 dX9_settles_230 ?_
                refine e_istore5 dX9_settles_232 rfl ?_
                refine e_iinc6 dX9_settles_234 rfl (⟨by omega, by omega⟩) rfl ?_
                refine e_goto (tgt := 102) dX9_settles_237 (by decide) ?_
                first | (exfalso; omega) | (rw [show turnV G p' f = 1 by omega] at knx; exact knx) | (rw [show turnV G p' f = -1 by omega] at knx; exact knx)
              · refine e_if_ne (tgt := 230) dX9_settles_215 (by decide) (fun h => absurd h (by decide)) (fun _ => ?_)
                exfalso; omega
        · refine e_iload5 dX9_settles_175 ?_
          refine e_iconst dX9_settles_177 rfl kc_1 ?_
          refine e_iadd dX9_settles_178 (⟨by omega, by omega⟩) ?_
          refine e_goto (tgt := 198) dX9_settles_179 (by decide) ?_
          refine e_istore8 dX9_settles_198 rfl ?_
          refine e_iload8 dX9_settles_200 ?_
          refine e_iload5 dX9_settles_202 ?_
          refine e_icmp_eq (tgt := 218) dX9_settles_204 (by decide) (fun h204 => ?_) (fun h204 => ?_)
          · exfalso; omega
          · refine e_iload8 dX9_settles_207 ?_
            refine e_iconst dX9_settles_209 rfl kc_0 ?_
            refine e_bipush dX9_settles_210 rfl kb_99 ?_
            refine e_cSZ (ct_X9_in (d := d - 1)) cy_X9_in cs_X9_in ml_X9_120 rfl rfl (rok (by omega) (by decide)) (Nat.le_of_ble_eq_true rfl) dX9_settles_212 (fun g212 => ?_) (fun g212 => ?_)
            · refine e_if_ne (tgt := 230) dX9_settles_215 (by decide) (fun _ => ?_) (fun h => absurd h (by decide))
              refine e_iload8 dX9_settles_230 ?_
              refine e_istore5 dX9_settles_232 rfl ?_
              refine e_iinc6 dX9_settles_234 rfl (⟨by omega, by omega⟩) rfl ?_
              refine e_goto (tgt := 102) dX9_settles_237 (by decide) ?_
              first | (exfalso; omega) | (rw [show turnV G p' f = 1 by omega] at knx; exact knx) | (rw [show turnV G p' f = -1 by omega] at knx; exact knx)
            · refine e_if_ne (tgt := 230) dX9_settles_215 (by decide) (fun h => absurd h (by decide)) (fun _ => ?_)
              exfalso; omega
    have h126 := st_ask (l := l) (w := w) (d := d) (M := up N 166 p' 1) (Q := Q) hg1 (c := c) (p := p) (k0 := k0) (f := f) (r := r) (pr := p') k168 (G 1 0).toNat 0 (by omega)
    refine e_aload0 dX9_settles_102 ?_
    refine e_getR fl_X9_112 la_134 rfl dX9_settles_103 ?_
    refine e_iload5 dX9_settles_106 ?_
    refine e_zaldK (k := p') la_166 (by omega) (by omega) dX9_settles_108 ?_
    refine WW.ec (y := 0) (z0) ?_
    refine e_if_ne (tgt := 240) dX9_settles_109 (by decide) (fun h109 => ?_) (fun h109 => ?_)
    · omega
    · refine e_aload0 dX9_settles_112 ?_
      refine e_getR fl_X9_112 la_134 rfl dX9_settles_113 ?_
      refine e_iload5 dX9_settles_116 ?_
      refine e_iconst dX9_settles_118 rfl kc_1 ?_
      refine e_zastK (k := p') la_166 (by omega) (by omega) (by omega) dX9_settles_119 ?_
      refine e_iconst dX9_settles_120 rfl kc_0 ?_
      refine e_istore7 dX9_settles_121 rfl ?_
      refine e_iconst dX9_settles_123 rfl kc_0 ?_
      refine e_istore8 dX9_settles_124 rfl ?_
      exact h126
theorem ct_X9_settles {G : Mem} (hd : 2 ≤ d) (hg : GS G M) {c p k : Int} : GI l w yX9_settles cX9_settles 9 .int d [vR 134, vI c, vI p, vI k] M (fun x M1 => x = settlesV G c p k ∧ FQ M M1) := by
  have nn := hg.nn
  refine MT.of [some (vR 134), some (vI c), some (vI p), some (vI k), none, none, none, none, none] ⟨by decide, rfl⟩ rfl (Nat.le_of_ble_eq_true rfl) (fun hA hM => ?_)
  by_cases ok : isC G c ∧ 0 ≤ p ∧ p ≤ 99 ∧ 0 ≤ k ∧ k ≤ 1
  · obtain ⟨c', rfl⟩ : ∃ n : Nat, c = n := ⟨c.toNat, by have := ok.1.1; omega⟩
    have hc1 := ok.1.2
    obtain ⟨_, _, _, h6, h7, _⟩ := hg.cn hc1
    have h32 := st_zero (l := l) (w := w) (d := d) (M := M) (Q := fun r M1 => ∃ x, r = some (vI x) ∧ x = settlesV G c' p k ∧ FQ M M1) (c := c') (p := p) (k0 := k) (fun N hf hz v => by
      have hfq : FQ M N := fun o ho => hf o (by omega)
      have hgN := hg.fq hfq
      have h59 := st_off (l := l) (w := w) (d := d) (M := N) (Q := fun r M1 => ∃ x, r = some (vI x) ∧ x = settlesV G c' p k ∧ FQ M M1) (by omega) hgN (p := p) (k0 := k) hc1 (fun v => by
        have hl := st_loop (l := l) (w := w) (d := d) (Q := fun r M1 => ∃ x, r = some (vI x) ∧ x = settlesV G c' p k ∧ FQ M M1) (c := c') (p := p) (k0 := k) (f := cntF G c' (G 7 c').toNat) (by omega) (by have := cntF_b G c' (G 7 c').toNat; omega) 100 N p 0 0 none none hgN ⟨ok.2.1, ok.2.2.1⟩ (by omega) (Or.inl ⟨rfl, rfl, hz⟩) (fun N' h => ⟨_, rfl, by unfold settlesV; rw [if_pos ok, cntF_len hc1 12 (by omega)], hfq.tr h⟩)
        refine e_iload2 dX9_settles_96 ?_
        refine e_istore5 dX9_settles_97 rfl ?_
        refine e_iconst dX9_settles_99 rfl kc_0 ?_
        refine e_istore6 dX9_settles_100 rfl ?_
        exact hl) (G 7 c').toNat 0 (by omega)
      refine e_iconst dX9_settles_53 rfl kc_0 ?_
      refine e_istore4 dX9_settles_54 rfl ?_
      refine e_iconst dX9_settles_56 rfl kc_0 ?_
      refine e_istore5 dX9_settles_57 rfl ?_
      exact h59) 100 0 M (by omega) (fun _ _ => rfl) (fun k hk => absurd hk (Nat.not_lt_zero k))
    refine e_aload0 dX9_settles_0 ?_
    refine e_iload1 dX9_settles_1 ?_
    refine e_cVZ (ct_X9_isCandle (d := d - 1) (by omega) nn.2.1) cy_X9_isCandle cv_X9_isCandle ml_X9_320 la_134 rfl rfl rfl (rok (by omega) (by decide)) (Nat.le_of_ble_eq_true rfl) dX9_settles_2 (fun g2 => ?_) (fun g2 => ?_)
    · refine e_if_eq (tgt := 27) dX9_settles_5 (by decide) (fun h => absurd h (by decide)) (fun _ => ?_)
      refine e_iload2 dX9_settles_8 ?_
      refine e_iconst dX9_settles_9 rfl kc_0 ?_
      refine e_bipush dX9_settles_10 rfl kb_99 ?_
      refine e_cSZ (ct_X9_in (d := d - 1)) cy_X9_in cs_X9_in ml_X9_120 rfl rfl (rok (by omega) (by decide)) (Nat.le_of_ble_eq_true rfl) dX9_settles_12 (fun g12 => ?_) (fun g12 => ?_)
      · refine e_if_eq (tgt := 27) dX9_settles_15 (by decide) (fun h => absurd h (by decide)) (fun _ => ?_)
        refine e_iload3 dX9_settles_18 ?_
        refine e_iconst dX9_settles_19 rfl kc_0 ?_
        refine e_iconst dX9_settles_20 rfl kc_1 ?_
        refine e_cSZ (ct_X9_in (d := d - 1)) cy_X9_in cs_X9_in ml_X9_120 rfl rfl (rok (by omega) (by decide)) (Nat.le_of_ble_eq_true rfl) dX9_settles_21 (fun g21 => ?_) (fun g21 => ?_)
        · refine e_if_ne (tgt := 29) dX9_settles_24 (by decide) (fun _ => ?_) (fun h => absurd h (by decide))
          refine e_iconst dX9_settles_29 rfl kc_0 ?_
          refine e_istore4 dX9_settles_30 rfl ?_
          exact h32
        · refine e_if_ne (tgt := 29) dX9_settles_24 (by decide) (fun h => absurd h (by decide)) (fun _ => ?_)
          first | exact absurd ((hg.isC _).mpr ok.1) g2 | (exfalso; omega)
      · refine e_if_eq (tgt := 27) dX9_settles_15 (by decide) (fun _ => ?_) (fun h => absurd h (by decide))
        first | exact absurd ((hg.isC _).mpr ok.1) g2 | (exfalso; omega)
    · refine e_if_eq (tgt := 27) dX9_settles_5 (by decide) (fun _ => ?_) (fun h => absurd h (by decide))
      first | exact absurd ((hg.isC _).mpr ok.1) g2 | (exfalso; omega)
  · refine e_aload0 dX9_settles_0 ?_
    refine e_iload1 dX9_settles_1 ?_
    refine e_cVZ (ct_X9_isCandle (d := d - 1) (by omega) nn.2.1) cy_X9_isCandle cv_X9_isCandle ml_X9_320 la_134 rfl rfl rfl (rok (by omega) (by decide)) (Nat.le_of_ble_eq_true rfl) dX9_settles_2 (fun g2 => ?_) (fun g2 => ?_)
    · refine e_if_eq (tgt := 27) dX9_settles_5 (by decide) (fun h => absurd h (by decide)) (fun _ => ?_)
      refine e_iload2 dX9_settles_8 ?_
      refine e_iconst dX9_settles_9 rfl kc_0 ?_
      refine e_bipush dX9_settles_10 rfl kb_99 ?_
      refine e_cSZ (ct_X9_in (d := d - 1)) cy_X9_in cs_X9_in ml_X9_120 rfl rfl (rok (by omega) (by decide)) (Nat.le_of_ble_eq_true rfl) dX9_settles_12 (fun g12 => ?_) (fun g12 => ?_)
      · refine e_if_eq (tgt := 27) dX9_settles_15 (by decide) (fun h => absurd h (by decide)) (fun _ => ?_)
        refine e_iload3 dX9_settles_18 ?_
        refine e_iconst dX9_settles_19 rfl kc_0 ?_
        refine e_iconst dX9_settles_20 rfl kc_1 ?_
        refine e_cSZ (ct_X9_in (d := d - 1)) cy_X9_in cs_X9_in ml_X9_120 rfl rfl (rok (by omega) (by decide)) (Nat.le_of_ble_eq_true rfl) dX9_settles_21 (fun g21 => ?_) (fun g21 => ?_)
        · refine e_if_ne (tgt := 29) dX9_settles_24 (by decide) (fun _ => ?_) (fun h => absurd h (by decide))
          exact absurd ⟨(hg.isC _).mp g2, g12.1, g12.2, g21.1, g21.2⟩ ok
        · refine e_if_ne (tgt := 29) dX9_settles_24 (by decide) (fun h => absurd h (by decide)) (fun _ => ?_)
          refine e_iconst dX9_settles_27 rfl kc_m1 ?_
          refine e_iret dX9_settles_28 ?_
          exact ⟨_, rfl, by unfold settlesV; rw [if_neg ok], FQ.rf M⟩
      · refine e_if_eq (tgt := 27) dX9_settles_15 (by decide) (fun _ => ?_) (fun h => absurd h (by decide))
        refine e_iconst dX9_settles_27 rfl kc_m1 ?_
        refine e_iret dX9_settles_28 ?_
        exact ⟨_, rfl, by unfold settlesV; rw [if_neg ok], FQ.rf M⟩
    · refine e_if_eq (tgt := 27) dX9_settles_5 (by decide) (fun _ => ?_) (fun h => absurd h (by decide))
      refine e_iconst dX9_settles_27 rfl kc_m1 ?_
      refine e_iret dX9_settles_28 ?_
      exact ⟨_, rfl, by unfold settlesV; rw [if_neg ok], FQ.rf M⟩
end MSET
