/-! THE MODEL'S WORDS -/
def wcode : List Int := [818583781, 584526771, 882252979, 195956, 142713, 749107764, 9133230, 767511091, 3046, 158706, 683629797, 2528155957812, 38146820901, 883071211, 47877618984, 10938600, 227448, 9590964]
def wcF (x : Int) : List Nat → Int
  | [] => -1
  | k :: ks => if x = wcode.getD k 0 then (k : Int) else wcF x ks
def en (B : Nat → Int) (f : Nat) : Nat → Int
  | 0 => 0
  | j + 1 => 64 * en B f j + B (f + j) - 64
theorem en_c {B C : Nat → Int} {f g : Nat} : ∀ n, (∀ i, i < n → B (f + i) = C (g + i)) → en B f n = en C g n
  | 0, _ => rfl
  | n + 1, h => by
    show 64 * en B f n + B (f + n) - 64 = 64 * en C g n + C (g + n) - 64
    rw [en_c n (fun i hi => h i (by omega)), h n (by omega)]
abbrev dg64 (x : Int) : Prop := 65 ≤ x ∧ x ≤ 127
theorem en_b {B : Nat → Int} {f : Nat} : ∀ n, (∀ i, i < n → dg64 (B (f + i))) → 0 ≤ en B f n ∧ en B f n < 64 ^ n
  | 0, _ => ⟨Int.le_refl 0, by show (0 : Int) < 64 ^ 0; decide⟩
  | n + 1, h => by
    have ih := en_b n (fun i hi => h i (by omega))
    have hd := h n (by omega)
    have hp : (64 : Int) ^ (n + 1) = 64 ^ n * 64 := Int.pow_succ _ _
    show 0 ≤ 64 * en B f n + B (f + n) - 64 ∧ 64 * en B f n + B (f + n) - 64 < _
    rw [hp]
    generalize (64 : Int) ^ n = P at ih ⊢
    omega
theorem en_inj {B C : Nat → Int} {f g : Nat} : ∀ n m, (∀ i, i < n → dg64 (B (f + i))) → (∀ i, i < m → dg64 (C (g + i))) → en B f n = en C g m → n = m ∧ ∀ i, i < n → B (f + i) = C (g + i)
  | 0, 0, _, _, _ => ⟨rfl, fun i hi => absurd hi (Nat.not_lt_zero i)⟩
  | 0, m + 1, _, hC, h => by
    have h1 := en_b m (fun i hi => hC i (by omega))
    have h2 := hC m (by omega)
    have h3 : 0 = 64 * en C g m + C (g + m) - 64 := h
    omega
  | n + 1, 0, hB, _, h => by
    have h1 := en_b n (fun i hi => hB i (by omega))
    have h2 := hB n (by omega)
    have h3 : 64 * en B f n + B (f + n) - 64 = 0 := h
    omega
  | n + 1, m + 1, hB, hC, h => by
    have h2 := hB n (by omega)
    have h4 := hC m (by omega)
    have h3 : 64 * en B f n + B (f + n) - 64 = 64 * en C g m + C (g + m) - 64 := h
    have e1 : B (f + n) = C (g + m) := by omega
    have e2 : en B f n = en C g m := by omega
    obtain ⟨e3, e4⟩ := en_inj n m (fun i hi => hB i (by omega)) (fun i hi => hC i (by omega)) e2
    subst e3
    refine ⟨rfl, fun i hi => ?_⟩
    rcases Nat.lt_succ_iff_lt_or_eq.mp hi with q | q
    · exact e4 i q
    · rw [q]; exact e1
theorem str_d : ∀ k, k < 18 → (∀ i, i < strLen.getD k 0 → dg64 (chr k i)) ∧ en (fun i => chr k i) 0 (strLen.getD k 0) = wcode.getD k 0 := by decide +kernel
theorem wEq_en {B : Nat → Int} {f e n k : Nat} (hn : f + n = e) (hB : ∀ i, i < n → dg64 (B (f + i))) (hk : k < 18) : wEq B f e k ↔ en B f n = wcode.getD k 0 := by
  obtain ⟨s1, s2⟩ := str_d k hk
  refine ⟨fun h => ?_, fun h => ?_⟩
  · have hl : n = strLen.getD k 0 := by have := h.1; omega
    rw [← s2, hl]
    exact en_c _ (fun i hi => by rw [h.2 i hi, Nat.zero_add])
  · rw [← s2] at h
    obtain ⟨e1, e2⟩ := en_inj n (strLen.getD k 0) hB (fun i hi => by rw [Nat.zero_add]; exact s1 i hi) h
    exact ⟨by omega, fun i hi => by have := e2 i (by omega); rw [Nat.zero_add] at this; exact this⟩
theorem wF_wc {B : Nat → Int} {f e n : Nat} (hn : f + n = e) (hB : ∀ i, i < n → dg64 (B (f + i))) : ∀ ks : List Nat, (∀ k ∈ ks, k < 18) → wF B f e ks = wcF (en B f n) ks
  | [], _ => rfl
  | k :: ks, h => by
    have hq := wEq_en hn hB (h k List.mem_cons_self)
    unfold wF wcF
    by_cases q : wEq B f e k
    · rw [if_pos q, if_pos (hq.mp q)]
    · rw [if_neg q, if_neg (fun z => q (hq.mpr z)), wF_wc hn hB ks (fun x hx => h x (List.mem_cons_of_mem _ hx))]
theorem wF_app {B : Nat → Int} {f e : Nat} : ∀ a b : List Nat, wF B f e (a ++ b) = if wF B f e a = -1 then wF B f e b else wF B f e a
  | [], b => by
    show wF B f e b = if (-1 : Int) = -1 then wF B f e b else -1
    rw [if_pos rfl]
  | k :: a, b => by
    show (if wEq B f e k then (k : Int) else wF B f e (a ++ b)) = if (if wEq B f e k then (k : Int) else wF B f e a) = -1 then wF B f e b else (if wEq B f e k then (k : Int) else wF B f e a)
    by_cases q : wEq B f e k
    · rw [if_pos q, if_pos q, if_neg (by omega)]
    · rw [if_neg q, if_neg q, wF_app a b]
def all18 : List Nat := [0, 1, 2, 3, 4, 5, 6, 7, 8, 9, 10, 11, 12, 13, 14, 15, 16, 17]
theorem wordV_all (B : Nat → Int) (f e : Nat) : wordV B f e = wF B f e all18 := by
  unfold wordV wordC wordN
  rw [← wF_app]
  rfl
theorem wordV_en {B : Nat → Int} {f e n : Nat} (hn : f + n = e) (hB : ∀ i, i < n → dg64 (B (f + i))) : wordV B f e = wcF (en B f n) all18 := by rw [wordV_all, wF_wc hn hB _ (by decide)]
theorem wF_long {B : Nat → Int} {f e : Nat} (h : f + 7 < e) : ∀ ks : List Nat, (∀ k ∈ ks, k < 18) → wF B f e ks = -1
  | [], _ => rfl
  | k :: ks, hk => by
    have hl := strLen_b k (hk k List.mem_cons_self)
    unfold wF
    rw [if_neg (fun z => by have := z.1; omega), wF_long h ks (fun x hx => hk x (List.mem_cons_of_mem _ hx))]
theorem wordV_long {B : Nat → Int} {f e : Nat} (h : f + 7 < e) : wordV B f e = -1 := by rw [wordV_all]; exact wF_long h _ (by decide)
theorem cmpL_0 (x y : Int) : cmpL x y = 0 ↔ x = y := by have := cmpL_c x y; omega
theorem all18_at : ∀ k, k < 18 → all18 = List.range k ++ k :: all18.drop (k + 1) := by decide
theorem all18_lt : ∀ j ∈ all18, j < 18 := by decide
theorem wcF_at {x : Int} : ∀ (pre : List Nat) (k : Nat) (post : List Nat), (∀ j ∈ pre, x ≠ wcode.getD j 0) → x = wcode.getD k 0 → wcF x (pre ++ k :: post) = k
  | [], k, post, _, h => by
    show (if x = wcode.getD k 0 then (k : Int) else _) = k
    rw [if_pos h]
  | j :: pre, k, post, hn, h => by
    show (if x = wcode.getD j 0 then (j : Int) else wcF x (pre ++ k :: post)) = k
    rw [if_neg (hn j List.mem_cons_self), wcF_at pre k post (fun i hi => hn i (List.mem_cons_of_mem _ hi)) h]
theorem wcF_none {x : Int} : ∀ ks : List Nat, (∀ j ∈ ks, x ≠ wcode.getD j 0) → wcF x ks = -1
  | [], _ => rfl
  | j :: ks, hn => by
    show (if x = wcode.getD j 0 then (j : Int) else wcF x ks) = -1
    rw [if_neg (hn j List.mem_cons_self), wcF_none ks (fun i hi => hn i (List.mem_cons_of_mem _ hi))]
section MWORD
variable {l : Launch} {w : Wd} {d : Nat} {M : Mem} {Q : Option MV → Mem → Prop}
theorem ct_X9_wordOf {x : Int} : PI l w yX9_wordOf cX9_wordOf 2 d [vL x] M (wcF x all18) M := by
  have q : ∀ k, k < 18 → (∀ j, j < k → x ≠ wcode.getD j 0) → x = wcode.getD k 0 → wcF x all18 = k := by
    intro k hk hn he
    rw [all18_at k hk]
    exact wcF_at _ _ _ (fun j hj => hn j (List.mem_range.mp hj)) he
  have q2 : (∀ j, j < 18 → x ≠ wcode.getD j 0) → wcF x all18 = -1 := fun hn => wcF_none _ (fun j hj => hn j (all18_lt j hj))
  refine MT.of [some (vL x), none] ⟨by decide, rfl⟩ rfl (Nat.le_of_ble_eq_true rfl) (fun hA hM => ?_)
  refine e_lload0 dX9_wordOf_0 ?_
  refine e_ldc2 dX9_wordOf_1 kl_X9_135 ⟨by decide, by decide⟩ ?_
  refine e_lcmp dX9_wordOf_4 ?_
  refine e_if_ne (tgt := 10) dX9_wordOf_5 (by decide) (fun h5 => ?_) (fun h5 => ?_)
  · refine e_lload0 dX9_wordOf_10 ?_
    refine e_ldc2 dX9_wordOf_11 kl_X9_137 ⟨by decide, by decide⟩ ?_
    refine e_lcmp dX9_wordOf_14 ?_
    refine e_if_ne (tgt := 20) dX9_wordOf_15 (by decide) (fun h15 => ?_) (fun h15 => ?_)
    · refine e_lload0 dX9_wordOf_20 ?_
      refine e_ldc2 dX9_wordOf_21 kl_X9_139 ⟨by decide, by decide⟩ ?_
      refine e_lcmp dX9_wordOf_24 ?_
      refine e_if_ne (tgt := 30) dX9_wordOf_25 (by decide) (fun h25 => ?_) (fun h25 => ?_)
      · refine e_lload0 dX9_wordOf_30 ?_
        refine e_ldc2 dX9_wordOf_31 kl_X9_141 ⟨by decide, by decide⟩ ?_
        refine e_lcmp dX9_wordOf_34 ?_
        refine e_if_ne (tgt := 40) dX9_wordOf_35 (by decide) (fun h35 => ?_) (fun h35 => ?_)
        · refine e_lload0 dX9_wordOf_40 ?_
          refine e_ldc2 dX9_wordOf_41 kl_X9_143 ⟨by decide, by decide⟩ ?_
          refine e_lcmp dX9_wordOf_44 ?_
          refine e_if_ne (tgt := 50) dX9_wordOf_45 (by decide) (fun h45 => ?_) (fun h45 => ?_)
          · refine e_lload0 dX9_wordOf_50 ?_
            refine e_ldc2 dX9_wordOf_51 kl_X9_145 ⟨by decide, by decide⟩ ?_
            refine e_lcmp dX9_wordOf_54 ?_
            refine e_if_ne (tgt := 60) dX9_wordOf_55 (by decide) (fun h55 => ?_) (fun h55 => ?_)
            · refine e_lload0 dX9_wordOf_60 ?_
              refine e_ldc2 dX9_wordOf_61 kl_X9_147 ⟨by decide, by decide⟩ ?_
              refine e_lcmp dX9_wordOf_64 ?_
              refine e_if_ne (tgt := 71) dX9_wordOf_65 (by decide) (fun h65 => ?_) (fun h65 => ?_)
              · refine e_lload0 dX9_wordOf_71 ?_
                refine e_ldc2 dX9_wordOf_72 kl_X9_149 ⟨by decide, by decide⟩ ?_
                refine e_lcmp dX9_wordOf_75 ?_
                refine e_if_ne (tgt := 82) dX9_wordOf_76 (by decide) (fun h76 => ?_) (fun h76 => ?_)
                · refine e_lload0 dX9_wordOf_82 ?_
                  refine e_ldc2 dX9_wordOf_83 kl_X9_151 ⟨by decide, by decide⟩ ?_
                  refine e_lcmp dX9_wordOf_86 ?_
                  refine e_if_ne (tgt := 93) dX9_wordOf_87 (by decide) (fun h87 => ?_) (fun h87 => ?_)
                  · refine e_lload0 dX9_wordOf_93 ?_
                    refine e_ldc2 dX9_wordOf_94 kl_X9_153 ⟨by decide, by decide⟩ ?_
                    refine e_lcmp dX9_wordOf_97 ?_
                    refine e_if_ne (tgt := 104) dX9_wordOf_98 (by decide) (fun h98 => ?_) (fun h98 => ?_)
                    · refine e_lload0 dX9_wordOf_104 ?_
                      refine e_ldc2 dX9_wordOf_105 kl_X9_155 ⟨by decide, by decide⟩ ?_
                      refine e_lcmp dX9_wordOf_108 ?_
                      refine e_if_ne (tgt := 115) dX9_wordOf_109 (by decide) (fun h109 => ?_) (fun h109 => ?_)
                      · refine e_lload0 dX9_wordOf_115 ?_
                        refine e_ldc2 dX9_wordOf_116 kl_X9_157 ⟨by decide, by decide⟩ ?_
                        refine e_lcmp dX9_wordOf_119 ?_
                        refine e_if_ne (tgt := 126) dX9_wordOf_120 (by decide) (fun h120 => ?_) (fun h120 => ?_)
                        · refine e_lload0 dX9_wordOf_126 ?_
                          refine e_ldc2 dX9_wordOf_127 kl_X9_159 ⟨by decide, by decide⟩ ?_
                          refine e_lcmp dX9_wordOf_130 ?_
                          refine e_if_ne (tgt := 137) dX9_wordOf_131 (by decide) (fun h131 => ?_) (fun h131 => ?_)
                          · refine e_lload0 dX9_wordOf_137 ?_
                            refine e_ldc2 dX9_wordOf_138 kl_X9_161 ⟨by decide, by decide⟩ ?_
                            refine e_lcmp dX9_wordOf_141 ?_
                            refine e_if_ne (tgt := 148) dX9_wordOf_142 (by decide) (fun h142 => ?_) (fun h142 => ?_)
                            · refine e_lload0 dX9_wordOf_148 ?_
                              refine e_ldc2 dX9_wordOf_149 kl_X9_163 ⟨by decide, by decide⟩ ?_
                              refine e_lcmp dX9_wordOf_152 ?_
                              refine e_if_ne (tgt := 159) dX9_wordOf_153 (by decide) (fun h153 => ?_) (fun h153 => ?_)
                              · refine e_lload0 dX9_wordOf_159 ?_
                                refine e_ldc2 dX9_wordOf_160 kl_X9_165 ⟨by decide, by decide⟩ ?_
                                refine e_lcmp dX9_wordOf_163 ?_
                                refine e_if_ne (tgt := 170) dX9_wordOf_164 (by decide) (fun h164 => ?_) (fun h164 => ?_)
                                · refine e_lload0 dX9_wordOf_170 ?_
                                  refine e_ldc2 dX9_wordOf_171 kl_X9_167 ⟨by decide, by decide⟩ ?_
                                  refine e_lcmp dX9_wordOf_174 ?_
                                  refine e_if_ne (tgt := 181) dX9_wordOf_175 (by decide) (fun h175 => ?_) (fun h175 => ?_)
                                  · refine e_lload0 dX9_wordOf_181 ?_
                                    refine e_ldc2 dX9_wordOf_182 kl_X9_169 ⟨by decide, by decide⟩ ?_
                                    refine e_lcmp dX9_wordOf_185 ?_
                                    refine e_if_ne (tgt := 192) dX9_wordOf_186 (by decide) (fun h186 => ?_) (fun h186 => ?_)
                                    · refine e_iconst dX9_wordOf_192 rfl kc_m1 ?_
                                      refine e_iret dX9_wordOf_193 ?_
                                      refine ⟨rfl, congrArg (fun v => some (vI v)) (q2 (fun j hj => ?_)).symm⟩
                                      rcases (show j = 0 ∨ j = 1 ∨ j = 2 ∨ j = 3 ∨ j = 4 ∨ j = 5 ∨ j = 6 ∨ j = 7 ∨ j = 8 ∨ j = 9 ∨ j = 10 ∨ j = 11 ∨ j = 12 ∨ j = 13 ∨ j = 14 ∨ j = 15 ∨ j = 16 ∨ j = 17 by omega) with z | z | z | z | z | z | z | z | z | z | z | z | z | z | z | z | z | z
                                      · subst z; exact fun e => h5 ((cmpL_0 x _).mpr e)
                                      · subst z; exact fun e => h15 ((cmpL_0 x _).mpr e)
                                      · subst z; exact fun e => h25 ((cmpL_0 x _).mpr e)
                                      · subst z; exact fun e => h35 ((cmpL_0 x _).mpr e)
                                      · subst z; exact fun e => h45 ((cmpL_0 x _).mpr e)
                                      · subst z; exact fun e => h55 ((cmpL_0 x _).mpr e)
                                      · subst z; exact fun e => h65 ((cmpL_0 x _).mpr e)
                                      · subst z; exact fun e => h76 ((cmpL_0 x _).mpr e)
                                      · subst z; exact fun e => h87 ((cmpL_0 x _).mpr e)
                                      · subst z; exact fun e => h98 ((cmpL_0 x _).mpr e)
                                      · subst z; exact fun e => h109 ((cmpL_0 x _).mpr e)
                                      · subst z; exact fun e => h120 ((cmpL_0 x _).mpr e)
                                      · subst z; exact fun e => h131 ((cmpL_0 x _).mpr e)
                                      · subst z; exact fun e => h142 ((cmpL_0 x _).mpr e)
                                      · subst z; exact fun e => h153 ((cmpL_0 x _).mpr e)
                                      · subst z; exact fun e => h164 ((cmpL_0 x _).mpr e)
                                      · subst z; exact fun e => h175 ((cmpL_0 x _).mpr e)
                                      · subst z; exact fun e => h186 ((cmpL_0 x _).mpr e)
                                    · refine e_bipush dX9_wordOf_189 rfl kb_17 ?_
                                      refine e_iret dX9_wordOf_191 ?_
                                      refine ⟨rfl, congrArg (fun v => some (vI v)) (q 17 (by decide) (fun j hj => ?_) ((cmpL_0 x _).mp h186)).symm⟩
                                      rcases (show j = 0 ∨ j = 1 ∨ j = 2 ∨ j = 3 ∨ j = 4 ∨ j = 5 ∨ j = 6 ∨ j = 7 ∨ j = 8 ∨ j = 9 ∨ j = 10 ∨ j = 11 ∨ j = 12 ∨ j = 13 ∨ j = 14 ∨ j = 15 ∨ j = 16 by omega) with z | z | z | z | z | z | z | z | z | z | z | z | z | z | z | z | z
                                      · subst z; exact fun e => h5 ((cmpL_0 x _).mpr e)
                                      · subst z; exact fun e => h15 ((cmpL_0 x _).mpr e)
                                      · subst z; exact fun e => h25 ((cmpL_0 x _).mpr e)
                                      · subst z; exact fun e => h35 ((cmpL_0 x _).mpr e)
                                      · subst z; exact fun e => h45 ((cmpL_0 x _).mpr e)
                                      · subst z; exact fun e => h55 ((cmpL_0 x _).mpr e)
                                      · subst z; exact fun e => h65 ((cmpL_0 x _).mpr e)
                                      · subst z; exact fun e => h76 ((cmpL_0 x _).mpr e)
                                      · subst z; exact fun e => h87 ((cmpL_0 x _).mpr e)
                                      · subst z; exact fun e => h98 ((cmpL_0 x _).mpr e)
                                      · subst z; exact fun e => h109 ((cmpL_0 x _).mpr e)
                                      · subst z; exact fun e => h120 ((cmpL_0 x _).mpr e)
                                      · subst z; exact fun e => h131 ((cmpL_0 x _).mpr e)
                                      · subst z; exact fun e => h142 ((cmpL_0 x _).mpr e)
                                      · subst z; exact fun e => h153 ((cmpL_0 x _).mpr e)
                                      · subst z; exact fun e => h164 ((cmpL_0 x _).mpr e)
                                      · subst z; exact fun e => h175 ((cmpL_0 x _).mpr e)
                                  · refine e_bipush dX9_wordOf_178 rfl kb_16 ?_
                                    refine e_iret dX9_wordOf_180 ?_
                                    refine ⟨rfl, congrArg (fun v => some (vI v)) (q 16 (by decide) (fun j hj => ?_) ((cmpL_0 x _).mp h175)).symm⟩
                                    rcases (show j = 0 ∨ j = 1 ∨ j = 2 ∨ j = 3 ∨ j = 4 ∨ j = 5 ∨ j = 6 ∨ j = 7 ∨ j = 8 ∨ j = 9 ∨ j = 10 ∨ j = 11 ∨ j = 12 ∨ j = 13 ∨ j = 14 ∨ j = 15 by omega) with z | z | z | z | z | z | z | z | z | z | z | z | z | z | z | z
                                    · subst z; exact fun e => h5 ((cmpL_0 x _).mpr e)
                                    · subst z; exact fun e => h15 ((cmpL_0 x _).mpr e)
                                    · subst z; exact fun e => h25 ((cmpL_0 x _).mpr e)
                                    · subst z; exact fun e => h35 ((cmpL_0 x _).mpr e)
                                    · subst z; exact fun e => h45 ((cmpL_0 x _).mpr e)
                                    · subst z; exact fun e => h55 ((cmpL_0 x _).mpr e)
                                    · subst z; exact fun e => h65 ((cmpL_0 x _).mpr e)
                                    · subst z; exact fun e => h76 ((cmpL_0 x _).mpr e)
                                    · subst z; exact fun e => h87 ((cmpL_0 x _).mpr e)
                                    · subst z; exact fun e => h98 ((cmpL_0 x _).mpr e)
                                    · subst z; exact fun e => h109 ((cmpL_0 x _).mpr e)
                                    · subst z; exact fun e => h120 ((cmpL_0 x _).mpr e)
                                    · subst z; exact fun e => h131 ((cmpL_0 x _).mpr e)
                                    · subst z; exact fun e => h142 ((cmpL_0 x _).mpr e)
                                    · subst z; exact fun e => h153 ((cmpL_0 x _).mpr e)
                                    · subst z; exact fun e => h164 ((cmpL_0 x _).mpr e)
                                · refine e_bipush dX9_wordOf_167 rfl kb_15 ?_
                                  refine e_iret dX9_wordOf_169 ?_
                                  refine ⟨rfl, congrArg (fun v => some (vI v)) (q 15 (by decide) (fun j hj => ?_) ((cmpL_0 x _).mp h164)).symm⟩
                                  rcases (show j = 0 ∨ j = 1 ∨ j = 2 ∨ j = 3 ∨ j = 4 ∨ j = 5 ∨ j = 6 ∨ j = 7 ∨ j = 8 ∨ j = 9 ∨ j = 10 ∨ j = 11 ∨ j = 12 ∨ j = 13 ∨ j = 14 by omega) with z | z | z | z | z | z | z | z | z | z | z | z | z | z | z
                                  · subst z; exact fun e => h5 ((cmpL_0 x _).mpr e)
                                  · subst z; exact fun e => h15 ((cmpL_0 x _).mpr e)
                                  · subst z; exact fun e => h25 ((cmpL_0 x _).mpr e)
                                  · subst z; exact fun e => h35 ((cmpL_0 x _).mpr e)
                                  · subst z; exact fun e => h45 ((cmpL_0 x _).mpr e)
                                  · subst z; exact fun e => h55 ((cmpL_0 x _).mpr e)
                                  · subst z; exact fun e => h65 ((cmpL_0 x _).mpr e)
                                  · subst z; exact fun e => h76 ((cmpL_0 x _).mpr e)
                                  · subst z; exact fun e => h87 ((cmpL_0 x _).mpr e)
                                  · subst z; exact fun e => h98 ((cmpL_0 x _).mpr e)
                                  · subst z; exact fun e => h109 ((cmpL_0 x _).mpr e)
                                  · subst z; exact fun e => h120 ((cmpL_0 x _).mpr e)
                                  · subst z; exact fun e => h131 ((cmpL_0 x _).mpr e)
                                  · subst z; exact fun e => h142 ((cmpL_0 x _).mpr e)
                                  · subst z; exact fun e => h153 ((cmpL_0 x _).mpr e)
                              · refine e_bipush dX9_wordOf_156 rfl kb_14 ?_
                                refine e_iret dX9_wordOf_158 ?_
                                refine ⟨rfl, congrArg (fun v => some (vI v)) (q 14 (by decide) (fun j hj => ?_) ((cmpL_0 x _).mp h153)).symm⟩
                                rcases (show j = 0 ∨ j = 1 ∨ j = 2 ∨ j = 3 ∨ j = 4 ∨ j = 5 ∨ j = 6 ∨ j = 7 ∨ j = 8 ∨ j = 9 ∨ j = 10 ∨ j = 11 ∨ j = 12 ∨ j = 13 by omega) with z | z | z | z | z | z | z | z | z | z | z | z | z | z
                                · subst z; exact fun e => h5 ((cmpL_0 x _).mpr e)
                                · subst z; exact fun e => h15 ((cmpL_0 x _).mpr e)
                                · subst z; exact fun e => h25 ((cmpL_0 x _).mpr e)
                                · subst z; exact fun e => h35 ((cmpL_0 x _).mpr e)
                                · subst z; exact fun e => h45 ((cmpL_0 x _).mpr e)
                                · subst z; exact fun e => h55 ((cmpL_0 x _).mpr e)
                                · subst z; exact fun e => h65 ((cmpL_0 x _).mpr e)
                                · subst z; exact fun e => h76 ((cmpL_0 x _).mpr e)
                                · subst z; exact fun e => h87 ((cmpL_0 x _).mpr e)
                                · subst z; exact fun e => h98 ((cmpL_0 x _).mpr e)
                                · subst z; exact fun e => h109 ((cmpL_0 x _).mpr e)
                                · subst z; exact fun e => h120 ((cmpL_0 x _).mpr e)
                                · subst z; exact fun e => h131 ((cmpL_0 x _).mpr e)
                                · subst z; exact fun e => h142 ((cmpL_0 x _).mpr e)
                            · refine e_bipush dX9_wordOf_145 rfl kb_13 ?_
                              refine e_iret dX9_wordOf_147 ?_
                              refine ⟨rfl, congrArg (fun v => some (vI v)) (q 13 (by decide) (fun j hj => ?_) ((cmpL_0 x _).mp h142)).symm⟩
                              rcases (show j = 0 ∨ j = 1 ∨ j = 2 ∨ j = 3 ∨ j = 4 ∨ j = 5 ∨ j = 6 ∨ j = 7 ∨ j = 8 ∨ j = 9 ∨ j = 10 ∨ j = 11 ∨ j = 12 by omega) with z | z | z | z | z | z | z | z | z | z | z | z | z
                              · subst z; exact fun e => h5 ((cmpL_0 x _).mpr e)
                              · subst z; exact fun e => h15 ((cmpL_0 x _).mpr e)
                              · subst z; exact fun e => h25 ((cmpL_0 x _).mpr e)
                              · subst z; exact fun e => h35 ((cmpL_0 x _).mpr e)
                              · subst z; exact fun e => h45 ((cmpL_0 x _).mpr e)
                              · subst z; exact fun e => h55 ((cmpL_0 x _).mpr e)
                              · subst z; exact fun e => h65 ((cmpL_0 x _).mpr e)
                              · subst z; exact fun e => h76 ((cmpL_0 x _).mpr e)
                              · subst z; exact fun e => h87 ((cmpL_0 x _).mpr e)
                              · subst z; exact fun e => h98 ((cmpL_0 x _).mpr e)
                              · subst z; exact fun e => h109 ((cmpL_0 x _).mpr e)
                              · subst z; exact fun e => h120 ((cmpL_0 x _).mpr e)
                              · subst z; exact fun e => h131 ((cmpL_0 x _).mpr e)
                          · refine e_bipush dX9_wordOf_134 rfl kb_12 ?_
                            refine e_iret dX9_wordOf_136 ?_
                            refine ⟨rfl, congrArg (fun v => some (vI v)) (q 12 (by decide) (fun j hj => ?_) ((cmpL_0 x _).mp h131)).symm⟩
                            rcases (show j = 0 ∨ j = 1 ∨ j = 2 ∨ j = 3 ∨ j = 4 ∨ j = 5 ∨ j = 6 ∨ j = 7 ∨ j = 8 ∨ j = 9 ∨ j = 10 ∨ j = 11 by omega) with z | z | z | z | z | z | z | z | z | z | z | z
                            · subst z; exact fun e => h5 ((cmpL_0 x _).mpr e)
                            · subst z; exact fun e => h15 ((cmpL_0 x _).mpr e)
                            · subst z; exact fun e => h25 ((cmpL_0 x _).mpr e)
                            · subst z; exact fun e => h35 ((cmpL_0 x _).mpr e)
                            · subst z; exact fun e => h45 ((cmpL_0 x _).mpr e)
                            · subst z; exact fun e => h55 ((cmpL_0 x _).mpr e)
                            · subst z; exact fun e => h65 ((cmpL_0 x _).mpr e)
                            · subst z; exact fun e => h76 ((cmpL_0 x _).mpr e)
                            · subst z; exact fun e => h87 ((cmpL_0 x _).mpr e)
                            · subst z; exact fun e => h98 ((cmpL_0 x _).mpr e)
                            · subst z; exact fun e => h109 ((cmpL_0 x _).mpr e)
                            · subst z; exact fun e => h120 ((cmpL_0 x _).mpr e)
                        · refine e_bipush dX9_wordOf_123 rfl kb_11 ?_
                          refine e_iret dX9_wordOf_125 ?_
                          refine ⟨rfl, congrArg (fun v => some (vI v)) (q 11 (by decide) (fun j hj => ?_) ((cmpL_0 x _).mp h120)).symm⟩
                          rcases (show j = 0 ∨ j = 1 ∨ j = 2 ∨ j = 3 ∨ j = 4 ∨ j = 5 ∨ j = 6 ∨ j = 7 ∨ j = 8 ∨ j = 9 ∨ j = 10 by omega) with z | z | z | z | z | z | z | z | z | z | z
                          · subst z; exact fun e => h5 ((cmpL_0 x _).mpr e)
                          · subst z; exact fun e => h15 ((cmpL_0 x _).mpr e)
                          · subst z; exact fun e => h25 ((cmpL_0 x _).mpr e)
                          · subst z; exact fun e => h35 ((cmpL_0 x _).mpr e)
                          · subst z; exact fun e => h45 ((cmpL_0 x _).mpr e)
                          · subst z; exact fun e => h55 ((cmpL_0 x _).mpr e)
                          · subst z; exact fun e => h65 ((cmpL_0 x _).mpr e)
                          · subst z; exact fun e => h76 ((cmpL_0 x _).mpr e)
                          · subst z; exact fun e => h87 ((cmpL_0 x _).mpr e)
                          · subst z; exact fun e => h98 ((cmpL_0 x _).mpr e)
                          · subst z; exact fun e => h109 ((cmpL_0 x _).mpr e)
                      · refine e_bipush dX9_wordOf_112 rfl kb_10 ?_
                        refine e_iret dX9_wordOf_114 ?_
                        refine ⟨rfl, congrArg (fun v => some (vI v)) (q 10 (by decide) (fun j hj => ?_) ((cmpL_0 x _).mp h109)).symm⟩
                        rcases (show j = 0 ∨ j = 1 ∨ j = 2 ∨ j = 3 ∨ j = 4 ∨ j = 5 ∨ j = 6 ∨ j = 7 ∨ j = 8 ∨ j = 9 by omega) with z | z | z | z | z | z | z | z | z | z
                        · subst z; exact fun e => h5 ((cmpL_0 x _).mpr e)
                        · subst z; exact fun e => h15 ((cmpL_0 x _).mpr e)
                        · subst z; exact fun e => h25 ((cmpL_0 x _).mpr e)
                        · subst z; exact fun e => h35 ((cmpL_0 x _).mpr e)
                        · subst z; exact fun e => h45 ((cmpL_0 x _).mpr e)
                        · subst z; exact fun e => h55 ((cmpL_0 x _).mpr e)
                        · subst z; exact fun e => h65 ((cmpL_0 x _).mpr e)
                        · subst z; exact fun e => h76 ((cmpL_0 x _).mpr e)
                        · subst z; exact fun e => h87 ((cmpL_0 x _).mpr e)
                        · subst z; exact fun e => h98 ((cmpL_0 x _).mpr e)
                    · refine e_bipush dX9_wordOf_101 rfl kb_9 ?_
                      refine e_iret dX9_wordOf_103 ?_
                      refine ⟨rfl, congrArg (fun v => some (vI v)) (q 9 (by decide) (fun j hj => ?_) ((cmpL_0 x _).mp h98)).symm⟩
                      rcases (show j = 0 ∨ j = 1 ∨ j = 2 ∨ j = 3 ∨ j = 4 ∨ j = 5 ∨ j = 6 ∨ j = 7 ∨ j = 8 by omega) with z | z | z | z | z | z | z | z | z
                      · subst z; exact fun e => h5 ((cmpL_0 x _).mpr e)
                      · subst z; exact fun e => h15 ((cmpL_0 x _).mpr e)
                      · subst z; exact fun e => h25 ((cmpL_0 x _).mpr e)
                      · subst z; exact fun e => h35 ((cmpL_0 x _).mpr e)
                      · subst z; exact fun e => h45 ((cmpL_0 x _).mpr e)
                      · subst z; exact fun e => h55 ((cmpL_0 x _).mpr e)
                      · subst z; exact fun e => h65 ((cmpL_0 x _).mpr e)
                      · subst z; exact fun e => h76 ((cmpL_0 x _).mpr e)
                      · subst z; exact fun e => h87 ((cmpL_0 x _).mpr e)
                  · refine e_bipush dX9_wordOf_90 rfl kb_8 ?_
                    refine e_iret dX9_wordOf_92 ?_
                    refine ⟨rfl, congrArg (fun v => some (vI v)) (q 8 (by decide) (fun j hj => ?_) ((cmpL_0 x _).mp h87)).symm⟩
                    rcases (show j = 0 ∨ j = 1 ∨ j = 2 ∨ j = 3 ∨ j = 4 ∨ j = 5 ∨ j = 6 ∨ j = 7 by omega) with z | z | z | z | z | z | z | z
                    · subst z; exact fun e => h5 ((cmpL_0 x _).mpr e)
                    · subst z; exact fun e => h15 ((cmpL_0 x _).mpr e)
                    · subst z; exact fun e => h25 ((cmpL_0 x _).mpr e)
                    · subst z; exact fun e => h35 ((cmpL_0 x _).mpr e)
                    · subst z; exact fun e => h45 ((cmpL_0 x _).mpr e)
                    · subst z; exact fun e => h55 ((cmpL_0 x _).mpr e)
                    · subst z; exact fun e => h65 ((cmpL_0 x _).mpr e)
                    · subst z; exact fun e => h76 ((cmpL_0 x _).mpr e)
                · refine e_bipush dX9_wordOf_79 rfl kb_7 ?_
                  refine e_iret dX9_wordOf_81 ?_
                  refine ⟨rfl, congrArg (fun v => some (vI v)) (q 7 (by decide) (fun j hj => ?_) ((cmpL_0 x _).mp h76)).symm⟩
                  rcases (show j = 0 ∨ j = 1 ∨ j = 2 ∨ j = 3 ∨ j = 4 ∨ j = 5 ∨ j = 6 by omega) with z | z | z | z | z | z | z
                  · subst z; exact fun e => h5 ((cmpL_0 x _).mpr e)
                  · subst z; exact fun e => h15 ((cmpL_0 x _).mpr e)
                  · subst z; exact fun e => h25 ((cmpL_0 x _).mpr e)
                  · subst z; exact fun e => h35 ((cmpL_0 x _).mpr e)
                  · subst z; exact fun e => h45 ((cmpL_0 x _).mpr e)
                  · subst z; exact fun e => h55 ((cmpL_0 x _).mpr e)
                  · subst z; exact fun e => h65 ((cmpL_0 x _).mpr e)
              · refine e_bipush dX9_wordOf_68 rfl kb_6 ?_
                refine e_iret dX9_wordOf_70 ?_
                refine ⟨rfl, congrArg (fun v => some (vI v)) (q 6 (by decide) (fun j hj => ?_) ((cmpL_0 x _).mp h65)).symm⟩
                rcases (show j = 0 ∨ j = 1 ∨ j = 2 ∨ j = 3 ∨ j = 4 ∨ j = 5 by omega) with z | z | z | z | z | z
                · subst z; exact fun e => h5 ((cmpL_0 x _).mpr e)
                · subst z; exact fun e => h15 ((cmpL_0 x _).mpr e)
                · subst z; exact fun e => h25 ((cmpL_0 x _).mpr e)
                · subst z; exact fun e => h35 ((cmpL_0 x _).mpr e)
                · subst z; exact fun e => h45 ((cmpL_0 x _).mpr e)
                · subst z; exact fun e => h55 ((cmpL_0 x _).mpr e)
            · refine e_iconst dX9_wordOf_58 rfl kc_5 ?_
              refine e_iret dX9_wordOf_59 ?_
              refine ⟨rfl, congrArg (fun v => some (vI v)) (q 5 (by decide) (fun j hj => ?_) ((cmpL_0 x _).mp h55)).symm⟩
              rcases (show j = 0 ∨ j = 1 ∨ j = 2 ∨ j = 3 ∨ j = 4 by omega) with z | z | z | z | z
              · subst z; exact fun e => h5 ((cmpL_0 x _).mpr e)
              · subst z; exact fun e => h15 ((cmpL_0 x _).mpr e)
              · subst z; exact fun e => h25 ((cmpL_0 x _).mpr e)
              · subst z; exact fun e => h35 ((cmpL_0 x _).mpr e)
              · subst z; exact fun e => h45 ((cmpL_0 x _).mpr e)
          · refine e_iconst dX9_wordOf_48 rfl kc_4 ?_
            refine e_iret dX9_wordOf_49 ?_
            refine ⟨rfl, congrArg (fun v => some (vI v)) (q 4 (by decide) (fun j hj => ?_) ((cmpL_0 x _).mp h45)).symm⟩
            rcases (show j = 0 ∨ j = 1 ∨ j = 2 ∨ j = 3 by omega) with z | z | z | z
            · subst z; exact fun e => h5 ((cmpL_0 x _).mpr e)
            · subst z; exact fun e => h15 ((cmpL_0 x _).mpr e)
            · subst z; exact fun e => h25 ((cmpL_0 x _).mpr e)
            · subst z; exact fun e => h35 ((cmpL_0 x _).mpr e)
        · refine e_iconst dX9_wordOf_38 rfl kc_3 ?_
          refine e_iret dX9_wordOf_39 ?_
          refine ⟨rfl, congrArg (fun v => some (vI v)) (q 3 (by decide) (fun j hj => ?_) ((cmpL_0 x _).mp h35)).symm⟩
          rcases (show j = 0 ∨ j = 1 ∨ j = 2 by omega) with z | z | z
          · subst z; exact fun e => h5 ((cmpL_0 x _).mpr e)
          · subst z; exact fun e => h15 ((cmpL_0 x _).mpr e)
          · subst z; exact fun e => h25 ((cmpL_0 x _).mpr e)
      · refine e_iconst dX9_wordOf_28 rfl kc_2 ?_
        refine e_iret dX9_wordOf_29 ?_
        refine ⟨rfl, congrArg (fun v => some (vI v)) (q 2 (by decide) (fun j hj => ?_) ((cmpL_0 x _).mp h25)).symm⟩
        rcases (show j = 0 ∨ j = 1 by omega) with z | z
        · subst z; exact fun e => h5 ((cmpL_0 x _).mpr e)
        · subst z; exact fun e => h15 ((cmpL_0 x _).mpr e)
    · refine e_iconst dX9_wordOf_18 rfl kc_1 ?_
      refine e_iret dX9_wordOf_19 ?_
      refine ⟨rfl, congrArg (fun v => some (vI v)) (q 1 (by decide) (fun j hj => ?_) ((cmpL_0 x _).mp h15)).symm⟩
      rcases (show j = 0 by omega) with z
      · subst z; exact fun e => h5 ((cmpL_0 x _).mpr e)
  · refine e_iconst dX9_wordOf_8 rfl kc_0 ?_
    refine e_iret dX9_wordOf_9 ?_
    exact ⟨rfl, congrArg (fun v => some (vI v)) (q 0 (by decide) (fun j hj => absurd hj (Nat.not_lt_zero j)) ((cmpL_0 x _).mp h5)).symm⟩
end MWORD
