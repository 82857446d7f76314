/-! THE MODEL'S SUMS: stacks and orders -/
def frO (M : Mem) : List Int → Prop
  | [] => True
  | x :: r => M 146 r.length = x ∧ frO M r
def wtO (M : Mem) : List (Int × Int) → Prop
  | [] => True
  | x :: r => M 147 r.length = x.1 ∧ M 148 r.length = x.2 ∧ wtO M r
theorem frO_c {M M1 : Mem} (h : M1 146 = M 146) : ∀ {fr : List Int}, frO M fr → frO M1 fr
  | [], _ => trivial
  | x :: r, q => ⟨by rw [h]; exact q.1, frO_c h q.2⟩
theorem wtO_c {M M1 : Mem} (h : M1 147 = M 147) (h2 : M1 148 = M 148) : ∀ {W : List (Int × Int)}, wtO M W → wtO M1 W
  | [], _ => trivial
  | x :: r, q => ⟨by rw [h]; exact q.1, by rw [h2]; exact q.2.1, wtO_c h h2 q.2.2⟩
theorem frO_up {M : Mem} {k : Nat} {v : Int} : ∀ {fr : List Int}, fr.length ≤ k → frO M fr → frO (up M 146 k v) fr
  | [], _, _ => trivial
  | x :: r, h, q => ⟨by rw [up_k (by have : (x :: r).length = r.length + 1 := rfl; omega)]; exact q.1, frO_up (by have : (x :: r).length = r.length + 1 := rfl; omega) q.2⟩
theorem wtO_up7 {M : Mem} {k : Nat} {v : Int} : ∀ {W : List (Int × Int)}, W.length ≤ k → wtO M W → wtO (up M 147 k v) W
  | [], _, _ => trivial
  | x :: r, h, q => ⟨by rw [up_k (by have : (x :: r).length = r.length + 1 := rfl; omega)]; exact q.1, by rw [up_o (by decide)]; exact q.2.1, wtO_up7 (by have : (x :: r).length = r.length + 1 := rfl; omega) q.2.2⟩
theorem wtO_up8 {M : Mem} {k : Nat} {v : Int} : ∀ {W : List (Int × Int)}, W.length ≤ k → wtO M W → wtO (up M 148 k v) W
  | [], _, _ => trivial
  | x :: r, h, q => ⟨by rw [up_o (by decide)]; exact q.1, by rw [up_k (by have : (x :: r).length = r.length + 1 := rfl; omega)]; exact q.2.1, wtO_up8 (by have : (x :: r).length = r.length + 1 := rfl; omega) q.2.2⟩
def EMI (M : Mem) (E : List (Int × Int)) : Prop := M 134 35 = E.length ∧ ∀ (i : Nat) (x : Int × Int), E[i]? = some x → M 154 i = x.1 ∧ M 155 i = x.2
/-- the machine: frames, waits, orders given out, signs open -/
def MB (B : Nat → Int) (L : Nat) (M : Mem) (fr : List Int) (W E : List (Int × Int)) (o : Nat) : Prop := (M 134 14 = L ∧ TPE (M 137) B L) ∧ (M 134 19 = 0 ∧ M 134 20 = -1 ∧ M 134 21 = o) ∧ (M 134 22 = fr.length ∧ frO M fr) ∧ (M 134 24 = W.length ∧ wtO M W) ∧ EMI M E
/-- and between two tokens -/
def MS (B : Nat → Int) (L : Nat) (M : Mem) (t : Nat) (fr : List Int) (W E : List (Int × Int)) (o : Nat) : Prop := CT B L M t ∧ MB B L M fr W E o ∧ E.length + W.length + fr.length ≤ t
/-- the same but for what the machine writes -/
def FS (M M1 : Mem) : Prop := (∀ o, o ≠ 134 → (o < 146 ∨ 148 < o) → o ≠ 154 → o ≠ 155 → M1 o = M o) ∧ ∀ k, (k < 15 ∨ 22 < k) → k ≠ 24 → k ≠ 27 → k ≠ 35 → M1 134 k = M 134 k
theorem FS.rf (M : Mem) : FS M M := ⟨fun _ _ _ _ _ => rfl, fun _ _ _ _ _ => rfl⟩
theorem FS.tr {M M1 M2 : Mem} (h : FS M M1) (h2 : FS M1 M2) : FS M M2 := ⟨fun o a b c e => (h2.1 o a b c e).trans (h.1 o a b c e), fun k a b c e => (h2.2 k a b c e).trans (h.2 k a b c e)⟩
theorem FN.fs {M M1 : Mem} (h : FN M M1) : FS M M1 := ⟨fun o a _ _ _ => h.1 o a, fun k a _ _ _ => h.2 k (by omega)⟩
theorem FS.u {M M1 : Mem} {k : Nat} {v : Int} (h : FS M M1) (hk : (15 ≤ k ∧ k ≤ 22) ∨ k = 24 ∨ k = 27 ∨ k = 35) : FS M (up M1 134 k v) := ⟨fun o a b c e => by rw [up_row a]; exact h.1 o a b c e, fun q a b c e => by rw [up_k (by omega)]; exact h.2 q a b c e⟩
theorem FS.uo {M M1 : Mem} {o k : Nat} {v : Int} (h : FS M M1) (hk : (146 ≤ o ∧ o ≤ 148) ∨ o = 154 ∨ o = 155) : FS M (up M1 o k v) := ⟨fun q a b c e => by rw [up_row (by omega)]; exact h.1 q a b c e, fun q a b c e => by rw [up_o (by omega)]; exact h.2 q a b c e⟩
def emM (M : Mem) (x y : Int) : Mem := up (up (up M 154 (M 134 35).toNat x) 155 (M 134 35).toNat y) 134 35 (M 134 35 + 1)
def ofM (M : Mem) (f : Int) : Mem := up (up M 146 (M 134 22).toNat f) 134 22 (M 134 22 + 1)
def erM (M : Mem) (f : Int) : Mem := up (up M 134 19 f) 134 20 (M 134 16)
theorem FS.em {M M1 : Mem} {x y : Int} (h : FS M M1) : FS M (emM M1 x y) := ((h.uo (by omega)).uo (by omega)).u (by omega)
theorem FS.of {M M1 : Mem} {f : Int} (h : FS M M1) : FS M (ofM M1 f) := (h.uo (by omega)).u (by omega)
theorem FS.er {M M1 : Mem} {f : Int} (h : FS M M1) : FS M (erM M1 f) := (h.u (by omega)).u (by omega)
section MSUM
variable {l : Launch} {w : Wd} {d : Nat} {M : Mem} {Q : Option MV → Mem → Prop}
theorem ct_X9_isSign {s : Int} : PZ l w yX9_isSign cX9_isSign 2 d [vR 134, vI s] M (M 134 17 = 3 ∧ M 134 18 = s) := by
  refine MT.of [some (vR 134), some (vI s)] ⟨by decide, rfl⟩ rfl (Nat.le_of_ble_eq_true rfl) (fun hA hM => ?_)
  refine e_aload0 dX9_isSign_0 ?_
  refine e_getI fl_X9_180 la_134 rfl dX9_isSign_1 ?_
  refine e_iconst dX9_isSign_4 rfl kc_3 ?_
  refine e_icmp_ne (tgt := 20) dX9_isSign_5 (by decide) (fun h5 => ?_) (fun h5 => ?_)
  · refine e_iconst dX9_isSign_20 rfl kc_0 ?_
    refine e_zret dX9_isSign_21 (by decide) ?_
    exact ⟨rfl, Or.inr ⟨rfl, by omega⟩⟩
  · refine e_aload0 dX9_isSign_8 ?_
    refine e_getI fl_X9_193 la_134 rfl dX9_isSign_9 ?_
    refine e_iload1 dX9_isSign_12 ?_
    refine e_icmp_ne (tgt := 20) dX9_isSign_13 (by decide) (fun h13 => ?_) (fun h13 => ?_)
    · refine e_iconst dX9_isSign_20 rfl kc_0 ?_
      refine e_zret dX9_isSign_21 (by decide) ?_
      exact ⟨rfl, Or.inr ⟨rfl, by omega⟩⟩
    · refine e_iconst dX9_isSign_16 rfl kc_1 ?_
      refine e_goto (tgt := 21) dX9_isSign_17 (by decide) ?_
      refine e_zret dX9_isSign_21 (by decide) ?_
      exact ⟨rfl, Or.inl ⟨rfl, by omega⟩⟩
theorem ct_X9_isWord {s : Int} : PZ l w yX9_isWord cX9_isWord 2 d [vR 134, vI s] M (M 134 17 = 1 ∧ M 134 18 = s) := by
  refine MT.of [some (vR 134), some (vI s)] ⟨by decide, rfl⟩ rfl (Nat.le_of_ble_eq_true rfl) (fun hA hM => ?_)
  refine e_aload0 dX9_isWord_0 ?_
  refine e_getI fl_X9_180 la_134 rfl dX9_isWord_1 ?_
  refine e_iconst dX9_isWord_4 rfl kc_1 ?_
  refine e_icmp_ne (tgt := 20) dX9_isWord_5 (by decide) (fun h5 => ?_) (fun h5 => ?_)
  · refine e_iconst dX9_isWord_20 rfl kc_0 ?_
    refine e_zret dX9_isWord_21 (by decide) ?_
    exact ⟨rfl, Or.inr ⟨rfl, by omega⟩⟩
  · refine e_aload0 dX9_isWord_8 ?_
    refine e_getI fl_X9_193 la_134 rfl dX9_isWord_9 ?_
    refine e_iload1 dX9_isWord_12 ?_
    refine e_icmp_ne (tgt := 20) dX9_isWord_13 (by decide) (fun h13 => ?_) (fun h13 => ?_)
    · refine e_iconst dX9_isWord_20 rfl kc_0 ?_
      refine e_zret dX9_isWord_21 (by decide) ?_
      exact ⟨rfl, Or.inr ⟨rfl, by omega⟩⟩
    · refine e_iconst dX9_isWord_16 rfl kc_1 ?_
      refine e_goto (tgt := 21) dX9_isWord_17 (by decide) ?_
      refine e_zret dX9_isWord_21 (by decide) ?_
      exact ⟨rfl, Or.inl ⟨rfl, by omega⟩⟩
theorem ct_X9_errs0 {f : Int} (h : M 134 19 = 0) : PV l w yX9_errs cX9_errs 2 d [vR 134, vI f] M (erM M f) := by
  refine MT.of [some (vR 134), some (vI f)] ⟨by decide, rfl⟩ rfl (Nat.le_of_ble_eq_true rfl) (fun hA hM => ?_)
  refine e_aload0 dX9_errs_0 ?_
  refine e_getI fl_X9_197 la_134 rfl dX9_errs_1 ?_
  refine e_if_ne (tgt := 20) dX9_errs_4 (by decide) (fun h => absurd h (by omega)) (fun h4 => ?_)
  refine e_aload0 dX9_errs_7 ?_
  refine e_iload1 dX9_errs_8 ?_
  refine e_putI fp_X9_197 la_134 rfl dX9_errs_9 ?_
  refine e_aload0 dX9_errs_12 ?_
  refine e_aload0 dX9_errs_13 ?_
  refine e_getI fl_X9_177 la_134 rfl dX9_errs_14 ?_
  refine WW.ec (y := M 134 16) (up_k (by decide)) ?_
  refine e_putI fp_X9_200 la_134 rfl dX9_errs_17 ?_
  refine e_vret dX9_errs_20 ?_
  exact ⟨rfl, rfl⟩
theorem ct_X9_errs1 {f : Int} (h : M 134 19 ≠ 0) : PV l w yX9_errs cX9_errs 2 d [vR 134, vI f] M M := by
  refine MT.of [some (vR 134), some (vI f)] ⟨by decide, rfl⟩ rfl (Nat.le_of_ble_eq_true rfl) (fun hA hM => ?_)
  refine e_aload0 dX9_errs_0 ?_
  refine e_getI fl_X9_197 la_134 rfl dX9_errs_1 ?_
  refine e_if_ne (tgt := 20) dX9_errs_4 (by decide) (fun h4 => ?_) (fun h => absurd h (by omega))
  refine e_vret dX9_errs_20 ?_
  exact ⟨rfl, rfl⟩
theorem ct_X9_emits {x y : Int} {n : Nat} (hn : M 134 35 = n) (h4 : n < 400) : PV l w yX9_emits cX9_emits 3 d [vR 134, vI x, vI y] M (emM M x y) := by
  have e : (M 134 35).toNat = n := by omega
  have er : emM M x y = up (up (up M 154 n x) 155 n y) 134 35 ((n : Int) + 1) := by unfold emM; rw [e, hn]
  rw [er]
  refine MT.of [some (vR 134), some (vI x), some (vI y)] ⟨by decide, rfl⟩ rfl (Nat.le_of_ble_eq_true rfl) (fun hA hM => ?_)
  refine e_aload0 dX9_emits_0 ?_
  refine e_getR fl_X9_75 la_134 rfl dX9_emits_1 ?_
  refine e_aload0 dX9_emits_4 ?_
  refine e_getI fl_X9_203 la_134 rfl dX9_emits_5 ?_
  refine WW.ec (y := (n : Int)) (hn) ?_
  refine e_iload1 dX9_emits_8 ?_
  refine e_iastK (k := n) la_154 (by omega) (by omega) dX9_emits_9 ?_
  refine e_aload0 dX9_emits_10 ?_
  refine e_getR fl_X9_78 la_134 rfl dX9_emits_11 ?_
  refine e_aload0 dX9_emits_14 ?_
  refine e_getI fl_X9_203 la_134 rfl dX9_emits_15 ?_
  refine WW.ec (y := (n : Int)) (by rw [up_o (by decide)]; exact hn) ?_
  refine e_iload2 dX9_emits_18 ?_
  refine e_iastK (k := n) la_155 (by omega) (by omega) dX9_emits_19 ?_
  refine e_aload0 dX9_emits_20 ?_
  refine e_dup dX9_emits_21 rfl ?_
  refine e_getI fl_X9_203 la_134 rfl dX9_emits_22 ?_
  refine WW.ec (y := (n : Int)) (by rw [up_o (by decide), up_o (by decide)]; exact hn) ?_
  refine e_iconst dX9_emits_25 rfl kc_1 ?_
  refine e_iadd dX9_emits_26 (⟨by omega, by omega⟩) ?_
  refine e_putI fp_X9_203 la_134 rfl dX9_emits_27 ?_
  refine e_vret dX9_emits_30 ?_
  exact ⟨rfl, rfl⟩
theorem ct_X9_opensFrame {f : Int} {n : Nat} (hn : M 134 22 = n) (h4 : n < 40) : PV l w yX9_opensFrame cX9_opensFrame 2 d [vR 134, vI f] M (ofM M f) := by
  have e : (M 134 22).toNat = n := by omega
  have er : ofM M f = up (up M 146 n f) 134 22 ((n : Int) + 1) := by unfold ofM; rw [e, hn]
  rw [er]
  refine MT.of [some (vR 134), some (vI f)] ⟨by decide, rfl⟩ rfl (Nat.le_of_ble_eq_true rfl) (fun hA hM => ?_)
  refine e_aload0 dX9_opensFrame_0 ?_
  refine e_getR fl_X9_51 la_134 rfl dX9_opensFrame_1 ?_
  refine e_aload0 dX9_opensFrame_4 ?_
  refine e_getI fl_X9_206 la_134 rfl dX9_opensFrame_5 ?_
  refine WW.ec (y := (n : Int)) (hn) ?_
  refine e_iload1 dX9_opensFrame_8 ?_
  refine e_iastK (k := n) la_146 (by omega) (by omega) dX9_opensFrame_9 ?_
  refine e_aload0 dX9_opensFrame_10 ?_
  refine e_dup dX9_opensFrame_11 rfl ?_
  refine e_getI fl_X9_206 la_134 rfl dX9_opensFrame_12 ?_
  refine WW.ec (y := (n : Int)) (by rw [up_o (by decide)]; exact hn) ?_
  refine e_iconst dX9_opensFrame_15 rfl kc_1 ?_
  refine e_iadd dX9_opensFrame_16 (⟨by omega, by omega⟩) ?_
  refine e_putI fp_X9_206 la_134 rfl dX9_opensFrame_17 ?_
  refine e_vret dX9_opensFrame_20 ?_
  exact ⟨rfl, rfl⟩
theorem ct_X9_top {x : Int} {fr : List Int} (hn : M 134 22 = (x :: fr).length) (hf : frO M (x :: fr)) (h4 : fr.length < 40) : PI l w yX9_top cX9_top 1 d [vR 134] M x M := by
  have e : (x :: fr).length = fr.length + 1 := rfl
  refine MT.of [some (vR 134)] ⟨by decide, rfl⟩ rfl (Nat.le_of_ble_eq_true rfl) (fun hA hM => ?_)
  refine e_aload0 dX9_top_0 ?_
  refine e_getR fl_X9_51 la_134 rfl dX9_top_1 ?_
  refine e_aload0 dX9_top_4 ?_
  refine e_getI fl_X9_206 la_134 rfl dX9_top_5 ?_
  refine WW.ec (y := ((fr.length + 1 : Nat) : Int)) (hn) ?_
  refine e_iconst dX9_top_8 rfl kc_1 ?_
  refine e_isub dX9_top_9 (⟨by omega, by omega⟩) ?_
  refine e_ialdK (k := fr.length) la_146 (by omega) (by omega) dX9_top_10 ?_
  refine WW.ec (y := x) (hf.1) ?_
  refine e_iret dX9_top_11 ?_
  exact ⟨rfl, rfl⟩
/-- waits that are worked off -/
def wkM : List (Int × Int) → Mem → Mem
  | [], M => M
  | x :: P, M => wkM P (emM (up M 134 24 (M 134 24 - 1)) x.1 0)
abbrev rk (o : Int) : Int := if o = 43 ∨ o = 45 then 3 else 4
theorem wk_loop {r : Int} {D : Nat} (hd : 1 ≤ d) {W : List (Int × Int)} (hW : ∀ x, W.head? = some x → ¬ (x.2 = D ∧ r ≤ rk x.1)) (hlen : W.length ≤ 70) : ∀ (P : List (Int × Int)) (N : Mem) (n : Nat), (∀ x ∈ P, x.2 = (D : Int) ∧ r ≤ rk x.1) → P.length ≤ 4 → N 134 22 = D → N 134 24 = (P ++ W).length → wtO N (P ++ W) → N 134 35 = n → n + P.length < 400 → Q none (wkM P N) → WM l w RX9 cX9_works 2 none d Q 0 [some (vR 134), some (vI r)] [] N
  | [], N, n, hP, hp4, hD, h24, hw, h35, hn, hQ => by
    cases W with
    | nil =>
      refine e_aload0 dX9_works_0 ?_
      refine e_getI fl_X9_221 la_134 rfl dX9_works_1 ?_
      refine WW.ec (y := 0) (h24) ?_
      refine e_if_le (tgt := 70) dX9_works_4 (by decide) (fun h4 => ?_) (fun h4 => ?_)
      · refine e_vret dX9_works_70 ?_
        exact hQ
      · omega
    | cons x W =>
      have hx := hW x rfl
      have e : ([] ++ x :: W : List (Int × Int)).length = W.length + 1 := rfl
      have hl : W.length + 1 ≤ 70 := hlen
      rw [e] at h24
      obtain ⟨w1, w2, _⟩ := hw
      refine e_aload0 dX9_works_0 ?_
      refine e_getI fl_X9_221 la_134 rfl dX9_works_1 ?_
      refine WW.ec (y := ((W.length + 1 : Nat) : Int)) (h24) ?_
      refine e_if_le (tgt := 70) dX9_works_4 (by decide) (fun h4 => ?_) (fun h4 => ?_)
      · refine e_vret dX9_works_70 ?_
        first | (exfalso; omega) | exact hQ
      · refine e_aload0 dX9_works_7 ?_
        refine e_getR fl_X9_57 la_134 rfl dX9_works_8 ?_
        refine e_aload0 dX9_works_11 ?_
        refine e_getI fl_X9_221 la_134 rfl dX9_works_12 ?_
        refine WW.ec (y := ((W.length + 1 : Nat) : Int)) (h24) ?_
        refine e_iconst dX9_works_15 rfl kc_1 ?_
        refine e_isub dX9_works_16 (⟨by omega, by omega⟩) ?_
        refine e_ialdK (k := W.length) la_148 (by omega) (by omega) dX9_works_17 ?_
        refine WW.ec (y := x.2) (w2) ?_
        refine e_aload0 dX9_works_18 ?_
        refine e_getI fl_X9_206 la_134 rfl dX9_works_19 ?_
        refine WW.ec (y := (D : Int)) (hD) ?_
        refine e_icmp_ne (tgt := 70) dX9_works_22 (by decide) (fun h22 => ?_) (fun h22 => ?_)
        · refine e_vret dX9_works_70 ?_
          first | (exfalso; omega) | exact hQ
        · refine e_aload0 dX9_works_25 ?_
          refine e_getR fl_X9_54 la_134 rfl dX9_works_26 ?_
          refine e_aload0 dX9_works_29 ?_
          refine e_getI fl_X9_221 la_134 rfl dX9_works_30 ?_
          refine WW.ec (y := ((W.length + 1 : Nat) : Int)) (h24) ?_
          refine e_iconst dX9_works_33 rfl kc_1 ?_
          refine e_isub dX9_works_34 (⟨by omega, by omega⟩) ?_
          refine e_ialdK (k := W.length) la_147 (by omega) (by omega) dX9_works_35 ?_
          refine WW.ec (y := x.1) (w1) ?_
          refine e_cSI (ct_X9_rank (d := d - 1)) cy_X9_rank cs_X9_rank ml_X9_224 rfl rfl (rok (by omega) (by decide)) (Nat.le_of_ble_eq_true rfl) dX9_works_36 ?_
          refine e_iload1 dX9_works_39 ?_
          refine e_icmp_lt (tgt := 70) dX9_works_40 (by decide) (fun h40 => ?_) (fun h40 => ?_)
          · refine e_vret dX9_works_70 ?_
            first | (exfalso; omega) | exact hQ
          · exact absurd ⟨h22, Int.not_lt.mp h40⟩ hx
  | x :: P, N, n, hP, hp4, hD, h24, hw, h35, hn, hQ => by
    have hx := hP x List.mem_cons_self
    have e : (x :: P ++ W : List (Int × Int)).length = (P ++ W).length + 1 := rfl
    have ep : (x :: P).length = P.length + 1 := rfl
    have el : (P ++ W).length = P.length + W.length := List.length_append
    rw [e] at h24
    obtain ⟨w1, w2, w3⟩ := hw
    have em35 : up N 134 24 (N 134 24 - 1) 134 35 = (n : Int) := by rw [up_k (by decide)]; exact h35
    have ih := wk_loop hd hW hlen P (emM (up N 134 24 (N 134 24 - 1)) x.1 0) (n + 1) (fun y hy => hP y (List.mem_cons_of_mem _ hy)) (by omega) (by unfold emM; rw [up_k (by decide), up_o (by decide), up_o (by decide), up_k (by decide)]; exact hD) (by unfold emM; rw [up_k (by decide), up_o (by decide), up_o (by decide), up_s, h24]; omega) (wtO_c (by unfold emM; rw [up_row (by decide), up_row (by decide), up_row (by decide), up_row (by decide)]) (by unfold emM; rw [up_row (by decide), up_row (by decide), up_row (by decide), up_row (by decide)]) w3) (by unfold emM; rw [up_s, em35]; rfl) (by omega) hQ
    rw [h24] at ih em35
    refine e_aload0 dX9_works_0 ?_
    refine e_getI fl_X9_221 la_134 rfl dX9_works_1 ?_
    refine WW.ec (y := (((P ++ W).length + 1 : Nat) : Int)) (h24) ?_
    refine e_if_le (tgt := 70) dX9_works_4 (by decide) (fun h4 => ?_) (fun h4 => ?_)
    · refine e_vret dX9_works_70 ?_
      first | (exfalso; omega) | exact absurd hx.1 h22 | exact absurd hx.2 (Int.not_le.mpr h40)
    · refine e_aload0 dX9_works_7 ?_
      refine e_getR fl_X9_57 la_134 rfl dX9_works_8 ?_
      refine e_aload0 dX9_works_11 ?_
      refine e_getI fl_X9_221 la_134 rfl dX9_works_12 ?_
      refine WW.ec (y := (((P ++ W).length + 1 : Nat) : Int)) (h24) ?_
      refine e_iconst dX9_works_15 rfl kc_1 ?_
      refine e_isub dX9_works_16 (⟨by omega, by omega⟩) ?_
      refine e_ialdK (k := (P ++ W).length) la_148 (by omega) (by omega) dX9_works_17 ?_
      refine WW.ec (y := x.2) (w2) ?_
      refine e_aload0 dX9_works_18 ?_
      refine e_getI fl_X9_206 la_134 rfl dX9_works_19 ?_
      refine WW.ec (y := (D : Int)) (hD) ?_
      refine e_icmp_ne (tgt := 70) dX9_works_22 (by decide) (fun h22 => ?_) (fun h22 => ?_)
      · refine e_vret dX9_works_70 ?_
        first | (exfalso; omega) | exact absurd hx.1 h22 | exact absurd hx.2 (Int.not_le.mpr h40)
      · refine e_aload0 dX9_works_25 ?_
        refine e_getR fl_X9_54 la_134 rfl dX9_works_26 ?_
        refine e_aload0 dX9_works_29 ?_
        refine e_getI fl_X9_221 la_134 rfl dX9_works_30 ?_
        refine WW.ec (y := (((P ++ W).length + 1 : Nat) : Int)) (h24) ?_
        refine e_iconst dX9_works_33 rfl kc_1 ?_
        refine e_isub dX9_works_34 (⟨by omega, by omega⟩) ?_
        refine e_ialdK (k := (P ++ W).length) la_147 (by omega) (by omega) dX9_works_35 ?_
        refine WW.ec (y := x.1) (w1) ?_
        refine e_cSI (ct_X9_rank (d := d - 1)) cy_X9_rank cs_X9_rank ml_X9_224 rfl rfl (rok (by omega) (by decide)) (Nat.le_of_ble_eq_true rfl) dX9_works_36 ?_
        refine e_iload1 dX9_works_39 ?_
        refine e_icmp_lt (tgt := 70) dX9_works_40 (by decide) (fun h40 => ?_) (fun h40 => ?_)
        · refine e_vret dX9_works_70 ?_
          first | (exfalso; omega) | exact absurd hx.1 h22 | exact absurd hx.2 (Int.not_le.mpr h40)
        · refine e_aload0 dX9_works_43 ?_
          refine e_dup dX9_works_44 rfl ?_
          refine e_getI fl_X9_221 la_134 rfl dX9_works_45 ?_
          refine WW.ec (y := (((P ++ W).length + 1 : Nat) : Int)) (h24) ?_
          refine e_iconst dX9_works_48 rfl kc_1 ?_
          refine e_isub dX9_works_49 (⟨by omega, by omega⟩) ?_
          refine e_putI fp_X9_221 la_134 rfl dX9_works_50 ?_
          refine e_aload0 dX9_works_53 ?_
          refine e_aload0 dX9_works_54 ?_
          refine e_getR fl_X9_54 la_134 rfl dX9_works_55 ?_
          refine e_aload0 dX9_works_58 ?_
          refine e_getI fl_X9_221 la_134 rfl dX9_works_59 ?_
          refine WW.ec (y := ((P ++ W).length : Int)) (by rw [up_s]; omega) ?_
          refine e_ialdK (k := (P ++ W).length) la_147 (by omega) (by omega) dX9_works_62 ?_
          refine WW.ec (y := x.1) (by rw [up_o (by decide)]; exact w1) ?_
          refine e_iconst dX9_works_63 rfl kc_0 ?_
          refine e_cVV (ct_X9_emits (d := d - 1) em35 (by omega)) cy_X9_emits cv_X9_emits ml_X9_228 la_134 rfl rfl rfl (rok (by omega) (by decide)) (Nat.le_of_ble_eq_true rfl) dX9_works_64 ?_
          refine e_goto (tgt := 0) dX9_works_67 (by decide) ?_
          exact ih
theorem ct_X9_works {r : Int} {D n : Nat} (hd : 1 ≤ d) {P W : List (Int × Int)} (hW : ∀ x, W.head? = some x → ¬ (x.2 = D ∧ r ≤ rk x.1)) (hlen : W.length ≤ 70) (hP : ∀ x ∈ P, x.2 = (D : Int) ∧ r ≤ rk x.1) (hp4 : P.length ≤ 4) (hD : M 134 22 = D) (h24 : M 134 24 = (P ++ W).length) (hw : wtO M (P ++ W)) (h35 : M 134 35 = n) (hn : n + P.length < 400) : PV l w yX9_works cX9_works 2 d [vR 134, vI r] M (wkM P M) := by
  have h := wk_loop (l := l) (w := w) (d := d) (Q := fun r M' => M' = wkM P M ∧ r = none) hd hW hlen P M n hP hp4 hD h24 hw h35 hn ⟨rfl, rfl⟩
  refine MT.of [some (vR 134), some (vI r)] ⟨by decide, rfl⟩ rfl (Nat.le_of_ble_eq_true rfl) (fun hA hM => ?_)
  exact h
/-- one is over: the minus frames go -/
def ovF : List Int → Mem → Mem
  | [], M => M
  | x :: r, M => if x = 7 then ovF r (emM (up (up M 134 22 (M 134 22 - 1)) 134 21 (M 134 21 - 1)) 402 0) else up M 134 27 2
def hasB : List Int → Prop
  | [] => False
  | x :: r => x ≠ 7 ∨ hasB r
theorem ov_loop (hd : 1 ≤ d) : ∀ (fr : List Int) (N : Mem) (n o : Nat), hasB fr → fr.length ≤ 39 → N 134 22 = fr.length → frO N fr → N 134 21 = o → fr.length ≤ o + 1 → o ≤ 40 → N 134 35 = n → n + fr.length < 400 → Q none (ovF fr N) → WM l w RX9 cX9_oneIsOver 1 none d Q 0 [some (vR 134)] [] N
  | [], N, n, o, hb, _, _, _, _, _, _, _, _, _ => absurd hb id
  | x :: r, N, n, o, hb, hl, h22, hf, h21, hro, ho, h35, hn, hQ => by
    have er : (x :: r).length = r.length + 1 := rfl
    have htop := ct_X9_top (l := l) (w := w) (d := d - 1) (M := N) h22 hf (by omega)
    by_cases q : x = 7
    · have hb2 : hasB r := by rcases hb with z | z; exact absurd q z; exact z
      have hr1 : 1 ≤ r.length := by cases r with
        | nil => exact absurd hb2 id
        | cons y r => show 1 ≤ r.length + 1; omega
      have e2 : ovF (x :: r) N = ovF r (emM (up (up N 134 22 (N 134 22 - 1)) 134 21 (N 134 21 - 1)) 402 0) := by
        show (if x = 7 then _ else _) = _
        rw [if_pos q]
      rw [e2] at hQ
      have em35 : up (up N 134 22 (N 134 22 - 1)) 134 21 (N 134 21 - 1) 134 35 = (n : Int) := by rw [up_k (by decide), up_k (by decide)]; exact h35
      have ih := ov_loop hd r (emM (up (up N 134 22 (N 134 22 - 1)) 134 21 (N 134 21 - 1)) 402 0) (n + 1) (o - 1) hb2 (by omega) (by unfold emM; rw [up_k (by decide), up_o (by decide), up_o (by decide), up_k (by decide), up_s, h22, er]; omega) (frO_c (by unfold emM; rw [up_row (by decide), up_row (by decide), up_row (by decide), up_row (by decide), up_row (by decide)]) hf.2) (by unfold emM; rw [up_k (by decide), up_o (by decide), up_o (by decide), up_s, h21]; omega) (by omega) (by omega) (by unfold emM; rw [up_s, em35]; rfl) (by omega) hQ
      rw [h22, h21, er] at ih em35
      rw [er] at h22
      refine e_aload0 dX9_oneIsOver_0 ?_
      refine e_cVI (htop) cy_X9_top cv_X9_top ml_X9_246 la_134 rfl rfl rfl (rok (by omega) (by decide)) (Nat.le_of_ble_eq_true rfl) dX9_oneIsOver_1 ?_
      refine e_bipush dX9_oneIsOver_4 rfl kb_7 ?_
      refine e_icmp_ne (tgt := 40) dX9_oneIsOver_6 (by decide) (fun h => absurd h (fun z => z q)) (fun h6 => ?_)
      refine e_aload0 dX9_oneIsOver_9 ?_
      refine e_dup dX9_oneIsOver_10 rfl ?_
      refine e_getI fl_X9_206 la_134 rfl dX9_oneIsOver_11 ?_
      refine WW.ec (y := ((r.length + 1 : Nat) : Int)) (h22) ?_
      refine e_iconst dX9_oneIsOver_14 rfl kc_1 ?_
      refine e_isub dX9_oneIsOver_15 (⟨by omega, by omega⟩) ?_
      refine e_putI fp_X9_206 la_134 rfl dX9_oneIsOver_16 ?_
      refine e_aload0 dX9_oneIsOver_19 ?_
      refine e_dup dX9_oneIsOver_20 rfl ?_
      refine e_getI fl_X9_209 la_134 rfl dX9_oneIsOver_21 ?_
      refine WW.ec (y := (o : Int)) (by rw [up_k (by decide)]; exact h21) ?_
      refine e_iconst dX9_oneIsOver_24 rfl kc_1 ?_
      refine e_isub dX9_oneIsOver_25 (⟨by omega, by omega⟩) ?_
      refine e_putI fp_X9_209 la_134 rfl dX9_oneIsOver_26 ?_
      refine e_aload0 dX9_oneIsOver_29 ?_
      refine e_sipush dX9_oneIsOver_30 rfl ks_402 ?_
      refine e_iconst dX9_oneIsOver_33 rfl kc_0 ?_
      refine e_cVV (ct_X9_emits (d := d - 1) em35 (by omega)) cy_X9_emits cv_X9_emits ml_X9_228 la_134 rfl rfl rfl (rok (by omega) (by decide)) (Nat.le_of_ble_eq_true rfl) dX9_oneIsOver_34 ?_
      refine e_goto (tgt := 0) dX9_oneIsOver_37 (by decide) ?_
      exact ih
    · have e2 : ovF (x :: r) N = up N 134 27 2 := by
        show (if x = 7 then _ else _) = _
        rw [if_neg q]
      rw [e2] at hQ
      refine e_aload0 dX9_oneIsOver_0 ?_
      refine e_cVI (htop) cy_X9_top cv_X9_top ml_X9_246 la_134 rfl rfl rfl (rok (by omega) (by decide)) (Nat.le_of_ble_eq_true rfl) dX9_oneIsOver_1 ?_
      refine e_bipush dX9_oneIsOver_4 rfl kb_7 ?_
      refine e_icmp_ne (tgt := 40) dX9_oneIsOver_6 (by decide) (fun h6 => ?_) (fun h => absurd h (by omega))
      refine e_aload0 dX9_oneIsOver_40 ?_
      refine e_iconst dX9_oneIsOver_41 rfl kc_2 ?_
      refine e_putI fp_X9_250 la_134 rfl dX9_oneIsOver_42 ?_
      refine e_vret dX9_oneIsOver_45 ?_
      exact hQ
theorem ct_X9_oneIsOver (hd : 1 ≤ d) {fr : List Int} {n o : Nat} (hb : hasB fr) (hl : fr.length ≤ 39) (h22 : M 134 22 = fr.length) (hf : frO M fr) (h21 : M 134 21 = o) (hro : fr.length ≤ o + 1) (ho : o ≤ 40) (h35 : M 134 35 = n) (hn : n + fr.length < 400) : PV l w yX9_oneIsOver cX9_oneIsOver 1 d [vR 134] M (ovF fr M) := by
  have h := ov_loop (l := l) (w := w) (d := d) (Q := fun r M' => M' = ovF fr M ∧ r = none) hd fr M n o hb hl h22 hf h21 hro ho h35 hn ⟨rfl, rfl⟩
  refine MT.of [some (vR 134)] ⟨by decide, rfl⟩ rfl (Nat.le_of_ble_eq_true rfl) (fun hA hM => ?_)
  exact h
end MSUM
