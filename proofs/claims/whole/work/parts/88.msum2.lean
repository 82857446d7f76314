/-! THE MODEL'S SUMS: begins and goesOn -/
theorem MB.fn {B : Nat → Int} {L : Nat} {M M1 : Mem} {fr : List Int} {W E : List (Int × Int)} {o : Nat} (h : MB B L M fr W E o) (hf : FN M M1) : MB B L M1 fr W E o := by
  obtain ⟨h1, h2, h3, h4, h5⟩ := h
  unfold MB EMI
  rw [hf.2 14 (by decide), hf.1 137 (by decide), hf.2 19 (by decide), hf.2 20 (by decide), hf.2 21 (by decide), hf.2 22 (by decide), hf.2 24 (by decide), hf.2 35 (by decide), hf.1 154 (by decide), hf.1 155 (by decide)]
  exact ⟨h1, h2, ⟨h3.1, frO_c (hf.1 146 (by decide)) h3.2⟩, ⟨h4.1, wtO_c (hf.1 147 (by decide)) (hf.1 148 (by decide)) h4.2⟩, h5⟩
theorem MB.em {B : Nat → Int} {L : Nat} {M : Mem} {fr : List Int} {W E : List (Int × Int)} {o : Nat} {x y : Int} (h : MB B L M fr W E o) : MB B L (emM M x y) fr W (E ++ [(x, y)]) o := by
  obtain ⟨h1, h2, h3, h4, h5⟩ := h
  have e : (M 134 35).toNat = E.length := by rw [h5.1]; omega
  have r : ∀ o, o ≠ 134 → o ≠ 154 → o ≠ 155 → emM M x y o = M o := fun o a b c => by unfold emM; rw [up_row a, up_row c, up_row b]
  have k : ∀ k, k ≠ 35 → emM M x y 134 k = M 134 k := fun k hk => by unfold emM; rw [up_k hk, up_o (by decide), up_o (by decide)]
  refine ⟨⟨by rw [k 14 (by decide)]; exact h1.1, by rw [r 137 (by decide) (by decide) (by decide)]; exact h1.2⟩, by rw [k 19 (by decide), k 20 (by decide), k 21 (by decide)]; exact h2, ⟨by rw [k 22 (by decide)]; exact h3.1, frO_c (r 146 (by decide) (by decide) (by decide)) h3.2⟩, ⟨by rw [k 24 (by decide)]; exact h4.1, wtO_c (r 147 (by decide) (by decide) (by decide)) (r 148 (by decide) (by decide) (by decide)) h4.2⟩, ?_, fun i z hz => ?_⟩
  · unfold emM; rw [up_s, h5.1, List.length_append, List.length_singleton]; rfl
  · have e4 : emM M x y 154 = up M 154 E.length x 154 := by unfold emM; rw [up_row (by decide), up_row (by decide), e]
    have e5 : emM M x y 155 = up M 155 E.length y 155 := by unfold emM; rw [up_row (by decide), e]; exact up_c (up_row (by decide)) rfl
    rw [e4, e5]
    by_cases q : i < E.length
    · rw [List.getElem?_append_left q] at hz
      rw [up_k (by omega), up_k (by omega)]
      exact h5.2 i z hz
    · have hi := (List.getElem?_eq_some_iff.mp hz).1
      rw [List.length_append, List.length_singleton] at hi
      have ei : i = E.length := by omega
      subst ei
      rw [List.getElem?_append_right (Nat.le_refl _), Nat.sub_self] at hz
      cases hz
      rw [up_s, up_s]
      exact ⟨rfl, rfl⟩
theorem MB.of {B : Nat → Int} {L : Nat} {M : Mem} {fr : List Int} {W E : List (Int × Int)} {o : Nat} {f : Int} (h : MB B L M fr W E o) : MB B L (ofM M f) (f :: fr) W E o := by
  obtain ⟨h1, h2, h3, h4, h5⟩ := h
  have e : (M 134 22).toNat = fr.length := by rw [h3.1]; omega
  have r : ∀ o, o ≠ 134 → o ≠ 146 → ofM M f o = M o := fun o a b => by unfold ofM; rw [up_row a, up_row b]
  have k : ∀ k, k ≠ 22 → ofM M f 134 k = M 134 k := fun k hk => by unfold ofM; rw [up_k hk, up_o (by decide)]
  have r146 : ofM M f 146 = up M 146 fr.length f 146 := by unfold ofM; rw [up_row (by decide), e]
  refine ⟨⟨by rw [k 14 (by decide)]; exact h1.1, by rw [r 137 (by decide) (by decide)]; exact h1.2⟩, by rw [k 19 (by decide), k 20 (by decide), k 21 (by decide)]; exact h2, ⟨?_, ?_, ?_⟩, ⟨by rw [k 24 (by decide)]; exact h4.1, wtO_c (r 147 (by decide) (by decide)) (r 148 (by decide) (by decide)) h4.2⟩, by rw [k 35 (by decide)]; exact h5.1, fun i z hz => by rw [r 154 (by decide) (by decide), r 155 (by decide) (by decide)]; exact h5.2 i z hz⟩
  · unfold ofM; rw [up_s, h3.1]; rfl
  · rw [r146, up_s]
  · exact frO_c r146 (frO_up (Nat.le_refl _) h3.2)
theorem MB.u {B : Nat → Int} {L : Nat} {M : Mem} {fr : List Int} {W E : List (Int × Int)} {o k : Nat} {v : Int} (h : MB B L M fr W E o) (hk : k = 27 ∨ k = 28 ∨ k = 29) : MB B L (up M 134 k v) fr W E o := by
  obtain ⟨h1, h2, h3, h4, h5⟩ := h
  refine ⟨⟨by rw [up_k (by omega)]; exact h1.1, by rw [up_row (by decide)]; exact h1.2⟩, by rw [up_k (by omega), up_k (by omega), up_k (by omega)]; exact h2, ⟨by rw [up_k (by omega)]; exact h3.1, frO_c (up_row (by decide)) h3.2⟩, ⟨by rw [up_k (by omega)]; exact h4.1, wtO_c (up_row (by decide)) (up_row (by decide)) h4.2⟩, by rw [up_k (by omega)]; exact h5.1, fun i z hz => by rw [up_o (by decide), up_o (by decide)]; exact h5.2 i z hz⟩
theorem MB.o {B : Nat → Int} {L : Nat} {M : Mem} {fr : List Int} {W E : List (Int × Int)} {o o2 : Nat} {v : Int} (h : MB B L M fr W E o) (hv : v = o2) : MB B L (up M 134 21 v) fr W E o2 := by
  obtain ⟨h1, h2, h3, h4, h5⟩ := h
  refine ⟨⟨by rw [up_k (by omega)]; exact h1.1, by rw [up_row (by decide)]; exact h1.2⟩, ⟨by rw [up_k (by omega)]; exact h2.1, by rw [up_k (by omega)]; exact h2.2.1, by rw [up_s]; exact hv⟩, ⟨by rw [up_k (by omega)]; exact h3.1, frO_c (up_row (by decide)) h3.2⟩, ⟨by rw [up_k (by omega)]; exact h4.1, wtO_c (up_row (by decide)) (up_row (by decide)) h4.2⟩, by rw [up_k (by omega)]; exact h5.1, fun i z hz => by rw [up_o (by decide), up_o (by decide)]; exact h5.2 i z hz⟩
theorem MB.pf {B : Nat → Int} {L : Nat} {M : Mem} {x : Int} {fr : List Int} {W E : List (Int × Int)} {o : Nat} {v : Int} (h : MB B L M (x :: fr) W E o) (hv : v = fr.length) : MB B L (up M 134 22 v) fr W E o := by
  obtain ⟨h1, h2, h3, h4, h5⟩ := h
  refine ⟨⟨by rw [up_k (by omega)]; exact h1.1, by rw [up_row (by decide)]; exact h1.2⟩, by rw [up_k (by omega), up_k (by omega), up_k (by omega)]; exact h2, ⟨by rw [up_s]; exact hv, frO_c (up_row (by decide)) h3.2.2⟩, ⟨by rw [up_k (by omega)]; exact h4.1, wtO_c (up_row (by decide)) (up_row (by decide)) h4.2⟩, by rw [up_k (by omega)]; exact h5.1, fun i z hz => by rw [up_o (by decide), up_o (by decide)]; exact h5.2 i z hz⟩
theorem MB.w1 {B : Nat → Int} {L : Nat} {M : Mem} {x : Int × Int} {fr : List Int} {W E : List (Int × Int)} {o : Nat} {v : Int} (h : MB B L M fr (x :: W) E o) (hv : v = W.length) : MB B L (up M 134 24 v) fr W E o := by
  obtain ⟨h1, h2, h3, h4, h5⟩ := h
  refine ⟨⟨by rw [up_k (by omega)]; exact h1.1, by rw [up_row (by decide)]; exact h1.2⟩, by rw [up_k (by omega), up_k (by omega), up_k (by omega)]; exact h2, ⟨by rw [up_k (by omega)]; exact h3.1, frO_c (up_row (by decide)) h3.2⟩, ⟨by rw [up_s]; exact hv, wtO_c (up_row (by decide)) (up_row (by decide)) h4.2.2.2⟩, by rw [up_k (by omega)]; exact h5.1, fun i z hz => by rw [up_o (by decide), up_o (by decide)]; exact h5.2 i z hz⟩
theorem MB.wk {B : Nat → Int} {L : Nat} {fr : List Int} {W : List (Int × Int)} {o : Nat} : ∀ (P : List (Int × Int)) (M : Mem) (E : List (Int × Int)), MB B L M fr (P ++ W) E o → MB B L (wkM P M) fr W (E ++ P.map (fun x => (x.1, 0))) o
  | [], M, E, h => by rw [List.map_nil, List.append_nil]; exact h
  | x :: P, M, E, h => by
    have h24 := h.2.2.2.1.1
    have h1 : MB B L (up M 134 24 (M 134 24 - 1)) fr (P ++ W) E o := MB.w1 (x := x) h (by rw [h24]; show (((P ++ W).length + 1 : Nat) : Int) - 1 = _; omega)
    have h2 := MB.wk P _ _ (h1.em (x := x.1) (y := 0))
    rw [List.append_assoc] at h2
    exact h2
theorem FS.wk {M : Mem} : ∀ (P : List (Int × Int)) (M1 : Mem), FS M M1 → FS M (wkM P M1)
  | [], _, h => h
  | x :: P, M1, h => FS.wk P _ ((h.u (by omega)).em)
theorem wkM_27 : ∀ (P : List (Int × Int)) (M : Mem) (k : Nat), k ≠ 24 → k ≠ 35 → wkM P M 134 k = M 134 k
  | [], _, _, _, _ => rfl
  | x :: P, M, k, a, b => by
    show wkM P _ 134 k = _
    rw [wkM_27 P _ k a b]
    unfold emM
    rw [up_k b, up_o (by decide), up_o (by decide), up_k a]
theorem CT.fr {B : Nat → Int} {L : Nat} {M M1 : Mem} {t : Nat} (h : CT B L M t) (e : ∀ k, 15 ≤ k → k ≤ 18 → M1 134 k = M 134 k) : CT B L M1 t := by
  unfold CT NX at h ⊢
  rw [e 15 (by decide) (by decide), e 16 (by decide) (by decide), e 17 (by decide) (by decide), e 18 (by decide) (by decide)]
  exact h
theorem LX_2 {B : Nat → Int} {L : Nat} : ∀ n i, ∀ c ∈ LX B L n i, c.1 = 2 → c.2.2 ≤ 17
  | 0, i, c, hc, h2 => by
    rw [List.mem_singleton.mp hc] at h2
    exact absurd h2 (show ¬ (0 : Int) = 2 by decide)
  | n + 1, i, c, hc, h2 => by
    rw [show LX B L (n + 1) i = if i < L then (if isDg (B i) then (1, i, dgV B L L i 0) :: LX B L n (dgE B L L i) else if isLt (B i) then (2, i, wordV B i (ltE B L L i)) :: LX B L n (ltE B L L i) else if B i = 32 ∨ B i = 10 then LX B L n (i + 1) else ((if isSg (B i) then B i else 3), i, 0) :: LX B L n (i + 1)) else [(0, L, 0)] from rfl] at hc
    split at hc
    · split at hc
      · rcases List.mem_cons.mp hc with e | e
        · rw [e] at h2; exact absurd h2 (show ¬ (1 : Int) = 2 by decide)
        · exact LX_2 n _ c e h2
      · split at hc
        · rcases List.mem_cons.mp hc with e | e
          · rw [e]; exact wordV_b.2
          · exact LX_2 n _ c e h2
        · split at hc
          · exact LX_2 n _ c hc h2
          · rcases List.mem_cons.mp hc with e | e
            · rw [e]; show (0 : Int) ≤ 17; decide
            · exact LX_2 n _ c e h2
    · rw [List.mem_singleton.mp hc] at h2
      exact absurd h2 (show ¬ (0 : Int) = 2 by decide)
theorem tkV_2 {B : Nat → Int} {L t : Nat} (h : tkK B L t = 2) : tkV B L t ≤ 17 := by
  by_cases q : t < tkN B L
  · have hs := (tk_all (B := B) (L := L)).2.2 t q
    exact LX_2 L 0 _ (List.mem_of_getElem? hs.1) h
  · rw [tkK_z (by omega)] at h
    exact absurd h (by decide)
/-- a code as the model's order -/
def cd (c : Int) : Int × Int := if c < 10000 then (400, c) else if c < 10008 then (401, c - 10000) else if c = 10012 then (402, 0) else if c = 10008 then (43, 0) else if c = 10009 then (45, 0) else if c = 10010 then (42, 0) else (47, 0)
section MSUM2
variable {l : Launch} {w : Wd} {d : Nat} {M : Mem} {Q : Option MV → Mem → Prop} {B : Nat → Int} {L t o : Nat} {fr : List Int} {W E : List (Int × Int)}
theorem MS.nx (h : MS B L M t fr W E o) (k0 : tkK B L t ≠ 0) (k3 : tkK B L t ≠ 3) : NX B L M (t + 1) := h.1.2.2 k0 k3
/-- a number or a name -/
theorem ct_begins_leaf {law : Int} (hd : 5 ≤ d) (hL : L ≤ 300) (ht : t ≤ 300) (hm : MS B L M t fr W E o) (h29 : M 134 29 = law) (hb : hasB fr) (hfl : fr.length = o + 1) (ho : o ≤ 8) (hk : tkK B L t = 1 ∨ tkK B L t = 2) (hok : (lf (tkK B L) (tkV B L) law t).1 = 0) :
    GV l w yX9_begins cX9_begins 2 d [vR 134] M (fun M1 => ∃ N, FS M N ∧ MS B L N (t + 1) fr W (E ++ (lf (tkK B L) (tkV B L) law t).2.2.map cd) o ∧ M1 = ovF fr N) := by
  obtain ⟨hct, hmb, hac⟩ := hm
  have hnx := hct.2.2 (by omega) (by omega)
  have h35 := hmb.2.2.2.2.1
  have htk := hct.2.1
  -- behind the emission
  have fin : ∀ (x y : Int), (lf (tkK B L) (tkV B L) law t).2.2.map cd = [(x, y)] → ∀ N, FN (emM M x y) N → CT B L N (t + 1) → ∃ N', FS M N' ∧ MS B L N' (t + 1) fr W (E ++ (lf (tkK B L) (tkV B L) law t).2.2.map cd) o ∧ ovF fr N = ovF fr N' := by
    intro x y hl N hf hc
    refine ⟨N, (FS.rf M).em.tr hf.fs, ⟨hc, ?_, ?_⟩, rfl⟩
    · rw [hl]; exact hmb.em.fn hf
    · rw [hl, List.length_append, List.length_singleton]; omega
  have nxt2 : ∀ (x y : Int), GV l w yX9_next cX9_next 5 (d - 1) [vR 134] (emM M x y) (fun M1 => FN (emM M x y) M1 ∧ CT B L M1 (t + 1)) := fun x y => ct_X9_next (d := d - 1) (by omega) hL (by have := (hmb.em (x := x) (y := y)).1.2; exact this) (hmb.em (x := x) (y := y)).1.1 (by
    obtain ⟨a, n, q1, q2⟩ := hnx
    exact ⟨a, n, by unfold emM; rw [up_k (by decide), up_o (by decide), up_o (by decide)]; exact q1, q2⟩)
  have ovr : ∀ (x y : Int) N, FN (emM M x y) N → PV l w yX9_oneIsOver cX9_oneIsOver 1 (d - 1) [vR 134] N (ovF fr N) := fun x y N hf => by
    have hb2 := hmb.em (x := x) (y := y) |>.fn hf
    exact ct_X9_oneIsOver (d := d - 1) (n := E.length + 1) (o := o) (by omega) hb (by omega) hb2.2.2.1.1 hb2.2.2.1.2 hb2.2.1.2.2 (by omega) (by omega) (by rw [hb2.2.2.2.2.1, List.length_append]; rfl) (by omega)
  rcases hk with k1 | k2
  · have hV : tkV B L t < 10000 := by
      unfold lf at hok
      rw [if_neg (by omega)] at hok
      by_cases z : 9999 < tkV B L t
      · rw [if_pos z] at hok; exact absurd hok (show ¬ (2 : Int) = 0 by decide)
      · omega
    have hV0 := tkV_1 t k1
    have hl : (lf (tkK B L) (tkV B L) law t).2.2.map cd = [(400, tkV B L t)] := by
      unfold lf
      rw [if_neg (by omega), if_neg (by omega)]
      show [cd (tkV B L t)] = _
      unfold cd
      rw [if_pos hV]
    have hs : M 134 17 = 2 ∧ M 134 18 = tkV B L t := by
      rcases htk with q | q | q | q | q
      · omega
      · exact ⟨q.2.1, by omega⟩
      · omega
      · have := q.1; omega
      · omega
    refine MT.of [some (vR 134), none] ⟨by decide, rfl⟩ rfl (Nat.le_of_ble_eq_true rfl) (fun hA hM => ?_)
    refine e_aload0 dX9_begins_0 ?_
    refine e_getI fl_X9_180 la_134 rfl dX9_begins_1 ?_
    refine WW.ec (y := 2) (hs.1) ?_
    refine e_iconst dX9_begins_4 rfl kc_2 ?_
    refine e_icmp_ne (tgt := 46) dX9_begins_5 (by decide) (fun h => absurd h (fun z => z rfl)) (fun h5 => ?_)
    refine e_aload0 dX9_begins_8 ?_
    refine e_getI fl_X9_193 la_134 rfl dX9_begins_9 ?_
    refine WW.ec (y := tkV B L t) (hs.2) ?_
    refine e_sipush dX9_begins_12 rfl ks_9999 ?_
    refine e_icmp_le (tgt := 24) dX9_begins_15 (by decide) (fun h15 => ?_) (fun h => absurd h (by omega))
    refine e_aload0 dX9_begins_24 ?_
    refine e_sipush dX9_begins_25 rfl ks_400 ?_
    refine e_aload0 dX9_begins_28 ?_
    refine e_getI fl_X9_193 la_134 rfl dX9_begins_29 ?_
    refine WW.ec (y := tkV B L t) (hs.2) ?_
    refine e_cVV (ct_X9_emits (d := d - 1) h35 (by omega)) cy_X9_emits cv_X9_emits ml_X9_228 la_134 rfl rfl rfl (rok (by omega) (by decide)) (Nat.le_of_ble_eq_true rfl) dX9_begins_32 ?_
    refine e_aload0 dX9_begins_35 ?_
    refine e_cVGV (nxt2 400 (tkV B L t)) cy_X9_next cv_X9_next ml_X9_218 la_134 rfl rfl rfl (rok (by omega) (by decide)) (Nat.le_of_ble_eq_true rfl) dX9_begins_36 (fun N hx => ?_)
    refine e_aload0 dX9_begins_39 ?_
    refine e_cVV (ovr 400 (tkV B L t) N hx.1) cy_X9_oneIsOver cv_X9_oneIsOver ml_X9_234 la_134 rfl rfl rfl (rok (by omega) (by decide)) (Nat.le_of_ble_eq_true rfl) dX9_begins_40 ?_
    refine e_goto (tgt := 151) dX9_begins_43 (by decide) ?_
    refine e_vret dX9_begins_151 ?_
    obtain ⟨N', a, b, c⟩ := fin _ _ hl N hx.1 hx.2
    exact ⟨rfl, N', a, b, c⟩
  · have hV := tkV_2 k2
    have hV2 : 10 ≤ tkV B L t ∧ (16 ≤ tkV B L t → law = 0) := by
      unfold lf at hok
      rw [if_pos k2] at hok
      by_cases z : tkV B L t < 10 ∨ 18 ≤ tkV B L t
      · rw [if_pos z] at hok; exact absurd hok (show ¬ (1 : Int) = 0 by decide)
      · rw [if_neg z] at hok
        by_cases y : 16 ≤ tkV B L t ∧ law ≠ 0
        · rw [if_pos y] at hok; exact absurd hok (show ¬ (5 : Int) = 0 by decide)
        · omega
    have hl : (lf (tkK B L) (tkV B L) law t).2.2.map cd = [(401, tkV B L t - 10)] := by
      unfold lf
      rw [if_pos k2, if_neg (by omega), if_neg (by omega)]
      show [cd (9990 + tkV B L t)] = _
      unfold cd
      rw [if_neg (by omega), if_pos (by omega), show 9990 + tkV B L t - 10000 = tkV B L t - 10 by omega]
    have hs : M 134 17 = 1 ∧ M 134 18 = tkV B L t := by
      rcases htk with q | q | q | q | q
      · omega
      · omega
      · omega
      · have := q.1; omega
      · omega
    refine MT.of [some (vR 134), none] ⟨by decide, rfl⟩ rfl (Nat.le_of_ble_eq_true rfl) (fun hA hM => ?_)
    refine e_aload0 dX9_begins_0 ?_
    refine e_getI fl_X9_180 la_134 rfl dX9_begins_1 ?_
    refine WW.ec (y := 1) (hs.1) ?_
    refine e_iconst dX9_begins_4 rfl kc_2 ?_
    refine e_icmp_ne (tgt := 46) dX9_begins_5 (by decide) (fun h5 => ?_) (fun h => absurd h (by decide))
    refine e_aload0 dX9_begins_46 ?_
    refine e_getI fl_X9_180 la_134 rfl dX9_begins_47 ?_
    refine WW.ec (y := 1) (hs.1) ?_
    refine e_iconst dX9_begins_50 rfl kc_1 ?_
    refine e_icmp_ne (tgt := 108) dX9_begins_51 (by decide) (fun h => absurd h (fun z => z rfl)) (fun h51 => ?_)
    refine e_aload0 dX9_begins_54 ?_
    refine e_getI fl_X9_193 la_134 rfl dX9_begins_55 ?_
    refine WW.ec (y := tkV B L t) (hs.2) ?_
    refine e_bipush dX9_begins_58 rfl kb_10 ?_
    refine e_icmp_lt (tgt := 108) dX9_begins_60 (by decide) (fun h => absurd h (by omega)) (fun h60 => ?_)
    refine e_aload0 dX9_begins_63 ?_
    refine e_getI fl_X9_193 la_134 rfl dX9_begins_64 ?_
    refine WW.ec (y := tkV B L t) (hs.2) ?_
    refine e_bipush dX9_begins_67 rfl kb_10 ?_
    refine e_isub dX9_begins_69 (⟨by omega, by omega⟩) ?_
    refine e_istore1 dX9_begins_70 rfl ?_
    refine e_iload1 dX9_begins_71 ?_
    refine e_iconst dX9_begins_72 rfl kc_5 ?_
    refine e_icmp_le (tgt := 89) dX9_begins_73 (by decide) (fun h73 => ?_) (fun h73 => ?_)
    · refine e_aload0 dX9_begins_89 ?_
      refine e_sipush dX9_begins_90 rfl ks_401 ?_
      refine e_iload1 dX9_begins_93 ?_
      refine e_cVV (ct_X9_emits (d := d - 1) h35 (by omega)) cy_X9_emits cv_X9_emits ml_X9_228 la_134 rfl rfl rfl (rok (by omega) (by decide)) (Nat.le_of_ble_eq_true rfl) dX9_begins_94 ?_
      refine e_aload0 dX9_begins_97 ?_
      refine e_cVGV (nxt2 401 (tkV B L t - 10)) cy_X9_next cv_X9_next ml_X9_218 la_134 rfl rfl rfl (rok (by omega) (by decide)) (Nat.le_of_ble_eq_true rfl) dX9_begins_98 (fun N hx => ?_)
      refine e_aload0 dX9_begins_101 ?_
      refine e_cVV (ovr 401 (tkV B L t - 10) N hx.1) cy_X9_oneIsOver cv_X9_oneIsOver ml_X9_234 la_134 rfl rfl rfl (rok (by omega) (by decide)) (Nat.le_of_ble_eq_true rfl) dX9_begins_102 ?_
      refine e_goto (tgt := 151) dX9_begins_105 (by decide) ?_
      refine e_vret dX9_begins_151 ?_
      obtain ⟨N', a, b, c⟩ := fin _ _ hl N hx.1 hx.2
      exact ⟨rfl, N', a, b, c⟩
    · refine e_aload0 dX9_begins_76 ?_
      refine e_getI fl_X9_237 la_134 rfl dX9_begins_77 ?_
      refine WW.ec (y := law) (h29) ?_
      refine e_if_eq (tgt := 89) dX9_begins_80 (by decide) (fun h80 => ?_) (fun h80 => ?_)
      · refine e_aload0 dX9_begins_89 ?_
        refine e_sipush dX9_begins_90 rfl ks_401 ?_
        refine e_iload1 dX9_begins_93 ?_
        refine e_cVV (ct_X9_emits (d := d - 1) h35 (by omega)) cy_X9_emits cv_X9_emits ml_X9_228 la_134 rfl rfl rfl (rok (by omega) (by decide)) (Nat.le_of_ble_eq_true rfl) dX9_begins_94 ?_
        refine e_aload0 dX9_begins_97 ?_
        refine e_cVGV (nxt2 401 (tkV B L t - 10)) cy_X9_next cv_X9_next ml_X9_218 la_134 rfl rfl rfl (rok (by omega) (by decide)) (Nat.le_of_ble_eq_true rfl) dX9_begins_98 (fun N hx => ?_)
        refine e_aload0 dX9_begins_101 ?_
        refine e_cVV (ovr 401 (tkV B L t - 10) N hx.1) cy_X9_oneIsOver cv_X9_oneIsOver ml_X9_234 la_134 rfl rfl rfl (rok (by omega) (by decide)) (Nat.le_of_ble_eq_true rfl) dX9_begins_102 ?_
        refine e_goto (tgt := 151) dX9_begins_105 (by decide) ?_
        refine e_vret dX9_begins_151 ?_
        obtain ⟨N', a, b, c⟩ := fin _ _ hl N hx.1 hx.2
        exact ⟨rfl, N', a, b, c⟩
      · exfalso; omega
/-- a sign is opened -/
theorem ct_opensSign {f : Int} (hd : 4 ≤ d) (hL : L ≤ 300) (hm : MS B L M t fr W E o) (hfl : fr.length = o + 1) (ho : o < 8) (k0 : tkK B L t ≠ 0) (k3 : tkK B L t ≠ 3) :
    GI l w yX9_opensSign cX9_opensSign 2 .boolean d [vR 134, vI f] M (fun _ M1 => FS M M1 ∧ M1 134 27 = M 134 27 ∧ MS B L M1 (t + 1) (f :: fr) W E (o + 1)) := by
  obtain ⟨hct, hmb, hac⟩ := hm
  have hnx := hct.2.2 k0 k3
  have h21 := hmb.2.1.2.2
  have h22 := hmb.2.2.1.1
  have hb1 : MB B L (up M 134 21 ((o : Int) + 1)) fr W E (o + 1) := hmb.o rfl
  have hb2 : MB B L (ofM (up M 134 21 ((o : Int) + 1)) f) (f :: fr) W E (o + 1) := hb1.of
  have k : ∀ k, k ≠ 22 → k ≠ 21 → ofM (up M 134 21 ((o : Int) + 1)) f 134 k = M 134 k := fun k a b => by unfold ofM; rw [up_k a, up_o (by decide), up_k b]
  have hnxt := ct_X9_next (l := l) (w := w) (d := d - 1) (M := ofM (up M 134 21 ((o : Int) + 1)) f) (B := B) (L := L) (t := t + 1) (by omega) hL hb2.1.2 hb2.1.1 (by
    obtain ⟨a, n, q1, q2⟩ := hnx
    exact ⟨a, n, by rw [k 15 (by decide) (by decide)]; exact q1, q2⟩)
  refine MT.of [some (vR 134), some (vI f)] ⟨by decide, rfl⟩ rfl (Nat.le_of_ble_eq_true rfl) (fun hA hM => ?_)
  refine e_aload0 dX9_opensSign_0 ?_
  refine e_getI fl_X9_209 la_134 rfl dX9_opensSign_1 ?_
  refine WW.ec (y := (o : Int)) (h21) ?_
  refine e_bipush dX9_opensSign_4 rfl kb_8 ?_
  refine e_icmp_ne (tgt := 16) dX9_opensSign_6 (by decide) (fun h6 => ?_) (fun h => absurd h (by omega))
  refine e_aload0 dX9_opensSign_16 ?_
  refine e_dup dX9_opensSign_17 rfl ?_
  refine e_getI fl_X9_209 la_134 rfl dX9_opensSign_18 ?_
  refine WW.ec (y := (o : Int)) (h21) ?_
  refine e_iconst dX9_opensSign_21 rfl kc_1 ?_
  refine e_iadd dX9_opensSign_22 (⟨by omega, by omega⟩) ?_
  refine e_putI fp_X9_209 la_134 rfl dX9_opensSign_23 ?_
  refine e_aload0 dX9_opensSign_26 ?_
  refine e_iload1 dX9_opensSign_27 ?_
  refine e_cVV (ct_X9_opensFrame (d := d - 1) (n := fr.length) (by rw [up_k (by decide)]; exact h22) (by omega)) cy_X9_opensFrame cv_X9_opensFrame ml_X9_215 la_134 rfl rfl rfl (rok (by omega) (by decide)) (Nat.le_of_ble_eq_true rfl) dX9_opensSign_28 ?_
  refine e_aload0 dX9_opensSign_31 ?_
  refine e_cVGV (hnxt) cy_X9_next cv_X9_next ml_X9_218 la_134 rfl rfl rfl (rok (by omega) (by decide)) (Nat.le_of_ble_eq_true rfl) dX9_opensSign_32 (fun N hx => ?_)
  refine e_iconst dX9_opensSign_35 rfl kc_1 ?_
  refine e_zret dX9_opensSign_36 (by decide) ?_
  exact ⟨_, rfl, (((FS.rf M).u (by omega)).of).tr hx.1.fs, by rw [hx.1.2 27 (by decide), k 27 (by decide) (by decide)], hx.2, hb2.fn hx.1, by rw [List.length_cons]; omega⟩
theorem ct_begins_open {f : Int} (hd : 5 ≤ d) (hL : L ≤ 300) (hm : MS B L M t fr W E o) (hfl : fr.length = o + 1) (ho : o < 8) (hk : (tkK B L t = 40 ∧ f = 6) ∨ (tkK B L t = 45 ∧ f = 7)) :
    GV l w yX9_begins cX9_begins 2 d [vR 134] M (fun M1 => FS M M1 ∧ M1 134 27 = M 134 27 ∧ MS B L M1 (t + 1) (f :: fr) W E (o + 1)) := by
  have htk := hm.1.2.1
  have hs : M 134 17 = 3 ∧ M 134 18 = tkK B L t := by
    rcases htk with q | q | q | q | q
    · omega
    · omega
    · omega
    · exact ⟨q.2.1, q.2.2⟩
    · omega
  have hop : ∀ f, GI l w yX9_opensSign cX9_opensSign 2 .boolean (d - 1) [vR 134, vI f] M (fun _ M1 => FS M M1 ∧ M1 134 27 = M 134 27 ∧ MS B L M1 (t + 1) (f :: fr) W E (o + 1)) := fun f => ct_opensSign (d := d - 1) (by omega) hL hm hfl ho (by omega) (by omega)
  rcases hk with ⟨k, rfl⟩ | ⟨k, rfl⟩
  · rw [k] at hs
    refine MT.of [some (vR 134), none] ⟨by decide, rfl⟩ rfl (Nat.le_of_ble_eq_true rfl) (fun hA hM => ?_)
    refine e_aload0 dX9_begins_0 ?_
    refine e_getI fl_X9_180 la_134 rfl dX9_begins_1 ?_
    refine WW.ec (y := 3) (hs.1) ?_
    refine e_iconst dX9_begins_4 rfl kc_2 ?_
    refine e_icmp_ne (tgt := 46) dX9_begins_5 (by decide) (fun h5 => ?_) (fun h => absurd h (by decide))
    refine e_aload0 dX9_begins_46 ?_
    refine e_getI fl_X9_180 la_134 rfl dX9_begins_47 ?_
    refine WW.ec (y := 3) (hs.1) ?_
    refine e_iconst dX9_begins_50 rfl kc_1 ?_
    refine e_icmp_ne (tgt := 108) dX9_begins_51 (by decide) (fun h51 => ?_) (fun h => absurd h (by decide))
    refine e_aload0 dX9_begins_108 ?_
    refine e_bipush dX9_begins_109 rfl kb_40 ?_
    refine e_cVZ (ct_X9_isSign (d := d - 1)) cy_X9_isSign cv_X9_isSign ml_X9_240 la_134 rfl rfl rfl (rok (by omega) (by decide)) (Nat.le_of_ble_eq_true rfl) dX9_begins_111 (fun g111 => ?_) (fun g111 => ?_)
    · refine e_if_eq (tgt := 127) dX9_begins_114 (by decide) (fun h => absurd h (by decide)) (fun _ => ?_)
      refine e_aload0 dX9_begins_117 ?_
      refine e_bipush dX9_begins_118 rfl kb_6 ?_
      refine e_cVGI (hop 6) cy_X9_opensSign cv_X9_opensSign ml_X9_243 la_134 rfl rfl rfl (rok (by omega) (by decide)) (Nat.le_of_ble_eq_true rfl) dX9_begins_120 (fun x N hx => ?_)
      refine e_istore1 dX9_begins_123 rfl ?_
      refine e_goto (tgt := 151) dX9_begins_124 (by decide) ?_
      refine e_vret dX9_begins_151 ?_
      exact ⟨rfl, hx⟩
    · refine e_if_eq (tgt := 127) dX9_begins_114 (by decide) (fun _ => ?_) (fun h => absurd h (by decide))
      exact absurd hs g111
  · rw [k] at hs
    refine MT.of [some (vR 134), none] ⟨by decide, rfl⟩ rfl (Nat.le_of_ble_eq_true rfl) (fun hA hM => ?_)
    refine e_aload0 dX9_begins_0 ?_
    refine e_getI fl_X9_180 la_134 rfl dX9_begins_1 ?_
    refine WW.ec (y := 3) (hs.1) ?_
    refine e_iconst dX9_begins_4 rfl kc_2 ?_
    refine e_icmp_ne (tgt := 46) dX9_begins_5 (by decide) (fun h5 => ?_) (fun h => absurd h (by decide))
    refine e_aload0 dX9_begins_46 ?_
    refine e_getI fl_X9_180 la_134 rfl dX9_begins_47 ?_
    refine WW.ec (y := 3) (hs.1) ?_
    refine e_iconst dX9_begins_50 rfl kc_1 ?_
    refine e_icmp_ne (tgt := 108) dX9_begins_51 (by decide) (fun h51 => ?_) (fun h => absurd h (by decide))
    refine e_aload0 dX9_begins_108 ?_
    refine e_bipush dX9_begins_109 rfl kb_40 ?_
    refine e_cVZ (ct_X9_isSign (d := d - 1)) cy_X9_isSign cv_X9_isSign ml_X9_240 la_134 rfl rfl rfl (rok (by omega) (by decide)) (Nat.le_of_ble_eq_true rfl) dX9_begins_111 (fun g111 => ?_) (fun g111 => ?_)
    · refine e_if_eq (tgt := 127) dX9_begins_114 (by decide) (fun h => absurd h (by decide)) (fun _ => ?_)
      have := g111.2; omega
    · refine e_if_eq (tgt := 127) dX9_begins_114 (by decide) (fun _ => ?_) (fun h => absurd h (by decide))
      refine e_aload0 dX9_begins_127 ?_
      refine e_bipush dX9_begins_128 rfl kb_45 ?_
      refine e_cVZ (ct_X9_isSign (d := d - 1)) cy_X9_isSign cv_X9_isSign ml_X9_240 la_134 rfl rfl rfl (rok (by omega) (by decide)) (Nat.le_of_ble_eq_true rfl) dX9_begins_130 (fun g130 => ?_) (fun g130 => ?_)
      · refine e_if_eq (tgt := 146) dX9_begins_133 (by decide) (fun h => absurd h (by decide)) (fun _ => ?_)
        refine e_aload0 dX9_begins_136 ?_
        refine e_bipush dX9_begins_137 rfl kb_7 ?_
        refine e_cVGI (hop 7) cy_X9_opensSign cv_X9_opensSign ml_X9_243 la_134 rfl rfl rfl (rok (by omega) (by decide)) (Nat.le_of_ble_eq_true rfl) dX9_begins_139 (fun x N hx => ?_)
        refine e_istore1 dX9_begins_142 rfl ?_
        refine e_goto (tgt := 151) dX9_begins_143 (by decide) ?_
        refine e_vret dX9_begins_151 ?_
        exact ⟨rfl, hx⟩
      · refine e_if_eq (tgt := 146) dX9_begins_133 (by decide) (fun _ => ?_) (fun h => absurd h (by decide))
        exact absurd hs g130
end MSUM2
