theorem clF_ok {K V : Nat → Int} {F N c t : Nat} {tld : Bool} (hK : ∀ t, N ≤ t → K t = 0) (h : (clF K V F tld c t).1 = 0) : (t < (clF K V F tld c t).2.1 ∧ (clF K V F tld c t).2.1 ≤ N) ∧ (clF K V F tld c t).2.2.length + t ≤ (clF K V F tld c t).2.1 ∧ (0 ≤ V t ∧ V t ≤ 7) ∧ c < 24 ∧ (V t < 4 → tld = false ∧ 0 < (clF K V F tld c t).2.2.length) := by
  unfold clF at h ⊢
  by_cases k0 : K t = 2 ∧ 0 ≤ V t ∧ V t ≤ 7
  · rw [if_pos k0] at h ⊢
    have ht1 : t + 1 ≤ N := by
      have : ¬ N ≤ t := fun z => by have := hK t z; omega
      omega
    by_cases k1 : V t < 4 ∧ tld = true
    · rw [if_pos k1] at h
      exact absurd h (show ¬ (4 : Int) = 0 by decide)
    rw [if_neg k1] at h ⊢
    by_cases k2 : 24 ≤ c
    · rw [if_pos k2] at h
      exact absurd h (show ¬ (6 : Int) = 0 by decide)
    rw [if_neg k2] at h ⊢
    by_cases k3 : V t < 4
    · rw [if_pos k3] at h ⊢
      have hok := Ps_ok (V := V) (law := V t) hK F 0 0 (t + 1) ht1
      by_cases q : (Ps K V (V t) F 0 0 (t + 1)).1 = 0
      · rw [if_pos q] at h ⊢
        have hl := hok.2.2 q
        have hp := Ps_pos F 0 0 (t + 1) (Or.inl rfl) q
        by_cases k4 : K (Ps K V (V t) F 0 0 (t + 1)).2.1 = 59
        · rw [if_pos k4]
          have : ¬ N ≤ (Ps K V (V t) F 0 0 (t + 1)).2.1 := fun z => by have := hK _ z; omega
          refine ⟨⟨?_, ?_⟩, ?_, k0.2, by omega, fun _ => ⟨?_, hp⟩⟩
          · show t < (Ps K V (V t) F 0 0 (t + 1)).2.1 + 1
            omega
          · show (Ps K V (V t) F 0 0 (t + 1)).2.1 + 1 ≤ N
            omega
          · show (Ps K V (V t) F 0 0 (t + 1)).2.2.length + t ≤ (Ps K V (V t) F 0 0 (t + 1)).2.1 + 1
            omega
          · cases tld
            · rfl
            · exact absurd ⟨k3, rfl⟩ k1
        · rw [if_neg k4] at h
          exact absurd h n10
      · rw [if_neg q] at h
        exact absurd h q
    · rw [if_neg k3] at h ⊢
      have hle := dd_le (V := V) (k := V t) hK ht1
      by_cases q : (ddF K V (V t) (t + 1)).1 = 0
      · rw [if_pos q] at h ⊢
        by_cases k4 : K (ddF K V (V t) (t + 1)).2 = 59
        · rw [if_pos k4]
          have : ¬ N ≤ (ddF K V (V t) (t + 1)).2 := fun z => by have := hK _ z; omega
          refine ⟨⟨?_, ?_⟩, ?_, k0.2, by omega, fun z => absurd z k3⟩
          · show t < (ddF K V (V t) (t + 1)).2 + 1
            omega
          · show (ddF K V (V t) (t + 1)).2 + 1 ≤ N
            omega
          · show 0 + t ≤ (ddF K V (V t) (t + 1)).2 + 1
            omega
        · rw [if_neg k4] at h
          exact absurd h n10
      · rw [if_neg q] at h
        exact absurd h q
  · rw [if_neg k0] at h
    exact absurd h n10
/-- what reading leaves -/
def OUTT (Pl : Nat → Int) (j : Nat) (M : Mem) (r : Int × Nat × List Cz) (x : Int) (M1 : Mem) : Prop :=
  ((∀ o, o ≠ 114 → (o < 90 + 6 * j ∨ 95 + 6 * j < o) → M1 o = M o) ∧ M1 114 1 = 0 ∧ M1 114 10 = M 114 10) ∧ ((r.1 = 0 ∧ x = 1 ∧ (SCR j M1 r.2.2 ∧ M1 (90 + 6 * j) 1 ≤ 300) ∧ M1 114 11 = M 114 11 ∧ M1 114 12 = M 114 12) ∨ (r.1 ≠ 0 ∧ x = 0 ∧ M1 114 11 = r.1 ∧ M1 114 12 = Pl r.2.1))
theorem SCR.u114 {j : Nat} (hj : j < 4) {M : Mem} {acc : List Cz} {k : Nat} {v : Int} (h : SCR j M acc) : SCR j (up M 114 k v) acc := by
  unfold SCR lwR at h ⊢
  rw [up_row (o' := 90 + 6 * j) (by omega), up_row (o' := 91 + 6 * j) (by omega), up_row (o' := 92 + 6 * j) (by omega), up_row (o' := 93 + 6 * j) (by omega), up_row (o' := 94 + 6 * j) (by omega), up_row (o' := 95 + 6 * j) (by omega)]
  exact h
section READ2
variable {l : Launch} {w : Wd} {d : Nat} {Q : Option MV → Mem → Prop} {K V Pl : Nat → Int} {j N F : Nat}
theorem read_end {x : Int} (hx : x = 0 ∨ x = 1) {v3 : Option MV} {M : Mem} (hQ : Q (some (vI x)) (up M 114 1 0)) : WM l w RX2 cX2_read 4 (some .boolean) d Q 72 [some (vR 114), some (vR (90 + 6 * j)), some (vI x), v3] [] M := by
  refine e_aload0 dX2_read_72 ?_
  refine e_iconst dX2_read_73 rfl kc_0 ?_
  refine e_putI fp_X2_15 la_114 rfl dX2_read_74 ?_
  refine e_iload2 dX2_read_77 ?_
  refine e_zret dX2_read_78 (by omega) ?_
  exact hQ
theorem read_loop (hd : 31 ≤ d) (hj : j < 4) (hN : N ≤ 300) (hK : ∀ t, N ≤ t → K t = 0) (hV : ∀ t, -1 ≤ V t ∧ V t ≤ 10000) (hF : 4 * N + 3 ≤ F) : ∀ (n t i : Nat) (acc : List Cz) (M : Mem), i ≤ t → t ≤ N → N + 1 ≤ n + t → TK K V Pl M → CR K V M t → SCR j M acc → acc.length ≤ 24 → M (90 + 6 * j) 1 ≤ t → (∀ x M1, OUTT Pl j M (Tx K V F n t acc) x M1 → Q (some (vI x)) M1) → WM l w RX2 cX2_read 4 (some .boolean) d Q 42 [some (vR 114), some (vR (90 + 6 * j)), some (vI 1), some (vI (i : Int))] [] M
  | 0, t, i, acc, M, hi, ht, hn, hT, hC, hS, ha, hz, hQ => by omega
  | n + 1, t, i, acc, M, hi, ht, hn, hT, hC, hS, ha, hz, hQ => by
    have c7 := hC.2.1
    unfold Tx at hQ
    by_cases k0 : K t = 0
    · rw [if_pos k0] at hQ
      have he := read_end (l := l) (w := w) (d := d) (j := j) (Q := Q) (x := 1) (v3 := some (vI (i : Int))) (M := M) (Or.inr rfl) (hQ 1 _ ⟨⟨fun o a _ => up_row a, up_s _ _ _ _, up_k (by decide)⟩, Or.inl ⟨rfl, rfl, ⟨hS.u114 hj, by rw [up_o (by omega)]; omega⟩, up_k (by decide), up_k (by decide)⟩⟩)
      refine e_iload2 dX2_read_42 ?_
      refine e_if_eq (tgt := 72) dX2_read_43 (by decide) (fun h => absurd h (by decide)) (fun _ => ?_)
      refine e_aload0 dX2_read_46 ?_
      refine e_getI fl_X2_34 la_114 rfl dX2_read_47 ?_
      refine WW.ec (y := K t) (c7) ?_
      refine e_if_eq (tgt := 72) dX2_read_50 (by decide) (fun h50 => ?_) (fun h50 => ?_)
      · exact he
      · refine e_iload3 dX2_read_53 ?_
        refine e_sipush dX2_read_54 rfl ks_300 ?_
        refine e_icmp_gt (tgt := 72) dX2_read_57 (by decide) (fun h57 => ?_) (fun h57 => ?_)
        · exact he
        · omega
    · rw [if_neg k0] at hQ
      have ht1 : t + 1 ≤ N := by
        have : ¬ N ≤ t := fun z => k0 (hK t z)
        omega
      have hcall := ct_X2_readClause (l := l) (w := w) (d := d - 1) (tld := (lawOf acc (V t)).isSome) (F := F) (by omega) hj hN hK hV hF ha hT hC ht hS.1.1 ⟨hS.1.2, hz⟩ (fun h1 h2 => hS.told ⟨h2, h1⟩)
      refine e_iload2 dX2_read_42 ?_
      refine e_if_eq (tgt := 72) dX2_read_43 (by decide) (fun h => absurd h (by decide)) (fun _ => ?_)
      refine e_aload0 dX2_read_46 ?_
      refine e_getI fl_X2_34 la_114 rfl dX2_read_47 ?_
      refine WW.ec (y := K t) (c7) ?_
      refine e_if_eq (tgt := 72) dX2_read_50 (by decide) (fun h50 => ?_) (fun h50 => ?_)
      · omega
      · refine e_iload3 dX2_read_53 ?_
        refine e_sipush dX2_read_54 rfl ks_300 ?_
        refine e_icmp_gt (tgt := 72) dX2_read_57 (by decide) (fun h57 => ?_) (fun h57 => ?_)
        · omega
        · refine e_aload0 dX2_read_60 ?_
          refine e_aload1 dX2_read_61 ?_
          refine e_cVGI (hcall) cy_X2_readClause cv_X2_readClause ml_X2_64 la_114 rfl rfl rfl (rok (by omega) (by decide)) (Nat.le_of_ble_eq_true rfl) dX2_read_62 (fun x M1 hx => ?_)
          have goOn : (clF K V F (lawOf acc (V t)).isSome acc.length t).1 = 0 → SCR j M1 (acc ++ [mkC V t (clF K V F (lawOf acc (V t)).isSome acc.length t).2.2]) → (∀ o, o ≠ 114 → (o < 90 + 6 * j ∨ 95 + 6 * j < o) → M1 o = M o) → (∀ q, q ≠ 6 → q ≠ 7 → q ≠ 8 → q ≠ 9 → M1 114 q = M 114 q) → CR K V M1 (clF K V F (lawOf acc (V t)).isSome acc.length t).2.1 → M1 (90 + 6 * j) 1 = M (90 + 6 * j) 1 + (clF K V F (lawOf acc (V t)).isSome acc.length t).2.2.length → WM l w RX2 cX2_read 4 (some .boolean) d Q 42 [some (vR 114), some (vR (90 + 6 * j)), some (vI 1), some (vI ((i + 1 : Nat) : Int))] [] M1 := by
            intro a1 a2 a3 a4 a5 a6
            have hok := clF_ok hK a1
            rw [if_pos a1] at hQ
            refine read_loop hd hj hN hK hV hF n (clF K V F (lawOf acc (V t)).isSome acc.length t).2.1 (i + 1) _ M1 (by omega) hok.1.2 (by omega) ?_ a5 a2 (by rw [List.length_append, List.length_singleton]; omega) (by omega) (fun x M2 hx => hQ x M2 ?_)
            · unfold TK tIn at hT ⊢
              rw [a3 116 (by decide) (by omega), a3 117 (by decide) (by omega), a3 118 (by decide) (by omega), a4 5 (by decide) (by decide) (by decide) (by decide)]
              exact hT
            · obtain ⟨⟨p1, p2, p3⟩, p4⟩ := hx
              refine ⟨⟨fun o x y => (p1 o x y).trans (a3 o x y), p2, p3.trans (a4 10 (by decide) (by decide) (by decide) (by decide))⟩, ?_⟩
              rw [a4 11 (by decide) (by decide) (by decide) (by decide), a4 12 (by decide) (by decide) (by decide) (by decide)] at p4
              exact p4
          rcases hx with ⟨a, b, v4, r⟩ | ⟨a, b, v4, e, r⟩ | ⟨a, b, r⟩
          · subst b
            have hok := clF_ok hK a
            have hnone : lawOf acc (V t) = none := by
              have := (hok.2.2.2.2 v4).1
              cases h : lawOf acc (V t) with
              | none => rfl
              | some y => rw [h] at this; simp at this
            have hnx := goOn a (scr_law hS rfl ⟨hok.2.2.1.1, v4⟩ hnone (hok.2.2.2.2 v4).2 r) r.1.1 r.1.2.1 r.1.2.2 r.2.1.1
            refine e_istore2 dX2_read_65 rfl ?_
            refine e_iinc3 dX2_read_66 rfl (⟨by omega, by omega⟩) rfl ?_
            refine e_goto (tgt := 42) dX2_read_69 (by decide) ?_
            exact hnx
          · subst b
            have hnx := goOn a (scr_deed hS rfl v4 _ r) r.1.1 r.1.2.1 r.1.2.2 (by rw [e]; exact r.2.1.1)
            refine e_istore2 dX2_read_65 rfl ?_
            refine e_iinc3 dX2_read_66 rfl (⟨by omega, by omega⟩) rfl ?_
            refine e_goto (tgt := 42) dX2_read_69 (by decide) ?_
            exact hnx
          · subst b
            rw [if_neg a] at hQ
            have he := read_end (l := l) (w := w) (d := d) (j := j) (Q := Q) (x := 0) (v3 := some (vI ((i : Int) + 1))) (M := M1) (Or.inl rfl) (hQ 0 _ ⟨⟨fun o x y => by rw [up_row x]; exact r.1 o x y, up_s _ _ _ _, by rw [up_k (by decide)]; exact r.2.1 10 (by decide) (by decide) (by decide) (by decide) (by decide) (by decide)⟩, Or.inr ⟨a, rfl, by rw [up_k (by decide)]; exact r.2.2.1, by rw [up_k (by decide)]; exact r.2.2.2⟩⟩)
            refine e_istore2 dX2_read_65 rfl ?_
            refine e_iinc3 dX2_read_66 rfl (⟨by omega, by omega⟩) rfl ?_
            refine e_goto (tgt := 42) dX2_read_69 (by decide) ?_
            refine e_iload2 dX2_read_42 ?_
            refine e_if_eq (tgt := 72) dX2_read_43 (by decide) (fun _ => ?_) (fun h => absurd h (by decide))
            exact he
end READ2
