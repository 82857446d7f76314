/-! THE MODEL READS A CLAUSE, A TEXT -/
def CO (B : Nat → Int) (L F : Nat) (M : Mem) (t : Nat) (E : List (Int × Int)) (acc : List Cz) (M1 : Mem) : Prop :=
  (((tkK B L t = 2 ∧ 0 ≤ tkV B L t ∧ tkV B L t < 4) ∧ (lawOf acc (tkV B L t)).isSome = false ∧ acc.length < 24) ∧ M1 134 27 = 1 ∧ M1 134 29 = tkV B L t ∧ MS B L M1 (t + 1) [1] [] E 0 ∧ M1 134 28 = acc.length ∧ M1 149 acc.length = tkV B L t ∧ M1 150 acc.length = E.length ∧ OLD M M1 acc.length) ∨
  (4 ≤ tkV B L t ∧ (clF (tkK B L) (tkV B L) F (lawOf acc (tkV B L t)).isSome acc.length t).1 = 0 ∧ M1 134 27 = 4 ∧ MS B L M1 (clF (tkK B L) (tkV B L) F (lawOf acc (tkV B L t)).isSome acc.length t).2.1 [] [] (E ++ [(408, 0)]) 0 ∧ NCL M1 (E ++ [(408, 0)]) (acc ++ [mkC (tkV B L) t []]) ∧ (clF (tkK B L) (tkV B L) F (lawOf acc (tkV B L t)).isSome acc.length t).2.2 = []) ∨
  ((clF (tkK B L) (tkV B L) F (lawOf acc (tkV B L t)).isSome acc.length t).1 ≠ 0 ∧ ER B L M1 (clF (tkK B L) (tkV B L) F (lawOf acc (tkV B L t)).isSome acc.length t).1 (clF (tkK B L) (tkV B L) F (lawOf acc (tkV B L t)).isSome acc.length t).2.1)
section MCL4
variable {l : Launch} {w : Wd} {d : Nat} {M : Mem} {Q : Option MV → Mem → Prop} {B : Nat → Int} {L t F : Nat} {E : List (Int × Int)} {acc : List Cz}
theorem ct_clause (hd : 6 ≤ d) (hL : L ≤ 300) (hm : MS B L M t [] [] E 0) (hN : NCL M E acc) (hc : acc.length ≤ 24) (ht : t ≤ tkN B L) (hk0 : tkK B L t ≠ 0) : GV l w yX9_clause cX9_clause 1 d [vR 134] M (fun M1 => FCl M M1 ∧ CO B L F M t E acc M1) := by
  have hNN : tkN B L ≤ 300 := Nat.le_trans (tk_all (B := B) (L := L)).1.2 hL
  have hK : ∀ t, tkN B L ≤ t → tkK B L t = 0 := fun t h => tkK_z h
  have ht1 : t + 1 ≤ tkN B L := by
    have : ¬ tkN B L ≤ t := fun z => hk0 (hK t z)
    omega
  have hct := hm.1
  have hmb := hm.2.1
  have hac := hm.2.2
  have htk := hct.2.1
  have hw19 := hmb.2.1.1
  have h28 := hN.1
  by_cases k0 : tkK B L t = 2 ∧ 0 ≤ tkV B L t ∧ tkV B L t ≤ 7
  · have hs : M 134 17 = 1 ∧ M 134 18 = tkV B L t := by
      rcases htk with q | q | q | q | q
      · omega
      · omega
      · omega
      · have := q.1; omega
      · omega
    clear htk
    have hnx := hct.2.2 (by omega) (by omega)
    have e29 : ∀ v : Int, up M 134 29 v 134 28 = (acc.length : Int) := fun v => by rw [up_k (by decide)]; exact h28
    have hN2 : NCL (up M 134 29 (tkV B L t)) E acc := by
      unfold NCL at hN ⊢
      rw [up_k (by decide), up_row (o' := 149) (by decide), up_row (o' := 150) (by decide), up_row (o' := 151) (by decide), up_row (o' := 152) (by decide), up_row (o' := 153) (by decide)]
      exact hN
    have hwt := ct_wasTold (l := l) (w := w) (d := d - 1) (M := up M 134 29 (tkV B L t)) (k := tkV B L t) hc (e29 _)
    have hti := told_iff (x := tkV B L t) hN2
    have fc0 : FCl M (up M 134 29 (tkV B L t)) := (FCl.rf M).u (by omega)
    have hm0 : MS B L (up M 134 29 (tkV B L t)) t [] [] E 0 := ⟨hct.fr (fun k a b => up_k (by omega)), hmb.u (by omega), hac⟩
    have w0 : up M 134 29 (tkV B L t) 134 19 = 0 := by rw [up_k (by decide)]; exact hw19
    have e29b : up M 134 29 (tkV B L t) 134 29 = tkV B L t := up_s _ _ _ _
    have h80 : ∀ f : Int, 0 < f → (clF (tkK B L) (tkV B L) F (lawOf acc (tkV B L t)).isSome acc.length t) = (f, t, []) → WM l w RX9 cX9_clause 1 none d (fun r M1 => r = none ∧ FCl M M1 ∧ CO B L F M t E acc M1) 73 [some (vR 134)] [] (erM (up M 134 29 (tkV B L t)) f) := by
      intro f hf he
      have e19 := (er_19 (N := up M 134 29 (tkV B L t)) (f := f)).1
      have hco : FCl M (erM (up M 134 29 (tkV B L t)) f) ∧ CO B L F M t E acc (erM (up M 134 29 (tkV B L t)) f) := ⟨(fc0.u (by omega)).u (by omega), Or.inr (Or.inr (by rw [he]; exact ⟨show f ≠ 0 by omega, erM_er hm0.1⟩))⟩
      refine e_aload0 dX9_clause_73 ?_
      refine e_getI fl_X9_197 la_134 rfl dX9_clause_74 ?_
      refine WW.ec (y := f) (e19) ?_
      refine e_if_le (tgt := 81) dX9_clause_77 (by decide) (fun h77 => ?_) (fun h77 => ?_)
      · omega
      · refine e_vret dX9_clause_80 ?_
        exact ⟨rfl, hco⟩
    have hcl : clF (tkK B L) (tkV B L) F (lawOf acc (tkV B L t)).isSome acc.length t = (if tkV B L t < 4 ∧ (lawOf acc (tkV B L t)).isSome = true then (4, t, []) else if 24 ≤ acc.length then (6, t, []) else
      if tkV B L t < 4 then (if (Ps (tkK B L) (tkV B L) (tkV B L t) F 0 0 (t + 1)).1 = 0 then (if tkK B L (Ps (tkK B L) (tkV B L) (tkV B L t) F 0 0 (t + 1)).2.1 = 59 then (0, (Ps (tkK B L) (tkV B L) (tkV B L t) F 0 0 (t + 1)).2.1 + 1, (Ps (tkK B L) (tkV B L) (tkV B L t) F 0 0 (t + 1)).2.2) else (1, (Ps (tkK B L) (tkV B L) (tkV B L t) F 0 0 (t + 1)).2.1, [])) else ((Ps (tkK B L) (tkV B L) (tkV B L t) F 0 0 (t + 1)).1, (Ps (tkK B L) (tkV B L) (tkV B L t) F 0 0 (t + 1)).2.1, []))
      else (if (ddF (tkK B L) (tkV B L) (tkV B L t) (t + 1)).1 = 0 then (if tkK B L (ddF (tkK B L) (tkV B L) (tkV B L t) (t + 1)).2 = 59 then (0, (ddF (tkK B L) (tkV B L) (tkV B L t) (t + 1)).2 + 1, []) else (1, (ddF (tkK B L) (tkV B L) (tkV B L t) (t + 1)).2, [])) else ((ddF (tkK B L) (tkV B L) (tkV B L t) (t + 1)).1, (ddF (tkK B L) (tkV B L) (tkV B L t) (t + 1)).2, []))) := by
      unfold clF; rw [if_pos k0]
    -- from the storing on
    have h73 : ¬ (tkV B L t < 4 ∧ (lawOf acc (tkV B L t)).isSome = true) → acc.length < 24 → WM l w RX9 cX9_clause 1 none d (fun r M1 => r = none ∧ FCl M M1 ∧ CO B L F M t E acc M1) 73 [some (vR 134)] [] (up M 134 29 (tkV B L t)) := by
      intro nt hlt
      rw [if_neg nt, if_neg (by omega)] at hcl
      have e35 : up M 134 29 (tkV B L t) 134 35 = (E.length : Int) := by rw [up_k (by decide)]; exact hmb.2.2.2.2.1
      have fc5 : FCl M (up (up (up (up (up (up M 134 29 (tkV B L t)) 149 acc.length (tkV B L t)) 150 acc.length (E.length : Int)) 151 acc.length (-1)) 152 acc.length (-1)) 153 acc.length (-1)) := ((((fc0.uo (by decide)).uo (by decide)).uo (by decide)).uo (by decide)).uo (by decide)
      have ol5 : OLD M (up (up (up (up (up (up M 134 29 (tkV B L t)) 149 acc.length (tkV B L t)) 150 acc.length (E.length : Int)) 151 acc.length (-1)) 152 acc.length (-1)) 153 acc.length (-1)) acc.length := (((((OLD.rf M _).tr (fun o a b => up_row (by omega))).u).u.u).u).u
      have mb5 : MB B L (up (up (up (up (up (up M 134 29 (tkV B L t)) 149 acc.length (tkV B L t)) 150 acc.length (E.length : Int)) 151 acc.length (-1)) 152 acc.length (-1)) 153 acc.length (-1)) [] [] E 0 := hmb.fr (fun q hq => by rw [up_row (by omega), up_row (by omega), up_row (by omega), up_row (by omega), up_row (by omega), up_row (by omega)]) (fun q hq => by rw [up_o (by decide), up_o (by decide), up_o (by decide), up_o (by decide), up_o (by decide), up_k (by omega)])
      have k5 : ∀ q, q ≠ 29 → up (up (up (up (up (up M 134 29 (tkV B L t)) 149 acc.length (tkV B L t)) 150 acc.length (E.length : Int)) 151 acc.length (-1)) 152 acc.length (-1)) 153 acc.length (-1) 134 q = M 134 q := fun q hq => by rw [up_o (by decide), up_o (by decide), up_o (by decide), up_o (by decide), up_o (by decide), up_k hq]
      have k29 : up (up (up (up (up (up M 134 29 (tkV B L t)) 149 acc.length (tkV B L t)) 150 acc.length (E.length : Int)) 151 acc.length (-1)) 152 acc.length (-1)) 153 acc.length (-1) 134 29 = tkV B L t := by rw [up_o (by decide), up_o (by decide), up_o (by decide), up_o (by decide), up_o (by decide), up_s]
      have k149 : up (up (up (up (up (up M 134 29 (tkV B L t)) 149 acc.length (tkV B L t)) 150 acc.length (E.length : Int)) 151 acc.length (-1)) 152 acc.length (-1)) 153 acc.length (-1) 149 acc.length = tkV B L t := by rw [up_o (by decide), up_o (by decide), up_o (by decide), up_o (by decide), up_s]
      have k150 : up (up (up (up (up (up M 134 29 (tkV B L t)) 149 acc.length (tkV B L t)) 150 acc.length (E.length : Int)) 151 acc.length (-1)) 152 acc.length (-1)) 153 acc.length (-1) 150 acc.length = (E.length : Int) := by rw [up_o (by decide), up_o (by decide), up_o (by decide), up_s]
      have h137 : WM l w RX9 cX9_clause 1 none d (fun r M1 => r = none ∧ FCl M M1 ∧ CO B L F M t E acc M1) 137 [some (vR 134)] [] (up (up (up (up (up (up M 134 29 (tkV B L t)) 149 acc.length (tkV B L t)) 150 acc.length (E.length : Int)) 151 acc.length (-1)) 152 acc.length (-1)) 153 acc.length (-1)) := by
        generalize up (up (up (up (up (up M 134 29 (tkV B L t)) 149 acc.length (tkV B L t)) 150 acc.length (E.length : Int)) 151 acc.length (-1)) 152 acc.length (-1)) 153 acc.length (-1) = N at fc5 ol5 mb5 k5 k29 k149 k150
        have hnxt := ct_X9_next (l := l) (w := w) (d := d - 1) (M := N) (B := B) (L := L) (t := t + 1) (by omega) hL mb5.1.2 mb5.1.1 (by
          obtain ⟨a, n, q1, q2⟩ := hnx
          exact ⟨a, n, by rw [k5 15 (by decide)]; exact q1, q2⟩)
        refine e_aload0 dX9_clause_137 ?_
        refine e_cVGV (hnxt) cy_X9_next cv_X9_next ml_X9_218 la_134 rfl rfl rfl (rok (by omega) (by decide)) (Nat.le_of_ble_eq_true rfl) dX9_clause_138 (fun N1 hx => ?_)
        obtain ⟨hf, hct1⟩ := hx
        have hD : DS B L M (tkV B L t) E acc.length N1 (t + 1) := ⟨⟨hct1, mb5.fn hf, by show E.length + 0 + 0 ≤ t + 1; have : E.length + 0 + 0 ≤ t := hac; omega⟩, fc5.tr hf.fcl, ol5.tr (fun o a b => hf.1 o (by omega)), by rw [hf.2 28 (by decide), k5 28 (by decide)]; exact h28, by rw [hf.2 29 (by decide)]; exact k29, by rw [hf.1 149 (by decide)]; exact k149, by rw [hf.1 150 (by decide)]; exact k150⟩
        have h29' := hD.2.2.2.2.1
        by_cases v4 : tkV B L t < 4
        · have h22 : N1 134 22 = ((0 : Nat) : Int) := hD.1.2.1.2.2.1.1
          have hof := ct_X9_opensFrame (l := l) (w := w) (d := d - 1) (M := N1) (f := 1) h22 (by decide)
          have hco : FCl M (up (ofM N1 1) 134 27 1) ∧ CO B L F M t E acc (up (ofM N1 1) 134 27 1) := by
            have kk : ∀ q, q ≠ 22 → q ≠ 27 → up (ofM N1 1) 134 27 1 134 q = N1 134 q := fun q a b => by unfold ofM; rw [up_k b, up_k a, up_o (by decide)]
            have ko : ∀ q, q ≠ 134 → q ≠ 146 → up (ofM N1 1) 134 27 1 q = N1 q := fun q a b => by unfold ofM; rw [up_row a, up_row a, up_row b]
            refine ⟨((hD.2.1.uo (by decide)).u (by omega)).u (by omega), Or.inl ⟨⟨⟨k0.1, k0.2.1, v4⟩, ?_, hlt⟩, up_s _ _ _ _, ?_, ⟨hct1.fr (fun k a b => kk k (by omega) (by omega)), ((hD.1.2.1).of).u (by omega), ?_⟩, ?_, ?_, ?_, ?_⟩⟩
            · cases h : (lawOf acc (tkV B L t)).isSome with
              | false => rfl
              | true => exact absurd ⟨v4, h⟩ nt
            · rw [kk 29 (by decide) (by decide)]; exact h29'
            · show E.length + 0 + 1 ≤ t + 1
              have : E.length + 0 + 0 ≤ t := hac
              omega
            · rw [kk 28 (by decide) (by decide)]; exact hD.2.2.2.1
            · rw [ko 149 (by decide) (by decide)]; exact hD.2.2.2.2.2.1
            · rw [ko 150 (by decide) (by decide)]; exact hD.2.2.2.2.2.2
            · exact hD.2.2.1.tr (fun o a b => ko o (by omega) (by omega))
          refine e_aload0 dX9_clause_141 ?_
          refine e_getI fl_X9_237 la_134 rfl dX9_clause_142 ?_
          refine WW.ec (y := tkV B L t) (h29') ?_
          refine e_iconst dX9_clause_145 rfl kc_3 ?_
          refine e_icmp_gt (tgt := 160) dX9_clause_146 (by decide) (fun h => absurd h (by omega)) (fun h146 => ?_)
          refine e_aload0 dX9_clause_149 ?_
          refine e_iconst dX9_clause_150 rfl kc_1 ?_
          refine e_cVV (hof) cy_X9_opensFrame cv_X9_opensFrame ml_X9_215 la_134 rfl rfl rfl (rok (by omega) (by decide)) (Nat.le_of_ble_eq_true rfl) dX9_clause_151 ?_
          refine e_aload0 dX9_clause_154 ?_
          refine e_iconst dX9_clause_155 rfl kc_1 ?_
          refine e_putI fp_X9_250 la_134 rfl dX9_clause_156 ?_
          refine e_vret dX9_clause_159 ?_
          exact ⟨rfl, hco⟩
        · rw [if_neg v4] at hcl
          have okQ : ∀ N0 N2, (ddF (tkK B L) (tkV B L) (tkV B L t) (t + 1)).1 = 0 → tkK B L (ddF (tkK B L) (tkV B L) (tkV B L t) (t + 1)).2 = 59 → DS B L M (tkV B L t) E acc.length N0 (ddF (tkK B L) (tkV B L) (tkV B L t) (t + 1)).2 → N0 151 acc.length = tkV B L (t + 1) → (tkV B L t = 4 → N0 152 acc.length = tkV B L (t + 3) ∧ N0 153 acc.length = tkV B L (t + 5)) → CIO B L N0 ((ddF (tkK B L) (tkV B L) (tkV B L t) (t + 1)).2 + 1) E 0 N2 → FCl M N2 ∧ CO B L F M t E acc N2 := by
            intro N0 N2 d1 d2 dd d3 d4 ci
            rw [if_pos d1, if_pos d2] at hcl
            obtain ⟨c1, c2, c3, c4, c5⟩ := ci
            have fc : FCl N0 N2 := ⟨fun o a b => c1 o a (by omega) (by omega) (by omega), fun k a b c e f g => c2 k a b c e g⟩
            have ol : OLD M N2 acc.length := dd.2.2.1.tr (fun o a b => c1 o (by omega) (by omega) (by omega) (by omega))
            refine ⟨dd.2.1.tr fc, Or.inr (Or.inl ⟨by omega, by rw [hcl], c3, by rw [hcl]; exact c5, ?_, by rw [hcl]⟩)⟩
            have hmk : mkC (tkV B L) t [] = (tkV B L t, tkV B L (t + 1), (if tkV B L t = 4 then tkV B L (t + 3) else -1), (if tkV B L t = 4 then tkV B L (t + 5) else -1), []) := by unfold mkC; rw [if_neg v4]
            refine hN.ext (by rw [c4, dd.2.2.2.1]) ol ?_ ⟨E.length, ?_, by rw [List.length_append]; show _ < _ + 1; omega, fun z => ?_⟩ (fun _ => ?_) (fun z => ?_)
            · rw [hmk, c1 149 (by decide) (by decide) (by decide) (by decide)]; exact dd.2.2.2.2.2.1
            · rw [c1 150 (by decide) (by decide) (by decide) (by decide)]; exact dd.2.2.2.2.2.2
            · rw [hmk] at z; exact absurd z v4
            · rw [hmk, c1 151 (by decide) (by decide) (by decide) (by decide)]; exact d3
            · rw [hmk] at z
              have z4 : tkV B L t = 4 := z
              rw [hmk, if_pos z4, if_pos z4, c1 152 (by decide) (by decide) (by decide) (by decide), c1 153 (by decide) (by decide) (by decide) (by decide)]
              exact d4 z4
          have badQ : (ddF (tkK B L) (tkV B L) (tkV B L t) (t + 1)).1 = 0 → tkK B L (ddF (tkK B L) (tkV B L) (tkV B L t) (t + 1)).2 ≠ 59 → ∀ N2, FCl M N2 → ER B L N2 1 (ddF (tkK B L) (tkV B L) (tkV B L t) (t + 1)).2 → FCl M N2 ∧ CO B L F M t E acc N2 := by
            intro d1 d2 N2 e1 e2
            rw [if_pos d1, if_neg d2] at hcl
            exact ⟨e1, Or.inr (Or.inr (by rw [hcl]; exact ⟨n10, e2⟩))⟩
          have bd2Q : (ddF (tkK B L) (tkV B L) (tkV B L t) (t + 1)).1 ≠ 0 → ∀ N2, FCl M N2 → ER B L N2 (ddF (tkK B L) (tkV B L) (tkV B L t) (t + 1)).1 (ddF (tkK B L) (tkV B L) (tkV B L t) (t + 1)).2 → FCl M N2 ∧ CO B L F M t E acc N2 := by
            intro d1 N2 e1 e2
            rw [if_neg d1] at hcl
            exact ⟨e1, Or.inr (Or.inr (by rw [hcl]; exact ⟨d1, e2⟩))⟩
          have h160 : WM l w RX9 cX9_clause 1 none d (fun r M1 => r = none ∧ FCl M M1 ∧ CO B L F M t E acc M1) 160 [some (vR 134)] [] N1 := by
            by_cases b4 : tkV B L t = 4
            · rw [b4] at hD okQ badQ bd2Q
              exact cl_buy (by omega) hL hNN hD hlt (fun d1 d2 N0 N2 dd a1 a2 a3 ci => ⟨rfl, okQ N0 N2 d1 d2 dd a1 (fun _ => ⟨a2, a3⟩) ci⟩) (fun d1 d2 N2 e1 e2 => ⟨rfl, badQ d1 d2 N2 e1 e2⟩) (fun d1 N2 e1 e2 => ⟨rfl, bd2Q d1 N2 e1 e2⟩)
            · exact cl_one (by omega) hL hNN (by omega) hD hlt (fun d1 d2 N0 N2 dd a1 ci => ⟨rfl, okQ N0 N2 d1 d2 dd a1 (fun z => absurd z b4) ci⟩) (fun d1 d2 N2 e1 e2 => ⟨rfl, badQ d1 d2 N2 e1 e2⟩) (fun d1 N2 e1 e2 => ⟨rfl, bd2Q d1 N2 e1 e2⟩)
          refine e_aload0 dX9_clause_141 ?_
          refine e_getI fl_X9_237 la_134 rfl dX9_clause_142 ?_
          refine WW.ec (y := tkV B L t) (h29') ?_
          refine e_iconst dX9_clause_145 rfl kc_3 ?_
          refine e_icmp_gt (tgt := 160) dX9_clause_146 (by decide) (fun h146 => ?_) (fun h => absurd h (by omega))
          exact h160
      refine e_aload0 dX9_clause_73 ?_
      refine e_getI fl_X9_197 la_134 rfl dX9_clause_74 ?_
      refine WW.ec (y := 0) (w0) ?_
      refine e_if_le (tgt := 81) dX9_clause_77 (by decide) (fun h77 => ?_) (fun h => absurd h (by decide))
      refine e_aload0 dX9_clause_81 ?_
      refine e_getR fl_X9_60 la_134 rfl dX9_clause_82 ?_
      refine e_aload0 dX9_clause_85 ?_
      refine e_getI fl_X9_259 la_134 rfl dX9_clause_86 ?_
      refine WW.ec (y := (acc.length : Int)) (e29 _) ?_
      refine e_aload0 dX9_clause_89 ?_
      refine e_getI fl_X9_237 la_134 rfl dX9_clause_90 ?_
      refine WW.ec (y := tkV B L t) (e29b) ?_
      refine e_iastK (k := acc.length) la_149 (by omega) (by omega) dX9_clause_93 ?_
      refine e_aload0 dX9_clause_94 ?_
      refine e_getR fl_X9_63 la_134 rfl dX9_clause_95 ?_
      refine e_aload0 dX9_clause_98 ?_
      refine e_getI fl_X9_259 la_134 rfl dX9_clause_99 ?_
      refine WW.ec (y := (acc.length : Int)) (by rw [up_o (by decide)]; exact e29 _) ?_
      refine e_aload0 dX9_clause_102 ?_
      refine e_getI fl_X9_203 la_134 rfl dX9_clause_103 ?_
      refine WW.ec (y := (E.length : Int)) (by rw [up_o (by decide)]; exact e35) ?_
      refine e_iastK (k := acc.length) la_150 (by omega) (by omega) dX9_clause_106 ?_
      refine e_aload0 dX9_clause_107 ?_
      refine e_getR fl_X9_66 la_134 rfl dX9_clause_108 ?_
      refine e_aload0 dX9_clause_111 ?_
      refine e_getI fl_X9_259 la_134 rfl dX9_clause_112 ?_
      refine WW.ec (y := (acc.length : Int)) (by rw [up_o (by decide), up_o (by decide)]; exact e29 _) ?_
      refine e_iconst dX9_clause_115 rfl kc_m1 ?_
      refine e_iastK (k := acc.length) la_151 (by omega) (by omega) dX9_clause_116 ?_
      refine e_aload0 dX9_clause_117 ?_
      refine e_getR fl_X9_69 la_134 rfl dX9_clause_118 ?_
      refine e_aload0 dX9_clause_121 ?_
      refine e_getI fl_X9_259 la_134 rfl dX9_clause_122 ?_
      refine WW.ec (y := (acc.length : Int)) (by rw [up_o (by decide), up_o (by decide), up_o (by decide)]; exact e29 _) ?_
      refine e_iconst dX9_clause_125 rfl kc_m1 ?_
      refine e_iastK (k := acc.length) la_152 (by omega) (by omega) dX9_clause_126 ?_
      refine e_aload0 dX9_clause_127 ?_
      refine e_getR fl_X9_72 la_134 rfl dX9_clause_128 ?_
      refine e_aload0 dX9_clause_131 ?_
      refine e_getI fl_X9_259 la_134 rfl dX9_clause_132 ?_
      refine WW.ec (y := (acc.length : Int)) (by rw [up_o (by decide), up_o (by decide), up_o (by decide), up_o (by decide)]; exact e29 _) ?_
      refine e_iconst dX9_clause_135 rfl kc_m1 ?_
      refine e_iastK (k := acc.length) la_153 (by omega) (by omega) dX9_clause_136 ?_
      exact h137
    have h58 : ¬ (tkV B L t < 4 ∧ (lawOf acc (tkV B L t)).isSome = true) → WM l w RX9 cX9_clause 1 none d (fun r M1 => r = none ∧ FCl M M1 ∧ CO B L F M t E acc M1) 58 [some (vR 134)] [] (up M 134 29 (tkV B L t)) := by
      intro nt
      by_cases h24 : acc.length = 24
      · have hx := h80 6 (by decide) (by rw [hcl, if_neg nt, if_pos (by omega)])
        refine e_aload0 dX9_clause_58 ?_
        refine e_getI fl_X9_259 la_134 rfl dX9_clause_59 ?_
        refine WW.ec (y := (acc.length : Int)) (e29 _) ?_
        refine e_bipush dX9_clause_62 rfl kb_24 ?_
        refine e_icmp_ne (tgt := 73) dX9_clause_64 (by decide) (fun h => absurd h (by omega)) (fun h64 => ?_)
        refine e_aload0 dX9_clause_67 ?_
        refine e_bipush dX9_clause_68 rfl kb_6 ?_
        refine e_cVV (ct_X9_errs0 (d := d - 1) w0) cy_X9_errs cv_X9_errs ml_X9_212 la_134 rfl rfl rfl (rok (by omega) (by decide)) (Nat.le_of_ble_eq_true rfl) dX9_clause_70 ?_
        exact hx
      · have hx := h73 nt (by omega)
        refine e_aload0 dX9_clause_58 ?_
        refine e_getI fl_X9_259 la_134 rfl dX9_clause_59 ?_
        refine WW.ec (y := (acc.length : Int)) (e29 _) ?_
        refine e_bipush dX9_clause_62 rfl kb_24 ?_
        refine e_icmp_ne (tgt := 73) dX9_clause_64 (by decide) (fun h64 => ?_) (fun h => absurd h (by omega))
        exact hx
    refine MT.of [some (vR 134)] ⟨by decide, rfl⟩ rfl (Nat.le_of_ble_eq_true rfl) (fun hA hM => ?_)
    refine e_aload0 dX9_clause_0 ?_
    refine e_getI fl_X9_180 la_134 rfl dX9_clause_1 ?_
    refine WW.ec (y := 1) (hs.1) ?_
    refine e_iconst dX9_clause_4 rfl kc_1 ?_
    refine e_icmp_ne (tgt := 17) dX9_clause_5 (by decide) (fun h => absurd h (fun z => z rfl)) (fun h5 => ?_)
    refine e_aload0 dX9_clause_8 ?_
    refine e_getI fl_X9_193 la_134 rfl dX9_clause_9 ?_
    refine WW.ec (y := tkV B L t) (hs.2) ?_
    refine e_bipush dX9_clause_12 rfl kb_7 ?_
    refine e_icmp_le (tgt := 23) dX9_clause_14 (by decide) (fun h14 => ?_) (fun h14 => ?_)
    · refine e_aload0 dX9_clause_23 ?_
      refine e_aload0 dX9_clause_24 ?_
      refine e_getI fl_X9_193 la_134 rfl dX9_clause_25 ?_
      refine WW.ec (y := tkV B L t) (hs.2) ?_
      refine e_putI fp_X9_237 la_134 rfl dX9_clause_28 ?_
      refine e_aload0 dX9_clause_31 ?_
      refine e_getI fl_X9_237 la_134 rfl dX9_clause_32 ?_
      refine WW.ec (y := tkV B L t) (e29b) ?_
      refine e_iconst dX9_clause_35 rfl kc_3 ?_
      refine e_icmp_gt (tgt := 58) dX9_clause_36 (by decide) (fun h36 => ?_) (fun h36 => ?_)
      · first | exact h58 (fun z => by have := z.1; omega) | exact h58 (fun z => g44 (hti.mpr z.2))
      · refine e_aload0 dX9_clause_39 ?_
        refine e_aload0 dX9_clause_40 ?_
        refine e_getI fl_X9_237 la_134 rfl dX9_clause_41 ?_
        refine WW.ec (y := tkV B L t) (e29b) ?_
        refine e_cVZ (hwt) cy_X9_wasTold cv_X9_wasTold ml_X9_265 la_134 rfl rfl rfl (rok (by omega) (by decide)) (Nat.le_of_ble_eq_true rfl) dX9_clause_44 (fun g44 => ?_) (fun g44 => ?_)
        · refine e_if_eq (tgt := 58) dX9_clause_47 (by decide) (fun h => absurd h (by decide)) (fun _ => ?_)
          refine e_aload0 dX9_clause_50 ?_
          refine e_iconst dX9_clause_51 rfl kc_4 ?_
          refine e_cVV (ct_X9_errs0 (d := d - 1) w0) cy_X9_errs cv_X9_errs ml_X9_212 la_134 rfl rfl rfl (rok (by omega) (by decide)) (Nat.le_of_ble_eq_true rfl) dX9_clause_52 ?_
          refine e_goto (tgt := 73) dX9_clause_55 (by decide) ?_
          exact h80 4 (by decide) (by rw [hcl, if_pos ⟨by omega, hti.mp g44⟩])
        · refine e_if_eq (tgt := 58) dX9_clause_47 (by decide) (fun _ => ?_) (fun h => absurd h (by decide))
          first | exact h58 (fun z => by have := z.1; omega) | exact h58 (fun z => g44 (hti.mpr z.2))
    · exfalso; omega
  · have hcl : clF (tkK B L) (tkV B L) F (lawOf acc (tkV B L t)).isSome acc.length t = (1, t, []) := by unfold clF; rw [if_neg k0]
    have hs : ¬ (M 134 17 = 1 ∧ M 134 18 ≤ 7) := by
      rcases htk with q | q | q | q | q
      · omega
      · omega
      · omega
      · have := q.2; omega
      · have := q.2; omega
    clear htk
    have hco : FCl M (erM M 1) ∧ CO B L F M t E acc (erM M 1) := ⟨((FCl.rf M).u (by omega)).u (by omega), Or.inr (Or.inr (by rw [hcl]; exact ⟨n10, erM_er hct⟩))⟩
    refine MT.of [some (vR 134)] ⟨by decide, rfl⟩ rfl (Nat.le_of_ble_eq_true rfl) (fun hA hM => ?_)
    refine e_aload0 dX9_clause_0 ?_
    refine e_getI fl_X9_180 la_134 rfl dX9_clause_1 ?_
    refine e_iconst dX9_clause_4 rfl kc_1 ?_
    refine e_icmp_ne (tgt := 17) dX9_clause_5 (by decide) (fun h5 => ?_) (fun h5 => ?_)
    · refine e_aload0 dX9_clause_17 ?_
      refine e_iconst dX9_clause_18 rfl kc_1 ?_
      refine e_cVV (ct_X9_errs0 (d := d - 1) hw19) cy_X9_errs cv_X9_errs ml_X9_212 la_134 rfl rfl rfl (rok (by omega) (by decide)) (Nat.le_of_ble_eq_true rfl) dX9_clause_19 ?_
      refine e_vret dX9_clause_22 ?_
      exact ⟨rfl, hco⟩
    · refine e_aload0 dX9_clause_8 ?_
      refine e_getI fl_X9_193 la_134 rfl dX9_clause_9 ?_
      refine e_bipush dX9_clause_12 rfl kb_7 ?_
      refine e_icmp_le (tgt := 23) dX9_clause_14 (by decide) (fun h14 => ?_) (fun h14 => ?_)
      · exact absurd ⟨h5, h14⟩ hs
      · refine e_aload0 dX9_clause_17 ?_
        refine e_iconst dX9_clause_18 rfl kc_1 ?_
        refine e_cVV (ct_X9_errs0 (d := d - 1) hw19) cy_X9_errs cv_X9_errs ml_X9_212 la_134 rfl rfl rfl (rok (by omega) (by decide)) (Nat.le_of_ble_eq_true rfl) dX9_clause_19 ?_
        refine e_vret dX9_clause_22 ?_
        exact ⟨rfl, hco⟩
end MCL4
