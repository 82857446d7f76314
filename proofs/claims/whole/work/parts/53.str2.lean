/-! STRINGS: length and charAt -/
section STR2
variable {l : Launch} {w : Wd} {own : String} {cc : ByteArray} {nL : Nat} {R : Room} {cs sl : Nat} {A : State → Nat → Prop} {Qf : List Frame → Array Value → State → State → Prop} {Ex : State → Array Value → Method → Prop} {pc : Nat} {L : List (Option MV)} {st : List MV} {M : Mem} {d : Nat} {Q : Option MV → Mem → Prop}
abbrev PT (l : Launch) (w : Wd) (y : MethodName) (bytes : ByteArray) (maxL : Nat) (rt : FieldType) (d : Nat) (as : List MV) (M : Mem) (x : Int) (M1 : Mem) : Prop := MT l w y bytes maxL (some rt) d as M (fun r M' => M' = M1 ∧ r = some (vI x))
theorem i2c_b : ∀ x : Nat, x < 128 → ((Int32.ofInt (x : Int)).toUInt32 % 65536).toInt32 = Int32.ofInt (x : Int) := by decide +kernel
theorem cn_b : ∀ x : Nat, x < 128 → narrow .char (.int (Int32.ofInt (x : Int))) = .int (Int32.ofInt (x : Int)) := by decide +kernel
theorem and_b : ∀ x : Nat, x < 128 → bAnd (x : Int) 255 = x := by decide +kernel
theorem shr_b : ∀ x : Nat, x < 8 → bShr (x : Int) 0 = x := by decide +kernel
theorem e_i2c {x : Int} (hx : 0 ≤ x ∧ x ≤ 127) (hd : decode cc pc = .ok (.i2c, 1))
    (k : WW l w own cc nL R cs sl A Qf Ex (pc + 1) L (vI x :: st) M) : WW l w own cc nL R cs sl A Qf Ex pc L (vI x :: st) M := by
  intro p e s m args below meth c H locs ls hF hE hS hA hP hSS hM hL hst
  refine lv_i2c hF.1 hF.2.1 (v := Int32.ofInt x) hd (by
    have := i2c_b x.toNat (by omega)
    rw [Int.toNat_of_nonneg hx.1] at this
    exact this) ?_
  exact k p e s m args below meth c H locs ls hF hE hS hA hP hSS hM hL hst
theorem e_tret {x : Int} {ty : FieldType} (hd : decode cc pc = .ok (.ireturn, 1)) (hn : narrow ty (.int (Int32.ofInt x)) = .int (Int32.ofInt x)) (hq : Q (some (vI x)) M) : WM l w own cc nL (some ty) d Q pc L [vI x] M := by
  intro p e s m args below meth c H locs ls hF hE hS hA hP hSS hM hL hst
  exact W.zret (v := Int32.ofInt x) hF.1 hF.2.1 hE.1 hn (fun t ht _ => ⟨⟨some (vI x), M, rfl, fun v hv => by cases hv; exact hst _ List.mem_cons_self, hq, by rw [ht]; exact hP, hM⟩, hSS.F ht⟩) hSS.2.2 hd hE.2
theorem e_cWI {y : MethodName} {bytes : ByteArray} {maxL n i d k0 : Nat} {rt : FieldType} {as : List MV} {st0 : List MV} {x : Int} {M1 : Mem} (hk0 : k0 < 18) (hcl : y.cls = "java/lang/String") (hM : PT l w y bytes maxL rt d (vR (strB + k0) :: as) M x M1) (hY : CY y bytes maxL (some rt) n) (hV : CV y) (hlk : Cond.methodLink own i y ∈ TBL) (hn : as.length = n) (hs0 : st0 = as.reverse ++ vR (strB + k0) :: st) (hR : ROk R cs sl d maxL) (hwt : wt st ≤ 8) (hd : decode cc pc = .ok (.invokevirtual i, 3))
    (k : WW l w own cc nL R cs sl A Qf Ex (pc + 3) L (vI x :: st) M1) : WW l w own cc nL R cs sl A Qf Ex pc L st0 M :=
  e_callVS hk0 hcl hM hY hV hlk hn hs0 hR hwt hd (fun r M9 hq => by obtain ⟨rfl, rfl⟩ := hq; exact k)
theorem e_cTI {y : MethodName} {bytes : ByteArray} {maxL n i d : Nat} {rt : FieldType} {as : List MV} {st0 : List MV} {x : Int} {M1 : Mem} (hM : PT l w y bytes maxL rt d as M x M1) (hY : CY y bytes maxL (some rt) n) (hV : Cond.static y ∈ TBL) (hlk : Cond.methodLink own i y ∈ TBL) (hn : as.length = n) (hs0 : st0 = as.reverse ++ st) (hR : ROk R cs sl d maxL) (hwt : wt st ≤ 8) (hd : decode cc pc = .ok (.invokestatic i, 3))
    (k : WW l w own cc nL R cs sl A Qf Ex (pc + 3) L (vI x :: st) M1) : WW l w own cc nL R cs sl A Qf Ex pc L st0 M :=
  e_callS hM hY hV hlk hn hs0 hR hwt hd (fun r M9 hq => by obtain ⟨rfl, rfl⟩ := hq; exact k)
theorem dJ3c_0 : decode cJ3_checkIndex_8e157 0 = .ok (.iload_n 0, 1) := by decide +kernel
theorem dJ3c_1 : decode cJ3_checkIndex_8e157 1 = .ok (.ifCond .lt 8, 3) := by decide +kernel
theorem dJ3c_4 : decode cJ3_checkIndex_8e157 4 = .ok (.iload_n 0, 1) := by decide +kernel
theorem dJ3c_5 : decode cJ3_checkIndex_8e157 5 = .ok (.iload_n 1, 1) := by decide +kernel
theorem dJ3c_6 : decode cJ3_checkIndex_8e157 6 = .ok (.if_icmp .lt 10, 3) := by decide +kernel
theorem dJ3c_16 : decode cJ3_checkIndex_8e157 16 = .ok (.iload_n 0, 1) := by decide +kernel
theorem dJ3c_17 : decode cJ3_checkIndex_8e157 17 = .ok (.ireturn, 1) := by decide +kernel
theorem ct_J0_coder {k : Nat} (hk : k < 18) : PT l w yJ0_coder_7d493 cJ0_coder_7d493 1 .byte d [vR (strB + k)] M 0 M := by
  refine MT.of (own := RJ0) [some (vR (strB + k))] ⟨by decide, rfl⟩ rfl (Nat.le_of_ble_eq_true rfl) (fun hA hM => ?_)
  refine e_compact fs_compact dJ0_coder_7d493_0 ?_
  refine e_if_eq (tgt := 13) dJ0_coder_7d493_3 (by decide) (fun h => absurd h (by decide)) (fun _ => ?_)
  refine e_aload0 dJ0_coder_7d493_6 ?_
  refine e_strC hk fs_coder dJ0_coder_7d493_7 ?_
  refine e_goto (tgt := 14) dJ0_coder_7d493_10 (by decide) ?_
  exact e_tret dJ0_coder_7d493_14 rfl ⟨rfl, rfl⟩
theorem ct_J0_isLatin1 {k : Nat} (hk : k < 18) : PT l w yJ0_isLatin1_aae02 cJ0_isLatin1_aae02 1 .boolean d [vR (strB + k)] M 1 M := by
  refine MT.of (own := RJ0) [some (vR (strB + k))] ⟨by decide, rfl⟩ rfl (Nat.le_of_ble_eq_true rfl) (fun hA hM => ?_)
  refine e_compact fs_compact dJ0_isLatin1_aae02_0 ?_
  refine e_if_eq (tgt := 17) dJ0_isLatin1_aae02_3 (by decide) (fun h => absurd h (by decide)) (fun _ => ?_)
  refine e_aload0 dJ0_isLatin1_aae02_6 ?_
  refine e_strC hk fs_coder dJ0_isLatin1_aae02_7 ?_
  refine e_if_ne (tgt := 17) dJ0_isLatin1_aae02_10 (by decide) (fun h => absurd rfl h) (fun _ => ?_)
  refine e_iconst dJ0_isLatin1_aae02_13 rfl kc_1 ?_
  refine e_goto (tgt := 18) dJ0_isLatin1_aae02_14 (by decide) ?_
  exact e_tret dJ0_isLatin1_aae02_18 rfl ⟨rfl, rfl⟩
theorem ct_J0_length {k : Nat} (hd : 1 ≤ d) (hk : k < 18) : PT l w yJ0_length_8abf5 cJ0_length_8abf5 1 .int d [vR (strB + k)] M (strLen.getD k 0 : Nat) M := by
  refine MT.of (own := RJ0) [some (vR (strB + k))] ⟨by decide, rfl⟩ rfl (Nat.le_of_ble_eq_true rfl) (fun hA hM => ?_)
  refine e_aload0 dJ0_length_8abf5_0 ?_
  refine e_strV hk fs_value dJ0_length_8abf5_1 ?_
  refine e_strN hk dJ0_length_8abf5_4 ?_
  refine e_aload0 dJ0_length_8abf5_5 ?_
  refine e_cWI hk rfl (ct_J0_coder (d := d - 1) hk) cy_J0_coder_7d493 cv_J0_coder_7d493 ml_J0_335 rfl rfl (rok (by omega) (by decide)) (Nat.le_of_ble_eq_true rfl) dJ0_length_8abf5_6 ?_
  refine e_ishr dJ0_length_8abf5_9 ?_
  refine WW.ec (y := (strLen.getD k 0 : Nat)) (shr_b _ (by have := strLen_b k hk; omega)) ?_
  exact e_iret dJ0_length_8abf5_10 ⟨rfl, rfl⟩
theorem ct_J3_checkIndex {i n : Int} {o : Option Nat} (hi : 0 ≤ i ∧ i < n) : PT l w yJ3_checkIndex_8e157 cJ3_checkIndex_8e157 3 .int d [vI i, vI n, .inr (.inr o)] M i M := by
  refine MT.of (own := RJ3) [some (vI i), some (vI n), some (.inr (.inr o))] ⟨by decide, rfl⟩ rfl (Nat.le_of_ble_eq_true rfl) (fun hA hM => ?_)
  refine e_iload0 dJ3c_0 ?_
  refine e_if_lt (tgt := 9) dJ3c_1 (by decide) (fun h => absurd h (by omega)) (fun _ => ?_)
  refine e_iload0 dJ3c_4 ?_
  refine e_iload1 dJ3c_5 ?_
  refine e_icmp_lt (tgt := 16) dJ3c_6 (by decide) (fun _ => ?_) (fun h => absurd hi.2 h)
  refine e_iload0 dJ3c_16 ?_
  exact e_iret dJ3c_17 ⟨rfl, rfl⟩
theorem ct_J0_checkIndex {i n : Int} (hd : 1 ≤ d) (hi : 0 ≤ i ∧ i < n) : PV l w yJ0_checkIndex_df160 cJ0_checkIndex_df160 2 d [vI i, vI n] M M := by
  refine MT.of (own := RJ0) [some (vI i), some (vI n)] ⟨by decide, rfl⟩ rfl (Nat.le_of_ble_eq_true rfl) (fun hA hM => ?_)
  refine e_iload0 dJ0_checkIndex_df160_0 ?_
  refine e_iload1 dJ0_checkIndex_df160_1 ?_
  refine e_siobe fs_siobe dJ0_checkIndex_df160_2 ?_
  refine e_cTI (ct_J3_checkIndex (d := d - 1) hi) cy_J3_checkIndex_8e157 cs_J3_checkIndex_8e157 ml_J0_1059 rfl rfl (rok (by omega) (by decide)) (Nat.le_of_ble_eq_true rfl) dJ0_checkIndex_df160_5 ?_
  refine e_pop dJ0_checkIndex_df160_8 rfl ?_
  exact e_vret dJ0_checkIndex_df160_9 ⟨rfl, rfl⟩
abbrev chr (k i : Nat) : Int := ((strByt.getD k []).getD i 0).toInt
theorem ct_J1_charAt {k : Nat} {i : Int} (hd : 2 ≤ d) (hk : k < 18) (hi : 0 ≤ i ∧ i < (strLen.getD k 0 : Nat)) : PT l w yJ1_charAt_3b067 cJ1_charAt_3b067 2 .char d [vR (strB + 18 + k), vI i] M (chr k i.toNat) M := by
  have hb := strLen_b k hk
  have hy : 0 ≤ chr k i.toNat ∧ chr k i.toNat ≤ 127 := strByt_b k hk i.toNat (by omega)
  have hc := cn_b (chr k i.toNat).toNat (by omega)
  rw [Int.toNat_of_nonneg hy.1] at hc
  have ha := and_b (chr k i.toNat).toNat (by omega)
  rw [Int.toNat_of_nonneg hy.1] at ha
  refine MT.of (own := RJ1) [some (vR (strB + 18 + k)), some (vI i)] ⟨by decide, rfl⟩ rfl (Nat.le_of_ble_eq_true rfl) (fun hA hM => ?_)
  refine e_iload1 dJ1_charAt_3b067_0 ?_
  refine e_aload0 dJ1_charAt_3b067_1 ?_
  refine e_strN hk dJ1_charAt_3b067_2 ?_
  refine e_cSV (ct_J0_checkIndex (d := d - 1) (by omega) hi) cy_J0_checkIndex_df160 cs_J0_checkIndex_df160 ml_J1_9 rfl rfl (rok (by omega) (by decide)) (Nat.le_of_ble_eq_true rfl) dJ1_charAt_3b067_3 ?_
  refine e_aload0 dJ1_charAt_3b067_6 ?_
  refine e_iload1 dJ1_charAt_3b067_7 ?_
  refine e_strB hk hi dJ1_charAt_3b067_8 ?_
  refine e_sipush dJ1_charAt_3b067_9 rfl ks_255 ?_
  refine e_iand dJ1_charAt_3b067_12 ?_
  refine WW.ec (y := chr k i.toNat) ha ?_
  refine e_i2c hy dJ1_charAt_3b067_13 ?_
  exact e_tret dJ1_charAt_3b067_14 hc ⟨rfl, rfl⟩
theorem ct_J0_charAt {k : Nat} {i : Int} (hd : 3 ≤ d) (hk : k < 18) (hi : 0 ≤ i ∧ i < (strLen.getD k 0 : Nat)) : PT l w yJ0_charAt_5068e cJ0_charAt_5068e 2 .char d [vR (strB + k), vI i] M (chr k i.toNat) M := by
  have hb := strLen_b k hk
  have hy : 0 ≤ chr k i.toNat ∧ chr k i.toNat ≤ 127 := strByt_b k hk i.toNat (by omega)
  have hc := cn_b (chr k i.toNat).toNat (by omega)
  rw [Int.toNat_of_nonneg hy.1] at hc
  refine MT.of (own := RJ0) [some (vR (strB + k)), some (vI i)] ⟨by decide, rfl⟩ rfl (Nat.le_of_ble_eq_true rfl) (fun hA hM => ?_)
  refine e_aload0 dJ0_charAt_5068e_0 ?_
  refine e_cWI hk rfl (ct_J0_isLatin1 (d := d - 1) hk) cy_J0_isLatin1_aae02 cv_J0_isLatin1_aae02 ml_J0_492 rfl rfl (rok (by omega) (by decide)) (Nat.le_of_ble_eq_true rfl) dJ0_charAt_5068e_1 ?_
  refine e_if_eq (tgt := 16) dJ0_charAt_5068e_4 (by decide) (fun h => absurd h (by decide)) (fun _ => ?_)
  refine e_aload0 dJ0_charAt_5068e_7 ?_
  refine e_strV hk fs_value dJ0_charAt_5068e_8 ?_
  refine e_iload1 dJ0_charAt_5068e_11 ?_
  refine e_cTI (ct_J1_charAt (d := d - 1) (by omega) hk hi) cy_J1_charAt_3b067 cs_J1_charAt_3b067 ml_J0_495 rfl rfl (rok (by omega) (by decide)) (Nat.le_of_ble_eq_true rfl) dJ0_charAt_5068e_12 ?_
  exact e_tret dJ0_charAt_5068e_15 hc ⟨rfl, rfl⟩
end STR2
