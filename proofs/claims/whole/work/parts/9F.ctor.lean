def zI (w : Wd) (N : Nat) : va_E := .inl (w.2.2 0, N, .inl (fun _ => 0))
def zB (w : Wd) (N : Nat) : va_E := .inl (w.2.2 1, N, .inl (fun _ => 0))
def zZ (w : Wd) (N : Nat) : va_E := .inl (w.2.2 2, N, .inl (fun _ => 0))
def zJ (w : Wd) (N : Nat) : va_E := .inl (w.2.2 3, N, .inr (.inl (fun _ => 0)))
def scrE (w : Wd) (f : Nat → Option Nat) : va_E := .inl (w.2.2 4, 4, .inr (.inr (.inr (.inr f))))
theorem aI : Cond.arrayClass (newarray.typeOf .int) ∈ TBL := TBL_in (tm1 (List.mem_of_getElem? (i := 123) rfl)) rfl
theorem aB : Cond.arrayClass (newarray.typeOf .byte) ∈ TBL := TBL_in (tm3 (List.mem_of_getElem? (i := 227) rfl)) rfl
theorem aJ : Cond.arrayClass (newarray.typeOf .long) ∈ TBL := TBL_in (tm5 (List.mem_of_getElem? (i := 141) rfl)) rfl
theorem aZ : Cond.arrayClass (newarray.typeOf .boolean) ∈ TBL := TBL_in (tm5 (List.mem_of_getElem? (i := 142) rfl)) rfl
theorem oi_in : Cond.instanceMethod objectInit ∈ TBL := TBL_in (tm1 (List.mem_of_getElem? (i := 23) rfl)) rfl
theorem oi_co : Cond.code objectInit ⟨#[0xb1]⟩ 1 none ∈ TBL := TBL_in (tm1 (List.mem_of_getElem? (i := 24) rfl)) rfl
theorem cy_X0_init : CY yX0_init cX0_init 1 none 0 := ⟨TBL_in (tm1 (List.mem_of_getElem? (i := 29) rfl)) rfl, TBL_in (tm1 (List.mem_of_getElem? (i := 2) rfl)) rfl, by decide, by decide, by decide +kernel⟩
theorem in_X0_init : Cond.instanceMethod yX0_init ∈ TBL := TBL_in (tm1 (List.mem_of_getElem? (i := 28) rfl)) rfl
theorem ni_X0 : Cond.instantiable RX0 17 ∈ TBL := TBL_in (tm1 (List.mem_of_getElem? (i := 26) rfl)) rfl
theorem cy_X1_init : CY yX1_init cX1_init 3 none 2 := ⟨TBL_in (tm1 (List.mem_of_getElem? (i := 199) rfl)) rfl, TBL_in (tm1 (List.mem_of_getElem? (i := 5) rfl)) rfl, by decide, by decide, by decide +kernel⟩
theorem in_X1_init : Cond.instanceMethod yX1_init ∈ TBL := TBL_in (tm1 (List.mem_of_getElem? (i := 198) rfl)) rfl
theorem ni_X1 : Cond.instantiable RX1 4 ∈ TBL := TBL_in (tm1 (List.mem_of_getElem? (i := 196) rfl)) rfl
theorem cy_X2_init : CY yX2_init cX2_init 1 none 0 := ⟨TBL_in (tm1 (List.mem_of_getElem? (i := 149) rfl)) rfl, TBL_in (tm1 (List.mem_of_getElem? (i := 4) rfl)) rfl, by decide, by decide, by decide +kernel⟩
theorem in_X2_init : Cond.instanceMethod yX2_init ∈ TBL := TBL_in (tm1 (List.mem_of_getElem? (i := 148) rfl)) rfl
theorem ni_X2 : Cond.instantiable RX2 13 ∈ TBL := TBL_in (tm1 (List.mem_of_getElem? (i := 146) rfl)) rfl
theorem cy_X3_init : CY yX3_init cX3_init 1 none 0 := ⟨TBL_in (tm2 (List.mem_of_getElem? (i := 69) rfl)) rfl, TBL_in (tm1 (List.mem_of_getElem? (i := 9) rfl)) rfl, by decide, by decide, by decide +kernel⟩
theorem in_X3_init : Cond.instanceMethod yX3_init ∈ TBL := TBL_in (tm2 (List.mem_of_getElem? (i := 68) rfl)) rfl
theorem ni_X3 : Cond.instantiable RX3 7 ∈ TBL := TBL_in (tm2 (List.mem_of_getElem? (i := 66) rfl)) rfl
theorem cy_X4_init : CY yX4_init cX4_init 1 none 0 := ⟨TBL_in (tm1 (List.mem_of_getElem? (i := 128) rfl)) rfl, TBL_in (tm1 (List.mem_of_getElem? (i := 3) rfl)) rfl, by decide, by decide, by decide +kernel⟩
theorem in_X4_init : Cond.instanceMethod yX4_init ∈ TBL := TBL_in (tm1 (List.mem_of_getElem? (i := 127) rfl)) rfl
theorem ni_X4 : Cond.instantiable RX4 3 ∈ TBL := TBL_in (tm1 (List.mem_of_getElem? (i := 125) rfl)) rfl
theorem cy_X5_init : CY yX5_init cX5_init 3 none 2 := ⟨TBL_in (tm2 (List.mem_of_getElem? (i := 16) rfl)) rfl, TBL_in (tm1 (List.mem_of_getElem? (i := 7) rfl)) rfl, by decide, by decide, by decide +kernel⟩
theorem in_X5_init : Cond.instanceMethod yX5_init ∈ TBL := TBL_in (tm2 (List.mem_of_getElem? (i := 15) rfl)) rfl
theorem ni_X5 : Cond.instantiable RX5 7 ∈ TBL := TBL_in (tm2 (List.mem_of_getElem? (i := 13) rfl)) rfl
theorem cy_X6_init : CY yX6_init cX6_init 3 none 2 := ⟨TBL_in (tm1 (List.mem_of_getElem? (i := 218) rfl)) rfl, TBL_in (tm1 (List.mem_of_getElem? (i := 6) rfl)) rfl, by decide, by decide, by decide +kernel⟩
theorem in_X6_init : Cond.instanceMethod yX6_init ∈ TBL := TBL_in (tm1 (List.mem_of_getElem? (i := 217) rfl)) rfl
theorem ni_X6 : Cond.instantiable RX6 9 ∈ TBL := TBL_in (tm1 (List.mem_of_getElem? (i := 215) rfl)) rfl
theorem cy_X7_init : CY yX7_init cX7_init 3 none 2 := ⟨TBL_in (tm2 (List.mem_of_getElem? (i := 44) rfl)) rfl, TBL_in (tm1 (List.mem_of_getElem? (i := 8) rfl)) rfl, by decide, by decide, by decide +kernel⟩
theorem in_X7_init : Cond.instanceMethod yX7_init ∈ TBL := TBL_in (tm2 (List.mem_of_getElem? (i := 43) rfl)) rfl
theorem ni_X7 : Cond.instantiable RX7 6 ∈ TBL := TBL_in (tm2 (List.mem_of_getElem? (i := 41) rfl)) rfl
theorem cy_X8_init : CY yX8_init cX8_init 2 none 0 := ⟨TBL_in (tm1 (List.mem_of_getElem? (i := 21) rfl)) rfl, TBL_in (tm1 (List.mem_of_getElem? (i := 1) rfl)) rfl, by decide, by decide, by decide +kernel⟩
theorem in_X8_init : Cond.instanceMethod yX8_init ∈ TBL := TBL_in (tm1 (List.mem_of_getElem? (i := 20) rfl)) rfl
theorem ni_X8 : Cond.instantiable RX8 10 ∈ TBL := TBL_in (tm1 (List.mem_of_getElem? (i := 18) rfl)) rfl
theorem cy_X9_init : CY yX9_init cX9_init 1 none 0 := ⟨TBL_in (tm4 (List.mem_of_getElem? (i := 227) rfl)) rfl, TBL_in (tm1 (List.mem_of_getElem? (i := 10) rfl)) rfl, by decide, by decide, by decide +kernel⟩
theorem in_X9_init : Cond.instanceMethod yX9_init ∈ TBL := TBL_in (tm4 (List.mem_of_getElem? (i := 226) rfl)) rfl
theorem ni_X9 : Cond.instantiable RX9 49 ∈ TBL := TBL_in (tm4 (List.mem_of_getElem? (i := 224) rfl)) rfl
theorem lc_L_7 : Cond.classLink RL 7 RX8 ∈ TBL := TBL_in (tm1 (List.mem_of_getElem? (i := 17) rfl)) rfl
theorem lc_X8_9 : Cond.classLink RX8 9 RX0 ∈ TBL := TBL_in (tm1 (List.mem_of_getElem? (i := 25) rfl)) rfl
theorem lc_X8_19 : Cond.classLink RX8 19 RX4 ∈ TBL := TBL_in (tm1 (List.mem_of_getElem? (i := 124) rfl)) rfl
theorem lc_X8_29 : Cond.classLink RX8 29 RX3 ∈ TBL := TBL_in (tm1 (List.mem_of_getElem? (i := 143) rfl)) rfl
theorem lc_X8_35 : Cond.classLink RX8 35 RX2 ∈ TBL := TBL_in (tm1 (List.mem_of_getElem? (i := 145) rfl)) rfl
theorem lc_X8_42 : Cond.classLink RX8 42 RX1 ∈ TBL := TBL_in (tm1 (List.mem_of_getElem? (i := 195) rfl)) rfl
theorem lc_X8_51 : Cond.classLink RX8 51 RX6 ∈ TBL := TBL_in (tm1 (List.mem_of_getElem? (i := 214) rfl)) rfl
theorem lc_X8_60 : Cond.classLink RX8 60 RX5 ∈ TBL := TBL_in (tm2 (List.mem_of_getElem? (i := 12) rfl)) rfl
theorem lc_X8_67 : Cond.classLink RX8 67 RX7 ∈ TBL := TBL_in (tm2 (List.mem_of_getElem? (i := 40) rfl)) rfl
theorem lc_L_10 : Cond.classLink RL 10 RX9 ∈ TBL := TBL_in (tm4 (List.mem_of_getElem? (i := 223) rfl)) rfl
theorem ml_L_9 : Cond.methodLink RL 9 yX8_init ∈ TBL ∨ Cond.methodLinkNest RL 9 yX8_init "CandleEnds" ∈ NW := Or.inl (TBL_in (tm1 (List.mem_of_getElem? (i := 19) rfl)) rfl)
theorem ml_L_12 : Cond.methodLink RL 12 yX9_init ∈ TBL ∨ Cond.methodLinkNest RL 12 yX9_init "CandleEnds" ∈ NW := Or.inl (TBL_in (tm4 (List.mem_of_getElem? (i := 225) rfl)) rfl)
theorem ml_X8_11 : Cond.methodLink RX8 11 yX0_init ∈ TBL ∨ Cond.methodLinkNest RX8 11 yX0_init "CandleEnds" ∈ NW := Or.inr (NW_in (tm1 (List.mem_of_getElem? (i := 27) rfl)) rfl)
theorem ml_X8_21 : Cond.methodLink RX8 21 yX4_init ∈ TBL ∨ Cond.methodLinkNest RX8 21 yX4_init "CandleEnds" ∈ NW := Or.inr (NW_in (tm1 (List.mem_of_getElem? (i := 126) rfl)) rfl)
theorem ml_X8_37 : Cond.methodLink RX8 37 yX2_init ∈ TBL ∨ Cond.methodLinkNest RX8 37 yX2_init "CandleEnds" ∈ NW := Or.inr (NW_in (tm1 (List.mem_of_getElem? (i := 147) rfl)) rfl)
theorem ml_X8_44 : Cond.methodLink RX8 44 yX1_init ∈ TBL ∨ Cond.methodLinkNest RX8 44 yX1_init "CandleEnds" ∈ NW := Or.inl (TBL_in (tm1 (List.mem_of_getElem? (i := 197) rfl)) rfl)
theorem ml_X8_53 : Cond.methodLink RX8 53 yX6_init ∈ TBL ∨ Cond.methodLinkNest RX8 53 yX6_init "CandleEnds" ∈ NW := Or.inl (TBL_in (tm1 (List.mem_of_getElem? (i := 216) rfl)) rfl)
theorem ml_X8_62 : Cond.methodLink RX8 62 yX5_init ∈ TBL ∨ Cond.methodLinkNest RX8 62 yX5_init "CandleEnds" ∈ NW := Or.inl (TBL_in (tm2 (List.mem_of_getElem? (i := 14) rfl)) rfl)
theorem ml_X8_69 : Cond.methodLink RX8 69 yX7_init ∈ TBL ∨ Cond.methodLinkNest RX8 69 yX7_init "CandleEnds" ∈ NW := Or.inl (TBL_in (tm2 (List.mem_of_getElem? (i := 42) rfl)) rfl)
theorem ml_X8_74 : Cond.methodLink RX8 74 yX3_init ∈ TBL ∨ Cond.methodLinkNest RX8 74 yX3_init "CandleEnds" ∈ NW := Or.inr (NW_in (tm2 (List.mem_of_getElem? (i := 67) rfl)) rfl)
theorem oi_X8_3 : Cond.methodLink RX8 3 objectInit ∈ TBL := TBL_in (tm1 (List.mem_of_getElem? (i := 22) rfl)) rfl
theorem oi_X0_3 : Cond.methodLink RX0 3 objectInit ∈ TBL := TBL_in (tm1 (List.mem_of_getElem? (i := 30) rfl)) rfl
theorem oi_X4_5 : Cond.methodLink RX4 5 objectInit ∈ TBL := TBL_in (tm1 (List.mem_of_getElem? (i := 129) rfl)) rfl
theorem oi_X2_3 : Cond.methodLink RX2 3 objectInit ∈ TBL := TBL_in (tm1 (List.mem_of_getElem? (i := 150) rfl)) rfl
theorem oi_X1_3 : Cond.methodLink RX1 3 objectInit ∈ TBL := TBL_in (tm1 (List.mem_of_getElem? (i := 200) rfl)) rfl
theorem oi_X6_3 : Cond.methodLink RX6 3 objectInit ∈ TBL := TBL_in (tm1 (List.mem_of_getElem? (i := 219) rfl)) rfl
theorem oi_X5_3 : Cond.methodLink RX5 3 objectInit ∈ TBL := TBL_in (tm2 (List.mem_of_getElem? (i := 17) rfl)) rfl
theorem oi_X7_3 : Cond.methodLink RX7 3 objectInit ∈ TBL := TBL_in (tm2 (List.mem_of_getElem? (i := 45) rfl)) rfl
theorem oi_X3_3 : Cond.methodLink RX3 3 objectInit ∈ TBL := TBL_in (tm2 (List.mem_of_getElem? (i := 70) rfl)) rfl
theorem oi_X9_1 : Cond.methodLink RX9 1 objectInit ∈ TBL := TBL_in (tm4 (List.mem_of_getElem? (i := 228) rfl)) rfl
theorem fk_X0_9 : Cond.fieldLink RX0 9 RX0 (TX0 0).2.1 (TX0 0).2.2.1 ∈ TBL := TBL_in (tm1 (List.mem_of_getElem? (i := 31) rfl)) rfl
theorem fk_X0_15 : Cond.fieldLink RX0 15 RX0 (TX0 1).2.1 (TX0 1).2.2.1 ∈ TBL := TBL_in (tm1 (List.mem_of_getElem? (i := 36) rfl)) rfl
theorem fk_X0_19 : Cond.fieldLink RX0 19 RX0 (TX0 2).2.1 (TX0 2).2.2.1 ∈ TBL := TBL_in (tm1 (List.mem_of_getElem? (i := 39) rfl)) rfl
theorem fk_X0_22 : Cond.fieldLink RX0 22 RX0 (TX0 3).2.1 (TX0 3).2.2.1 ∈ TBL := TBL_in (tm1 (List.mem_of_getElem? (i := 43) rfl)) rfl
theorem fk_X0_25 : Cond.fieldLink RX0 25 RX0 (TX0 4).2.1 (TX0 4).2.2.1 ∈ TBL := TBL_in (tm1 (List.mem_of_getElem? (i := 47) rfl)) rfl
theorem fk_X0_28 : Cond.fieldLink RX0 28 RX0 (TX0 5).2.1 (TX0 5).2.2.1 ∈ TBL := TBL_in (tm1 (List.mem_of_getElem? (i := 50) rfl)) rfl
theorem fk_X0_31 : Cond.fieldLink RX0 31 RX0 (TX0 6).2.1 (TX0 6).2.2.1 ∈ TBL := TBL_in (tm1 (List.mem_of_getElem? (i := 54) rfl)) rfl
theorem fk_X0_34 : Cond.fieldLink RX0 34 RX0 (TX0 7).2.1 (TX0 7).2.2.1 ∈ TBL := TBL_in (tm1 (List.mem_of_getElem? (i := 57) rfl)) rfl
theorem fk_X0_37 : Cond.fieldLink RX0 37 RX0 (TX0 8).2.1 (TX0 8).2.2.1 ∈ TBL := TBL_in (tm1 (List.mem_of_getElem? (i := 62) rfl)) rfl
theorem fk_X0_40 : Cond.fieldLink RX0 40 RX0 (TX0 9).2.1 (TX0 9).2.2.1 ∈ TBL := TBL_in (tm1 (List.mem_of_getElem? (i := 66) rfl)) rfl
theorem fk_X0_43 : Cond.fieldLink RX0 43 RX0 (TX0 10).2.1 (TX0 10).2.2.1 ∈ TBL := TBL_in (tm1 (List.mem_of_getElem? (i := 70) rfl)) rfl
theorem fk_X0_46 : Cond.fieldLink RX0 46 RX0 (TX0 11).2.1 (TX0 11).2.2.1 ∈ TBL := TBL_in (tm1 (List.mem_of_getElem? (i := 75) rfl)) rfl
theorem fk_X0_49 : Cond.fieldLink RX0 49 RX0 (TX0 12).2.1 (TX0 12).2.2.1 ∈ TBL := TBL_in (tm1 (List.mem_of_getElem? (i := 76) rfl)) rfl
theorem fk_X0_52 : Cond.fieldLink RX0 52 RX0 (TX0 13).2.1 (TX0 13).2.2.1 ∈ TBL := TBL_in (tm1 (List.mem_of_getElem? (i := 79) rfl)) rfl
theorem fk_X0_55 : Cond.fieldLink RX0 55 RX0 (TX0 14).2.1 (TX0 14).2.2.1 ∈ TBL := TBL_in (tm1 (List.mem_of_getElem? (i := 82) rfl)) rfl
theorem fk_X0_58 : Cond.fieldLink RX0 58 RX0 (TX0 15).2.1 (TX0 15).2.2.1 ∈ TBL := TBL_in (tm1 (List.mem_of_getElem? (i := 83) rfl)) rfl
theorem fk_X0_61 : Cond.fieldLink RX0 61 RX0 (TX0 16).2.1 (TX0 16).2.2.1 ∈ TBL := TBL_in (tm1 (List.mem_of_getElem? (i := 85) rfl)) rfl
def esX0 (w : Wd) (n1 : Nat) : List va_E := [.inr (0, [.int 0, .ref (n1 + 1), .ref (n1 + 2), .ref (n1 + 3), .ref (n1 + 4), .int 0, .ref (n1 + 5), .ref (n1 + 6), .ref (n1 + 7), .ref (n1 + 8), .ref (n1 + 9), .ref (n1 + 10), .int 5, .int 0, .ref (n1 + 11), .int 0, .int (-1)]), zI w 8, zI w 8, zI w 8, zI w 8, zI w 6, zI w 6, zI w 6, zI w 6, zI w 6, zI w 72, zI w 360]
def zX0 : va_E := .inr (0, [.int 0, .null, .null, .null, .null, .int 0, .null, .null, .null, .null, .null, .null, .int 0, .int 0, .null, .int 0, .int 0])
abbrev rmX0 : Room := { frames := 1, cells := 11, slots := 494, locals := 12 }
theorem mk_X0 {l : Launch} {w : Wd} {n0 n1 : Nat} : MC l w yX0_init cX0_init 1 rmX0 n0 n1 [] [zX0] (esX0 w n1) := by
  refine MC.of (own := RX0) [(0, .ref n1)] ⟨by decide, rfl, rfl⟩ rfl (Nat.le_of_ble_eq_true rfl) ?_
  refine CW.cv (es' := [.inr (0, [.int 0, .null, .null, .null, .null, .int 0, .null, .null, .null, .null, .null, .null, .int 0, .int 0, .null, .int 0, .int 0])]) rfl ?_
  refine c_aload 0 dX0_init_0 rfl rfl ?_
  refine c_obj oi_X0_3 oi_in oi_co (by decide) (by decide) dX0_init_1 ?_
  refine c_aload 0 dX0_init_4 rfl rfl ?_
  refine c_iconst (v := 0) dX0_init_5 (by decide) ?_
  refine c_put (ci := 0) (k := 0) (T := TX0) (C := RX0) (N := 17) (fs' := [.int 0, .null, .null, .null, .null, .int 0, .null, .null, .null, .null, .null, .null, .int 0, .int 0, .null, .int 0, .int 0]) rfl fk_X0_9 (by decide) ⟨rfl, rfl⟩ (tyX0_ok 0 (by decide)) rfl rfl (Nat.le_of_ble_eq_true rfl) rfl (fun _ _ _ h => h.2.2) dX0_init_6 ?_
  refine c_aload 0 dX0_init_9 rfl rfl ?_
  refine c_bipush (v := 8) dX0_init_10 (by decide) ?_
  refine c_newa (N := 8) (k := 1) (cs' := 1) (sl' := 8) (a0 := (8, .inl (fun _ => 0))) 0 rfl aI (fun _ => rfl) (by decide) (by decide) (by decide) rfl (by decide) rfl (by decide) rfl dX0_init_12 ?_
  refine CW.cv (es' := [.inr (0, [.int 0, .null, .null, .null, .null, .int 0, .null, .null, .null, .null, .null, .null, .int 0, .int 0, .null, .int 0, .int 0]), zI w 8]) rfl ?_
  refine c_put (ci := 0) (k := 1) (T := TX0) (C := RX0) (N := 17) (fs' := [.int 0, .ref (n1 + 1), .null, .null, .null, .int 0, .null, .null, .null, .null, .null, .null, .int 0, .int 0, .null, .int 0, .int 0]) rfl fk_X0_15 (by decide) ⟨rfl, rfl⟩ (tyX0_ok 1 (by decide)) rfl rfl (Nat.le_of_ble_eq_true rfl) rfl (fun _ _ _ h => h.2.2) dX0_init_14 ?_
  refine c_aload 0 dX0_init_17 rfl rfl ?_
  refine c_bipush (v := 8) dX0_init_18 (by decide) ?_
  refine c_newa (N := 8) (k := 2) (cs' := 2) (sl' := 16) (a0 := (8, .inl (fun _ => 0))) 0 rfl aI (fun _ => rfl) (by decide) (by decide) (by decide) rfl (by decide) rfl (by decide) rfl dX0_init_20 ?_
  refine CW.cv (es' := [.inr (0, [.int 0, .ref (n1 + 1), .null, .null, .null, .int 0, .null, .null, .null, .null, .null, .null, .int 0, .int 0, .null, .int 0, .int 0]), zI w 8, zI w 8]) rfl ?_
  refine c_put (ci := 0) (k := 2) (T := TX0) (C := RX0) (N := 17) (fs' := [.int 0, .ref (n1 + 1), .ref (n1 + 2), .null, .null, .int 0, .null, .null, .null, .null, .null, .null, .int 0, .int 0, .null, .int 0, .int 0]) rfl fk_X0_19 (by decide) ⟨rfl, rfl⟩ (tyX0_ok 2 (by decide)) rfl rfl (Nat.le_of_ble_eq_true rfl) rfl (fun _ _ _ h => h.2.2) dX0_init_22 ?_
  refine c_aload 0 dX0_init_25 rfl rfl ?_
  refine c_bipush (v := 8) dX0_init_26 (by decide) ?_
  refine c_newa (N := 8) (k := 3) (cs' := 3) (sl' := 24) (a0 := (8, .inl (fun _ => 0))) 0 rfl aI (fun _ => rfl) (by decide) (by decide) (by decide) rfl (by decide) rfl (by decide) rfl dX0_init_28 ?_
  refine CW.cv (es' := [.inr (0, [.int 0, .ref (n1 + 1), .ref (n1 + 2), .null, .null, .int 0, .null, .null, .null, .null, .null, .null, .int 0, .int 0, .null, .int 0, .int 0]), zI w 8, zI w 8, zI w 8]) rfl ?_
  refine c_put (ci := 0) (k := 3) (T := TX0) (C := RX0) (N := 17) (fs' := [.int 0, .ref (n1 + 1), .ref (n1 + 2), .ref (n1 + 3), .null, .int 0, .null, .null, .null, .null, .null, .null, .int 0, .int 0, .null, .int 0, .int 0]) rfl fk_X0_22 (by decide) ⟨rfl, rfl⟩ (tyX0_ok 3 (by decide)) rfl rfl (Nat.le_of_ble_eq_true rfl) rfl (fun _ _ _ h => h.2.2) dX0_init_30 ?_
  refine c_aload 0 dX0_init_33 rfl rfl ?_
  refine c_bipush (v := 8) dX0_init_34 (by decide) ?_
  refine c_newa (N := 8) (k := 4) (cs' := 4) (sl' := 32) (a0 := (8, .inl (fun _ => 0))) 0 rfl aI (fun _ => rfl) (by decide) (by decide) (by decide) rfl (by decide) rfl (by decide) rfl dX0_init_36 ?_
  refine CW.cv (es' := [.inr (0, [.int 0, .ref (n1 + 1), .ref (n1 + 2), .ref (n1 + 3), .null, .int 0, .null, .null, .null, .null, .null, .null, .int 0, .int 0, .null, .int 0, .int 0]), zI w 8, zI w 8, zI w 8, zI w 8]) rfl ?_
  refine c_put (ci := 0) (k := 4) (T := TX0) (C := RX0) (N := 17) (fs' := [.int 0, .ref (n1 + 1), .ref (n1 + 2), .ref (n1 + 3), .ref (n1 + 4), .int 0, .null, .null, .null, .null, .null, .null, .int 0, .int 0, .null, .int 0, .int 0]) rfl fk_X0_25 (by decide) ⟨rfl, rfl⟩ (tyX0_ok 4 (by decide)) rfl rfl (Nat.le_of_ble_eq_true rfl) rfl (fun _ _ _ h => h.2.2) dX0_init_38 ?_
  refine c_aload 0 dX0_init_41 rfl rfl ?_
  refine c_iconst (v := 0) dX0_init_42 (by decide) ?_
  refine c_put (ci := 0) (k := 5) (T := TX0) (C := RX0) (N := 17) (fs' := [.int 0, .ref (n1 + 1), .ref (n1 + 2), .ref (n1 + 3), .ref (n1 + 4), .int 0, .null, .null, .null, .null, .null, .null, .int 0, .int 0, .null, .int 0, .int 0]) rfl fk_X0_28 (by decide) ⟨rfl, rfl⟩ (tyX0_ok 5 (by decide)) rfl rfl (Nat.le_of_ble_eq_true rfl) rfl (fun _ _ _ h => h.2.2) dX0_init_43 ?_
  refine c_aload 0 dX0_init_46 rfl rfl ?_
  refine c_bipush (v := 6) dX0_init_47 (by decide) ?_
  refine c_newa (N := 6) (k := 5) (cs' := 5) (sl' := 38) (a0 := (6, .inl (fun _ => 0))) 0 rfl aI (fun _ => rfl) (by decide) (by decide) (by decide) rfl (by decide) rfl (by decide) rfl dX0_init_49 ?_
  refine CW.cv (es' := [.inr (0, [.int 0, .ref (n1 + 1), .ref (n1 + 2), .ref (n1 + 3), .ref (n1 + 4), .int 0, .null, .null, .null, .null, .null, .null, .int 0, .int 0, .null, .int 0, .int 0]), zI w 8, zI w 8, zI w 8, zI w 8, zI w 6]) rfl ?_
  refine c_put (ci := 0) (k := 6) (T := TX0) (C := RX0) (N := 17) (fs' := [.int 0, .ref (n1 + 1), .ref (n1 + 2), .ref (n1 + 3), .ref (n1 + 4), .int 0, .ref (n1 + 5), .null, .null, .null, .null, .null, .int 0, .int 0, .null, .int 0, .int 0]) rfl fk_X0_31 (by decide) ⟨rfl, rfl⟩ (tyX0_ok 6 (by decide)) rfl rfl (Nat.le_of_ble_eq_true rfl) rfl (fun _ _ _ h => h.2.2) dX0_init_51 ?_
  refine c_aload 0 dX0_init_54 rfl rfl ?_
  refine c_bipush (v := 6) dX0_init_55 (by decide) ?_
  refine c_newa (N := 6) (k := 6) (cs' := 6) (sl' := 44) (a0 := (6, .inl (fun _ => 0))) 0 rfl aI (fun _ => rfl) (by decide) (by decide) (by decide) rfl (by decide) rfl (by decide) rfl dX0_init_57 ?_
  refine CW.cv (es' := [.inr (0, [.int 0, .ref (n1 + 1), .ref (n1 + 2), .ref (n1 + 3), .ref (n1 + 4), .int 0, .ref (n1 + 5), .null, .null, .null, .null, .null, .int 0, .int 0, .null, .int 0, .int 0]), zI w 8, zI w 8, zI w 8, zI w 8, zI w 6, zI w 6]) rfl ?_
  refine c_put (ci := 0) (k := 7) (T := TX0) (C := RX0) (N := 17) (fs' := [.int 0, .ref (n1 + 1), .ref (n1 + 2), .ref (n1 + 3), .ref (n1 + 4), .int 0, .ref (n1 + 5), .ref (n1 + 6), .null, .null, .null, .null, .int 0, .int 0, .null, .int 0, .int 0]) rfl fk_X0_34 (by decide) ⟨rfl, rfl⟩ (tyX0_ok 7 (by decide)) rfl rfl (Nat.le_of_ble_eq_true rfl) rfl (fun _ _ _ h => h.2.2) dX0_init_59 ?_
  refine c_aload 0 dX0_init_62 rfl rfl ?_
  refine c_bipush (v := 6) dX0_init_63 (by decide) ?_
  refine c_newa (N := 6) (k := 7) (cs' := 7) (sl' := 50) (a0 := (6, .inl (fun _ => 0))) 0 rfl aI (fun _ => rfl) (by decide) (by decide) (by decide) rfl (by decide) rfl (by decide) rfl dX0_init_65 ?_
  refine CW.cv (es' := [.inr (0, [.int 0, .ref (n1 + 1), .ref (n1 + 2), .ref (n1 + 3), .ref (n1 + 4), .int 0, .ref (n1 + 5), .ref (n1 + 6), .null, .null, .null, .null, .int 0, .int 0, .null, .int 0, .int 0]), zI w 8, zI w 8, zI w 8, zI w 8, zI w 6, zI w 6, zI w 6]) rfl ?_
  refine c_put (ci := 0) (k := 8) (T := TX0) (C := RX0) (N := 17) (fs' := [.int 0, .ref (n1 + 1), .ref (n1 + 2), .ref (n1 + 3), .ref (n1 + 4), .int 0, .ref (n1 + 5), .ref (n1 + 6), .ref (n1 + 7), .null, .null, .null, .int 0, .int 0, .null, .int 0, .int 0]) rfl fk_X0_37 (by decide) ⟨rfl, rfl⟩ (tyX0_ok 8 (by decide)) rfl rfl (Nat.le_of_ble_eq_true rfl) rfl (fun _ _ _ h => h.2.2) dX0_init_67 ?_
  refine c_aload 0 dX0_init_70 rfl rfl ?_
  refine c_bipush (v := 6) dX0_init_71 (by decide) ?_
  refine c_newa (N := 6) (k := 8) (cs' := 8) (sl' := 56) (a0 := (6, .inl (fun _ => 0))) 0 rfl aI (fun _ => rfl) (by decide) (by decide) (by decide) rfl (by decide) rfl (by decide) rfl dX0_init_73 ?_
  refine CW.cv (es' := [.inr (0, [.int 0, .ref (n1 + 1), .ref (n1 + 2), .ref (n1 + 3), .ref (n1 + 4), .int 0, .ref (n1 + 5), .ref (n1 + 6), .ref (n1 + 7), .null, .null, .null, .int 0, .int 0, .null, .int 0, .int 0]), zI w 8, zI w 8, zI w 8, zI w 8, zI w 6, zI w 6, zI w 6, zI w 6]) rfl ?_
  refine c_put (ci := 0) (k := 9) (T := TX0) (C := RX0) (N := 17) (fs' := [.int 0, .ref (n1 + 1), .ref (n1 + 2), .ref (n1 + 3), .ref (n1 + 4), .int 0, .ref (n1 + 5), .ref (n1 + 6), .ref (n1 + 7), .ref (n1 + 8), .null, .null, .int 0, .int 0, .null, .int 0, .int 0]) rfl fk_X0_40 (by decide) ⟨rfl, rfl⟩ (tyX0_ok 9 (by decide)) rfl rfl (Nat.le_of_ble_eq_true rfl) rfl (fun _ _ _ h => h.2.2) dX0_init_75 ?_
  refine c_aload 0 dX0_init_78 rfl rfl ?_
  refine c_bipush (v := 6) dX0_init_79 (by decide) ?_
  refine c_newa (N := 6) (k := 9) (cs' := 9) (sl' := 62) (a0 := (6, .inl (fun _ => 0))) 0 rfl aI (fun _ => rfl) (by decide) (by decide) (by decide) rfl (by decide) rfl (by decide) rfl dX0_init_81 ?_
  refine CW.cv (es' := [.inr (0, [.int 0, .ref (n1 + 1), .ref (n1 + 2), .ref (n1 + 3), .ref (n1 + 4), .int 0, .ref (n1 + 5), .ref (n1 + 6), .ref (n1 + 7), .ref (n1 + 8), .null, .null, .int 0, .int 0, .null, .int 0, .int 0]), zI w 8, zI w 8, zI w 8, zI w 8, zI w 6, zI w 6, zI w 6, zI w 6, zI w 6]) rfl ?_
  refine c_put (ci := 0) (k := 10) (T := TX0) (C := RX0) (N := 17) (fs' := [.int 0, .ref (n1 + 1), .ref (n1 + 2), .ref (n1 + 3), .ref (n1 + 4), .int 0, .ref (n1 + 5), .ref (n1 + 6), .ref (n1 + 7), .ref (n1 + 8), .ref (n1 + 9), .null, .int 0, .int 0, .null, .int 0, .int 0]) rfl fk_X0_43 (by decide) ⟨rfl, rfl⟩ (tyX0_ok 10 (by decide)) rfl rfl (Nat.le_of_ble_eq_true rfl) rfl (fun _ _ _ h => h.2.2) dX0_init_83 ?_
  refine c_aload 0 dX0_init_86 rfl rfl ?_
  refine c_bipush (v := 72) dX0_init_87 (by decide) ?_
  refine c_newa (N := 72) (k := 10) (cs' := 10) (sl' := 134) (a0 := (72, .inl (fun _ => 0))) 0 rfl aI (fun _ => rfl) (by decide) (by decide) (by decide) rfl (by decide) rfl (by decide) rfl dX0_init_89 ?_
  refine CW.cv (es' := [.inr (0, [.int 0, .ref (n1 + 1), .ref (n1 + 2), .ref (n1 + 3), .ref (n1 + 4), .int 0, .ref (n1 + 5), .ref (n1 + 6), .ref (n1 + 7), .ref (n1 + 8), .ref (n1 + 9), .null, .int 0, .int 0, .null, .int 0, .int 0]), zI w 8, zI w 8, zI w 8, zI w 8, zI w 6, zI w 6, zI w 6, zI w 6, zI w 6, zI w 72]) rfl ?_
  refine c_put (ci := 0) (k := 11) (T := TX0) (C := RX0) (N := 17) (fs' := [.int 0, .ref (n1 + 1), .ref (n1 + 2), .ref (n1 + 3), .ref (n1 + 4), .int 0, .ref (n1 + 5), .ref (n1 + 6), .ref (n1 + 7), .ref (n1 + 8), .ref (n1 + 9), .ref (n1 + 10), .int 0, .int 0, .null, .int 0, .int 0]) rfl fk_X0_46 (by decide) ⟨rfl, rfl⟩ (tyX0_ok 11 (by decide)) rfl rfl (Nat.le_of_ble_eq_true rfl) rfl (fun _ _ _ h => h.2.2) dX0_init_91 ?_
  refine c_aload 0 dX0_init_94 rfl rfl ?_
  refine c_iconst (v := 5) dX0_init_95 (by decide) ?_
  refine c_put (ci := 0) (k := 12) (T := TX0) (C := RX0) (N := 17) (fs' := [.int 0, .ref (n1 + 1), .ref (n1 + 2), .ref (n1 + 3), .ref (n1 + 4), .int 0, .ref (n1 + 5), .ref (n1 + 6), .ref (n1 + 7), .ref (n1 + 8), .ref (n1 + 9), .ref (n1 + 10), .int 5, .int 0, .null, .int 0, .int 0]) rfl fk_X0_49 (by decide) ⟨rfl, rfl⟩ (tyX0_ok 12 (by decide)) rfl rfl (Nat.le_of_ble_eq_true rfl) rfl (fun _ _ _ h => h.2.2) dX0_init_96 ?_
  refine c_aload 0 dX0_init_99 rfl rfl ?_
  refine c_iconst (v := 0) dX0_init_100 (by decide) ?_
  refine c_put (ci := 0) (k := 13) (T := TX0) (C := RX0) (N := 17) (fs' := [.int 0, .ref (n1 + 1), .ref (n1 + 2), .ref (n1 + 3), .ref (n1 + 4), .int 0, .ref (n1 + 5), .ref (n1 + 6), .ref (n1 + 7), .ref (n1 + 8), .ref (n1 + 9), .ref (n1 + 10), .int 5, .int 0, .null, .int 0, .int 0]) rfl fk_X0_52 (by decide) ⟨rfl, rfl⟩ (tyX0_ok 13 (by decide)) rfl rfl (Nat.le_of_ble_eq_true rfl) rfl (fun _ _ _ h => h.2.2) dX0_init_101 ?_
  refine c_aload 0 dX0_init_104 rfl rfl ?_
  refine c_sipush (v := 360) dX0_init_105 (by decide) ?_
  refine c_newa (N := 360) (k := 11) (cs' := 11) (sl' := 494) (a0 := (360, .inl (fun _ => 0))) 0 rfl aI (fun _ => rfl) (by decide) (by decide) (by decide) rfl (by decide) rfl (by decide) rfl dX0_init_108 ?_
  refine CW.cv (es' := [.inr (0, [.int 0, .ref (n1 + 1), .ref (n1 + 2), .ref (n1 + 3), .ref (n1 + 4), .int 0, .ref (n1 + 5), .ref (n1 + 6), .ref (n1 + 7), .ref (n1 + 8), .ref (n1 + 9), .ref (n1 + 10), .int 5, .int 0, .null, .int 0, .int 0]), zI w 8, zI w 8, zI w 8, zI w 8, zI w 6, zI w 6, zI w 6, zI w 6, zI w 6, zI w 72, zI w 360]) rfl ?_
  refine c_put (ci := 0) (k := 14) (T := TX0) (C := RX0) (N := 17) (fs' := [.int 0, .ref (n1 + 1), .ref (n1 + 2), .ref (n1 + 3), .ref (n1 + 4), .int 0, .ref (n1 + 5), .ref (n1 + 6), .ref (n1 + 7), .ref (n1 + 8), .ref (n1 + 9), .ref (n1 + 10), .int 5, .int 0, .ref (n1 + 11), .int 0, .int 0]) rfl fk_X0_55 (by decide) ⟨rfl, rfl⟩ (tyX0_ok 14 (by decide)) rfl rfl (Nat.le_of_ble_eq_true rfl) rfl (fun _ _ _ h => h.2.2) dX0_init_110 ?_
  refine c_aload 0 dX0_init_113 rfl rfl ?_
  refine c_iconst (v := 0) dX0_init_114 (by decide) ?_
  refine c_put (ci := 0) (k := 15) (T := TX0) (C := RX0) (N := 17) (fs' := [.int 0, .ref (n1 + 1), .ref (n1 + 2), .ref (n1 + 3), .ref (n1 + 4), .int 0, .ref (n1 + 5), .ref (n1 + 6), .ref (n1 + 7), .ref (n1 + 8), .ref (n1 + 9), .ref (n1 + 10), .int 5, .int 0, .ref (n1 + 11), .int 0, .int 0]) rfl fk_X0_58 (by decide) ⟨rfl, rfl⟩ (tyX0_ok 15 (by decide)) rfl rfl (Nat.le_of_ble_eq_true rfl) rfl (fun _ _ _ h => h.2.2) dX0_init_115 ?_
  refine c_aload 0 dX0_init_118 rfl rfl ?_
  refine c_iconst (v := -1) dX0_init_119 (by decide) ?_
  refine c_put (ci := 0) (k := 16) (T := TX0) (C := RX0) (N := 17) (fs' := [.int 0, .ref (n1 + 1), .ref (n1 + 2), .ref (n1 + 3), .ref (n1 + 4), .int 0, .ref (n1 + 5), .ref (n1 + 6), .ref (n1 + 7), .ref (n1 + 8), .ref (n1 + 9), .ref (n1 + 10), .int 5, .int 0, .ref (n1 + 11), .int 0, .int (-1)]) rfl fk_X0_61 (by decide) ⟨rfl, rfl⟩ (tyX0_ok 16 (by decide)) rfl rfl (Nat.le_of_ble_eq_true rfl) rfl (fun _ _ _ h => h.2.2) dX0_init_120 ?_
  exact c_ret rfl rfl rfl dX0_init_123
theorem fk_X1_9 : Cond.fieldLink RX1 9 RX1 (TX1 2).2.1 (TX1 2).2.2.1 ∈ TBL := TBL_in (tm1 (List.mem_of_getElem? (i := 203) rfl)) rfl
theorem fk_X1_15 : Cond.fieldLink RX1 15 RX1 (TX1 3).2.1 (TX1 3).2.2.1 ∈ TBL := TBL_in (tm1 (List.mem_of_getElem? (i := 204) rfl)) rfl
theorem fk_X1_18 : Cond.fieldLink RX1 18 RX1 (TX1 0).2.1 (TX1 0).2.2.1 ∈ TBL := TBL_in (tm1 (List.mem_of_getElem? (i := 201) rfl)) rfl
theorem fk_X1_22 : Cond.fieldLink RX1 22 RX1 (TX1 1).2.1 (TX1 1).2.2.1 ∈ TBL := TBL_in (tm1 (List.mem_of_getElem? (i := 202) rfl)) rfl
def esX1 (w : Wd) (n1 : Nat) (a1 : Nat) (a2 : Nat) : List va_E := [.inr (1, [.ref a1, .ref a2, .ref (n1 + 1), .ref (n1 + 2)]), zI w 8, zI w 20]
def zX1 : va_E := .inr (1, [.null, .null, .null, .null])
abbrev rmX1 : Room := { frames := 1, cells := 2, slots := 28, locals := 12 }
theorem mk_X1 {l : Launch} {w : Wd} {n0 n1 : Nat} (a1 : Nat) (a2 : Nat) : MC l w yX1_init cX1_init 3 rmX1 n0 n1 [.ref a1, .ref a2] [zX1] (esX1 w n1 a1 a2) := by
  refine MC.of (own := RX1) [(0, .ref n1), (1, .ref a1), (2, .ref a2)] ⟨by decide, rfl, rfl⟩ rfl (Nat.le_of_ble_eq_true rfl) ?_
  refine CW.cv (es' := [.inr (1, [.null, .null, .null, .null])]) rfl ?_
  refine c_aload 0 dX1_init_0 rfl rfl ?_
  refine c_obj oi_X1_3 oi_in oi_co (by decide) (by decide) dX1_init_1 ?_
  refine c_aload 0 dX1_init_4 rfl rfl ?_
  refine c_bipush (v := 8) dX1_init_5 (by decide) ?_
  refine c_newa (N := 8) (k := 1) (cs' := 1) (sl' := 8) (a0 := (8, .inl (fun _ => 0))) 0 rfl aI (fun _ => rfl) (by decide) (by decide) (by decide) rfl (by decide) rfl (by decide) rfl dX1_init_7 ?_
  refine CW.cv (es' := [.inr (1, [.null, .null, .null, .null]), zI w 8]) rfl ?_
  refine c_put (ci := 1) (k := 2) (T := TX1) (C := RX1) (N := 4) (fs' := [.null, .null, .ref (n1 + 1), .null]) rfl fk_X1_9 (by decide) ⟨rfl, rfl⟩ (tyX1_ok 2 (by decide)) rfl rfl (Nat.le_of_ble_eq_true rfl) rfl (fun _ _ _ h => h.2.2) dX1_init_9 ?_
  refine c_aload 0 dX1_init_12 rfl rfl ?_
  refine c_bipush (v := 20) dX1_init_13 (by decide) ?_
  refine c_newa (N := 20) (k := 2) (cs' := 2) (sl' := 28) (a0 := (20, .inl (fun _ => 0))) 0 rfl aI (fun _ => rfl) (by decide) (by decide) (by decide) rfl (by decide) rfl (by decide) rfl dX1_init_15 ?_
  refine CW.cv (es' := [.inr (1, [.null, .null, .ref (n1 + 1), .null]), zI w 8, zI w 20]) rfl ?_
  refine c_put (ci := 1) (k := 3) (T := TX1) (C := RX1) (N := 4) (fs' := [.null, .null, .ref (n1 + 1), .ref (n1 + 2)]) rfl fk_X1_15 (by decide) ⟨rfl, rfl⟩ (tyX1_ok 3 (by decide)) rfl rfl (Nat.le_of_ble_eq_true rfl) rfl (fun _ _ _ h => h.2.2) dX1_init_17 ?_
  refine c_aload 0 dX1_init_20 rfl rfl ?_
  refine c_aload 1 dX1_init_21 rfl rfl ?_
  refine c_put (ci := 1) (k := 0) (T := TX1) (C := RX1) (N := 4) (fs' := [.ref a1, .null, .ref (n1 + 1), .ref (n1 + 2)]) rfl fk_X1_18 (by decide) ⟨rfl, rfl⟩ (tyX1_ok 0 (by decide)) rfl rfl (Nat.le_of_ble_eq_true rfl) rfl (fun _ _ _ h => h.2.2) dX1_init_22 ?_
  refine c_aload 0 dX1_init_25 rfl rfl ?_
  refine c_aload 2 dX1_init_26 rfl rfl ?_
  refine c_put (ci := 1) (k := 1) (T := TX1) (C := RX1) (N := 4) (fs' := [.ref a1, .ref a2, .ref (n1 + 1), .ref (n1 + 2)]) rfl fk_X1_22 (by decide) ⟨rfl, rfl⟩ (tyX1_ok 1 (by decide)) rfl rfl (Nat.le_of_ble_eq_true rfl) rfl (fun _ _ _ h => h.2.2) dX1_init_27 ?_
  exact c_ret rfl rfl rfl dX1_init_30
theorem fk_X2_9 : Cond.fieldLink RX2 9 RX2 (TX2 0).2.1 (TX2 0).2.2.1 ∈ TBL := TBL_in (tm1 (List.mem_of_getElem? (i := 151) rfl)) rfl
theorem fk_X2_15 : Cond.fieldLink RX2 15 RX2 (TX2 1).2.1 (TX2 1).2.2.1 ∈ TBL := TBL_in (tm1 (List.mem_of_getElem? (i := 152) rfl)) rfl
theorem fk_X2_19 : Cond.fieldLink RX2 19 RX2 (TX2 2).2.1 (TX2 2).2.2.1 ∈ TBL := TBL_in (tm1 (List.mem_of_getElem? (i := 154) rfl)) rfl
theorem fk_X2_22 : Cond.fieldLink RX2 22 RX2 (TX2 3).2.1 (TX2 3).2.2.1 ∈ TBL := TBL_in (tm1 (List.mem_of_getElem? (i := 155) rfl)) rfl
theorem fk_X2_25 : Cond.fieldLink RX2 25 RX2 (TX2 4).2.1 (TX2 4).2.2.1 ∈ TBL := TBL_in (tm1 (List.mem_of_getElem? (i := 156) rfl)) rfl
theorem fk_X2_28 : Cond.fieldLink RX2 28 RX2 (TX2 5).2.1 (TX2 5).2.2.1 ∈ TBL := TBL_in (tm1 (List.mem_of_getElem? (i := 157) rfl)) rfl
theorem fk_X2_31 : Cond.fieldLink RX2 31 RX2 (TX2 6).2.1 (TX2 6).2.2.1 ∈ TBL := TBL_in (tm1 (List.mem_of_getElem? (i := 158) rfl)) rfl
theorem fk_X2_34 : Cond.fieldLink RX2 34 RX2 (TX2 7).2.1 (TX2 7).2.2.1 ∈ TBL := TBL_in (tm1 (List.mem_of_getElem? (i := 159) rfl)) rfl
theorem fk_X2_37 : Cond.fieldLink RX2 37 RX2 (TX2 8).2.1 (TX2 8).2.2.1 ∈ TBL := TBL_in (tm1 (List.mem_of_getElem? (i := 160) rfl)) rfl
theorem fk_X2_40 : Cond.fieldLink RX2 40 RX2 (TX2 9).2.1 (TX2 9).2.2.1 ∈ TBL := TBL_in (tm1 (List.mem_of_getElem? (i := 161) rfl)) rfl
theorem fk_X2_43 : Cond.fieldLink RX2 43 RX2 (TX2 10).2.1 (TX2 10).2.2.1 ∈ TBL := TBL_in (tm1 (List.mem_of_getElem? (i := 162) rfl)) rfl
theorem fk_X2_47 : Cond.fieldLink RX2 47 RX2 (TX2 11).2.1 (TX2 11).2.2.1 ∈ TBL := TBL_in (tm1 (List.mem_of_getElem? (i := 164) rfl)) rfl
theorem fk_X2_50 : Cond.fieldLink RX2 50 RX2 (TX2 12).2.1 (TX2 12).2.2.1 ∈ TBL := TBL_in (tm1 (List.mem_of_getElem? (i := 166) rfl)) rfl
def esX2 (w : Wd) (n1 : Nat) : List va_E := [.inr (2, [.ref (n1 + 1), .int 0, .ref (n1 + 2), .ref (n1 + 3), .ref (n1 + 4), .int 0, .int 0, .int 0, .int 0, .int (-1), .int 0, .int 0, .int (-1)]), zI w 300, zI w 301, zI w 301, zI w 301]
def zX2 : va_E := .inr (2, [.null, .int 0, .null, .null, .null, .int 0, .int 0, .int 0, .int 0, .int 0, .int 0, .int 0, .int 0])
abbrev rmX2 : Room := { frames := 1, cells := 4, slots := 1203, locals := 12 }
theorem mk_X2 {l : Launch} {w : Wd} {n0 n1 : Nat} : MC l w yX2_init cX2_init 1 rmX2 n0 n1 [] [zX2] (esX2 w n1) := by
  refine MC.of (own := RX2) [(0, .ref n1)] ⟨by decide, rfl, rfl⟩ rfl (Nat.le_of_ble_eq_true rfl) ?_
  refine CW.cv (es' := [.inr (2, [.null, .int 0, .null, .null, .null, .int 0, .int 0, .int 0, .int 0, .int 0, .int 0, .int 0, .int 0])]) rfl ?_
  refine c_aload 0 dX2_init_0 rfl rfl ?_
  refine c_obj oi_X2_3 oi_in oi_co (by decide) (by decide) dX2_init_1 ?_
  refine c_aload 0 dX2_init_4 rfl rfl ?_
  refine c_sipush (v := 300) dX2_init_5 (by decide) ?_
  refine c_newa (N := 300) (k := 1) (cs' := 1) (sl' := 300) (a0 := (300, .inl (fun _ => 0))) 0 rfl aI (fun _ => rfl) (by decide) (by decide) (by decide) rfl (by decide) rfl (by decide) rfl dX2_init_8 ?_
  refine CW.cv (es' := [.inr (2, [.null, .int 0, .null, .null, .null, .int 0, .int 0, .int 0, .int 0, .int 0, .int 0, .int 0, .int 0]), zI w 300]) rfl ?_
  refine c_put (ci := 2) (k := 0) (T := TX2) (C := RX2) (N := 13) (fs' := [.ref (n1 + 1), .int 0, .null, .null, .null, .int 0, .int 0, .int 0, .int 0, .int 0, .int 0, .int 0, .int 0]) rfl fk_X2_9 (by decide) ⟨rfl, rfl⟩ (tyX2_ok 0 (by decide)) rfl rfl (Nat.le_of_ble_eq_true rfl) rfl (fun _ _ _ h => h.2.2) dX2_init_10 ?_
  refine c_aload 0 dX2_init_13 rfl rfl ?_
  refine c_iconst (v := 0) dX2_init_14 (by decide) ?_
  refine c_put (ci := 2) (k := 1) (T := TX2) (C := RX2) (N := 13) (fs' := [.ref (n1 + 1), .int 0, .null, .null, .null, .int 0, .int 0, .int 0, .int 0, .int 0, .int 0, .int 0, .int 0]) rfl fk_X2_15 (by decide) ⟨rfl, rfl⟩ (tyX2_ok 1 (by decide)) rfl rfl (Nat.le_of_ble_eq_true rfl) rfl (fun _ _ _ h => h.2.2) dX2_init_15 ?_
  refine c_aload 0 dX2_init_18 rfl rfl ?_
  refine c_sipush (v := 301) dX2_init_19 (by decide) ?_
  refine c_newa (N := 301) (k := 2) (cs' := 2) (sl' := 601) (a0 := (301, .inl (fun _ => 0))) 0 rfl aI (fun _ => rfl) (by decide) (by decide) (by decide) rfl (by decide) rfl (by decide) rfl dX2_init_22 ?_
  refine CW.cv (es' := [.inr (2, [.ref (n1 + 1), .int 0, .null, .null, .null, .int 0, .int 0, .int 0, .int 0, .int 0, .int 0, .int 0, .int 0]), zI w 300, zI w 301]) rfl ?_
  refine c_put (ci := 2) (k := 2) (T := TX2) (C := RX2) (N := 13) (fs' := [.ref (n1 + 1), .int 0, .ref (n1 + 2), .null, .null, .int 0, .int 0, .int 0, .int 0, .int 0, .int 0, .int 0, .int 0]) rfl fk_X2_19 (by decide) ⟨rfl, rfl⟩ (tyX2_ok 2 (by decide)) rfl rfl (Nat.le_of_ble_eq_true rfl) rfl (fun _ _ _ h => h.2.2) dX2_init_24 ?_
  refine c_aload 0 dX2_init_27 rfl rfl ?_
  refine c_sipush (v := 301) dX2_init_28 (by decide) ?_
  refine c_newa (N := 301) (k := 3) (cs' := 3) (sl' := 902) (a0 := (301, .inl (fun _ => 0))) 0 rfl aI (fun _ => rfl) (by decide) (by decide) (by decide) rfl (by decide) rfl (by decide) rfl dX2_init_31 ?_
  refine CW.cv (es' := [.inr (2, [.ref (n1 + 1), .int 0, .ref (n1 + 2), .null, .null, .int 0, .int 0, .int 0, .int 0, .int 0, .int 0, .int 0, .int 0]), zI w 300, zI w 301, zI w 301]) rfl ?_
  refine c_put (ci := 2) (k := 3) (T := TX2) (C := RX2) (N := 13) (fs' := [.ref (n1 + 1), .int 0, .ref (n1 + 2), .ref (n1 + 3), .null, .int 0, .int 0, .int 0, .int 0, .int 0, .int 0, .int 0, .int 0]) rfl fk_X2_22 (by decide) ⟨rfl, rfl⟩ (tyX2_ok 3 (by decide)) rfl rfl (Nat.le_of_ble_eq_true rfl) rfl (fun _ _ _ h => h.2.2) dX2_init_33 ?_
  refine c_aload 0 dX2_init_36 rfl rfl ?_
  refine c_sipush (v := 301) dX2_init_37 (by decide) ?_
  refine c_newa (N := 301) (k := 4) (cs' := 4) (sl' := 1203) (a0 := (301, .inl (fun _ => 0))) 0 rfl aI (fun _ => rfl) (by decide) (by decide) (by decide) rfl (by decide) rfl (by decide) rfl dX2_init_40 ?_
  refine CW.cv (es' := [.inr (2, [.ref (n1 + 1), .int 0, .ref (n1 + 2), .ref (n1 + 3), .null, .int 0, .int 0, .int 0, .int 0, .int 0, .int 0, .int 0, .int 0]), zI w 300, zI w 301, zI w 301, zI w 301]) rfl ?_
  refine c_put (ci := 2) (k := 4) (T := TX2) (C := RX2) (N := 13) (fs' := [.ref (n1 + 1), .int 0, .ref (n1 + 2), .ref (n1 + 3), .ref (n1 + 4), .int 0, .int 0, .int 0, .int 0, .int 0, .int 0, .int 0, .int 0]) rfl fk_X2_25 (by decide) ⟨rfl, rfl⟩ (tyX2_ok 4 (by decide)) rfl rfl (Nat.le_of_ble_eq_true rfl) rfl (fun _ _ _ h => h.2.2) dX2_init_42 ?_
  refine c_aload 0 dX2_init_45 rfl rfl ?_
  refine c_iconst (v := 0) dX2_init_46 (by decide) ?_
  refine c_put (ci := 2) (k := 5) (T := TX2) (C := RX2) (N := 13) (fs' := [.ref (n1 + 1), .int 0, .ref (n1 + 2), .ref (n1 + 3), .ref (n1 + 4), .int 0, .int 0, .int 0, .int 0, .int 0, .int 0, .int 0, .int 0]) rfl fk_X2_28 (by decide) ⟨rfl, rfl⟩ (tyX2_ok 5 (by decide)) rfl rfl (Nat.le_of_ble_eq_true rfl) rfl (fun _ _ _ h => h.2.2) dX2_init_47 ?_
  refine c_aload 0 dX2_init_50 rfl rfl ?_
  refine c_iconst (v := 0) dX2_init_51 (by decide) ?_
  refine c_put (ci := 2) (k := 6) (T := TX2) (C := RX2) (N := 13) (fs' := [.ref (n1 + 1), .int 0, .ref (n1 + 2), .ref (n1 + 3), .ref (n1 + 4), .int 0, .int 0, .int 0, .int 0, .int 0, .int 0, .int 0, .int 0]) rfl fk_X2_31 (by decide) ⟨rfl, rfl⟩ (tyX2_ok 6 (by decide)) rfl rfl (Nat.le_of_ble_eq_true rfl) rfl (fun _ _ _ h => h.2.2) dX2_init_52 ?_
  refine c_aload 0 dX2_init_55 rfl rfl ?_
  refine c_iconst (v := 0) dX2_init_56 (by decide) ?_
  refine c_put (ci := 2) (k := 7) (T := TX2) (C := RX2) (N := 13) (fs' := [.ref (n1 + 1), .int 0, .ref (n1 + 2), .ref (n1 + 3), .ref (n1 + 4), .int 0, .int 0, .int 0, .int 0, .int 0, .int 0, .int 0, .int 0]) rfl fk_X2_34 (by decide) ⟨rfl, rfl⟩ (tyX2_ok 7 (by decide)) rfl rfl (Nat.le_of_ble_eq_true rfl) rfl (fun _ _ _ h => h.2.2) dX2_init_57 ?_
  refine c_aload 0 dX2_init_60 rfl rfl ?_
  refine c_iconst (v := 0) dX2_init_61 (by decide) ?_
  refine c_put (ci := 2) (k := 8) (T := TX2) (C := RX2) (N := 13) (fs' := [.ref (n1 + 1), .int 0, .ref (n1 + 2), .ref (n1 + 3), .ref (n1 + 4), .int 0, .int 0, .int 0, .int 0, .int 0, .int 0, .int 0, .int 0]) rfl fk_X2_37 (by decide) ⟨rfl, rfl⟩ (tyX2_ok 8 (by decide)) rfl rfl (Nat.le_of_ble_eq_true rfl) rfl (fun _ _ _ h => h.2.2) dX2_init_62 ?_
  refine c_aload 0 dX2_init_65 rfl rfl ?_
  refine c_iconst (v := -1) dX2_init_66 (by decide) ?_
  refine c_put (ci := 2) (k := 9) (T := TX2) (C := RX2) (N := 13) (fs' := [.ref (n1 + 1), .int 0, .ref (n1 + 2), .ref (n1 + 3), .ref (n1 + 4), .int 0, .int 0, .int 0, .int 0, .int (-1), .int 0, .int 0, .int 0]) rfl fk_X2_40 (by decide) ⟨rfl, rfl⟩ (tyX2_ok 9 (by decide)) rfl rfl (Nat.le_of_ble_eq_true rfl) rfl (fun _ _ _ h => h.2.2) dX2_init_67 ?_
  refine c_aload 0 dX2_init_70 rfl rfl ?_
  refine c_iconst (v := 0) dX2_init_71 (by decide) ?_
  refine c_put (ci := 2) (k := 10) (T := TX2) (C := RX2) (N := 13) (fs' := [.ref (n1 + 1), .int 0, .ref (n1 + 2), .ref (n1 + 3), .ref (n1 + 4), .int 0, .int 0, .int 0, .int 0, .int (-1), .int 0, .int 0, .int 0]) rfl fk_X2_43 (by decide) ⟨rfl, rfl⟩ (tyX2_ok 10 (by decide)) rfl rfl (Nat.le_of_ble_eq_true rfl) rfl (fun _ _ _ h => h.2.2) dX2_init_72 ?_
  refine c_aload 0 dX2_init_75 rfl rfl ?_
  refine c_iconst (v := 0) dX2_init_76 (by decide) ?_
  refine c_put (ci := 2) (k := 11) (T := TX2) (C := RX2) (N := 13) (fs' := [.ref (n1 + 1), .int 0, .ref (n1 + 2), .ref (n1 + 3), .ref (n1 + 4), .int 0, .int 0, .int 0, .int 0, .int (-1), .int 0, .int 0, .int 0]) rfl fk_X2_47 (by decide) ⟨rfl, rfl⟩ (tyX2_ok 11 (by decide)) rfl rfl (Nat.le_of_ble_eq_true rfl) rfl (fun _ _ _ h => h.2.2) dX2_init_77 ?_
  refine c_aload 0 dX2_init_80 rfl rfl ?_
  refine c_iconst (v := -1) dX2_init_81 (by decide) ?_
  refine c_put (ci := 2) (k := 12) (T := TX2) (C := RX2) (N := 13) (fs' := [.ref (n1 + 1), .int 0, .ref (n1 + 2), .ref (n1 + 3), .ref (n1 + 4), .int 0, .int 0, .int 0, .int 0, .int (-1), .int 0, .int 0, .int (-1)]) rfl fk_X2_50 (by decide) ⟨rfl, rfl⟩ (tyX2_ok 12 (by decide)) rfl rfl (Nat.le_of_ble_eq_true rfl) rfl (fun _ _ _ h => h.2.2) dX2_init_82 ?_
  exact c_ret rfl rfl rfl dX2_init_85
theorem fk_X3_9 : Cond.fieldLink RX3 9 RX3 (TX3 0).2.1 (TX3 0).2.2.1 ∈ TBL := TBL_in (tm2 (List.mem_of_getElem? (i := 71) rfl)) rfl
theorem fk_X3_15 : Cond.fieldLink RX3 15 RX3 (TX3 1).2.1 (TX3 1).2.2.1 ∈ TBL := TBL_in (tm2 (List.mem_of_getElem? (i := 73) rfl)) rfl
theorem fk_X3_19 : Cond.fieldLink RX3 19 RX3 (TX3 2).2.1 (TX3 2).2.2.1 ∈ TBL := TBL_in (tm2 (List.mem_of_getElem? (i := 75) rfl)) rfl
theorem fk_X3_22 : Cond.fieldLink RX3 22 RX3 (TX3 3).2.1 (TX3 3).2.2.1 ∈ TBL := TBL_in (tm2 (List.mem_of_getElem? (i := 77) rfl)) rfl
theorem fk_X3_25 : Cond.fieldLink RX3 25 RX3 (TX3 4).2.1 (TX3 4).2.2.1 ∈ TBL := TBL_in (tm2 (List.mem_of_getElem? (i := 79) rfl)) rfl
theorem fk_X3_28 : Cond.fieldLink RX3 28 RX3 (TX3 5).2.1 (TX3 5).2.2.1 ∈ TBL := TBL_in (tm2 (List.mem_of_getElem? (i := 80) rfl)) rfl
theorem fk_X3_31 : Cond.fieldLink RX3 31 RX3 (TX3 6).2.1 (TX3 6).2.2.1 ∈ TBL := TBL_in (tm2 (List.mem_of_getElem? (i := 81) rfl)) rfl
def esX3 (w : Wd) (n1 : Nat) : List va_E := [.inr (3, [.ref (n1 + 1), .int 0, .ref (n1 + 2), .ref (n1 + 3), .ref (n1 + 4), .ref (n1 + 5), .int 0]), zI w 300, zI w 4, zI w 4, zI w 24, zI w 72]
def zX3 : va_E := .inr (3, [.null, .int 0, .null, .null, .null, .null, .int 0])
abbrev rmX3 : Room := { frames := 1, cells := 5, slots := 404, locals := 12 }
theorem mk_X3 {l : Launch} {w : Wd} {n0 n1 : Nat} : MC l w yX3_init cX3_init 1 rmX3 n0 n1 [] [zX3] (esX3 w n1) := by
  refine MC.of (own := RX3) [(0, .ref n1)] ⟨by decide, rfl, rfl⟩ rfl (Nat.le_of_ble_eq_true rfl) ?_
  refine CW.cv (es' := [.inr (3, [.null, .int 0, .null, .null, .null, .null, .int 0])]) rfl ?_
  refine c_aload 0 dX3_init_0 rfl rfl ?_
  refine c_obj oi_X3_3 oi_in oi_co (by decide) (by decide) dX3_init_1 ?_
  refine c_aload 0 dX3_init_4 rfl rfl ?_
  refine c_sipush (v := 300) dX3_init_5 (by decide) ?_
  refine c_newa (N := 300) (k := 1) (cs' := 1) (sl' := 300) (a0 := (300, .inl (fun _ => 0))) 0 rfl aI (fun _ => rfl) (by decide) (by decide) (by decide) rfl (by decide) rfl (by decide) rfl dX3_init_8 ?_
  refine CW.cv (es' := [.inr (3, [.null, .int 0, .null, .null, .null, .null, .int 0]), zI w 300]) rfl ?_
  refine c_put (ci := 3) (k := 0) (T := TX3) (C := RX3) (N := 7) (fs' := [.ref (n1 + 1), .int 0, .null, .null, .null, .null, .int 0]) rfl fk_X3_9 (by decide) ⟨rfl, rfl⟩ (tyX3_ok 0 (by decide)) rfl rfl (Nat.le_of_ble_eq_true rfl) rfl (fun _ _ _ h => h.2.2) dX3_init_10 ?_
  refine c_aload 0 dX3_init_13 rfl rfl ?_
  refine c_iconst (v := 0) dX3_init_14 (by decide) ?_
  refine c_put (ci := 3) (k := 1) (T := TX3) (C := RX3) (N := 7) (fs' := [.ref (n1 + 1), .int 0, .null, .null, .null, .null, .int 0]) rfl fk_X3_15 (by decide) ⟨rfl, rfl⟩ (tyX3_ok 1 (by decide)) rfl rfl (Nat.le_of_ble_eq_true rfl) rfl (fun _ _ _ h => h.2.2) dX3_init_15 ?_
  refine c_aload 0 dX3_init_18 rfl rfl ?_
  refine c_iconst (v := 4) dX3_init_19 (by decide) ?_
  refine c_newa (N := 4) (k := 2) (cs' := 2) (sl' := 304) (a0 := (4, .inl (fun _ => 0))) 0 rfl aI (fun _ => rfl) (by decide) (by decide) (by decide) rfl (by decide) rfl (by decide) rfl dX3_init_20 ?_
  refine CW.cv (es' := [.inr (3, [.ref (n1 + 1), .int 0, .null, .null, .null, .null, .int 0]), zI w 300, zI w 4]) rfl ?_
  refine c_put (ci := 3) (k := 2) (T := TX3) (C := RX3) (N := 7) (fs' := [.ref (n1 + 1), .int 0, .ref (n1 + 2), .null, .null, .null, .int 0]) rfl fk_X3_19 (by decide) ⟨rfl, rfl⟩ (tyX3_ok 2 (by decide)) rfl rfl (Nat.le_of_ble_eq_true rfl) rfl (fun _ _ _ h => h.2.2) dX3_init_22 ?_
  refine c_aload 0 dX3_init_25 rfl rfl ?_
  refine c_iconst (v := 4) dX3_init_26 (by decide) ?_
  refine c_newa (N := 4) (k := 3) (cs' := 3) (sl' := 308) (a0 := (4, .inl (fun _ => 0))) 0 rfl aI (fun _ => rfl) (by decide) (by decide) (by decide) rfl (by decide) rfl (by decide) rfl dX3_init_27 ?_
  refine CW.cv (es' := [.inr (3, [.ref (n1 + 1), .int 0, .ref (n1 + 2), .null, .null, .null, .int 0]), zI w 300, zI w 4, zI w 4]) rfl ?_
  refine c_put (ci := 3) (k := 3) (T := TX3) (C := RX3) (N := 7) (fs' := [.ref (n1 + 1), .int 0, .ref (n1 + 2), .ref (n1 + 3), .null, .null, .int 0]) rfl fk_X3_22 (by decide) ⟨rfl, rfl⟩ (tyX3_ok 3 (by decide)) rfl rfl (Nat.le_of_ble_eq_true rfl) rfl (fun _ _ _ h => h.2.2) dX3_init_29 ?_
  refine c_aload 0 dX3_init_32 rfl rfl ?_
  refine c_bipush (v := 24) dX3_init_33 (by decide) ?_
  refine c_newa (N := 24) (k := 4) (cs' := 4) (sl' := 332) (a0 := (24, .inl (fun _ => 0))) 0 rfl aI (fun _ => rfl) (by decide) (by decide) (by decide) rfl (by decide) rfl (by decide) rfl dX3_init_35 ?_
  refine CW.cv (es' := [.inr (3, [.ref (n1 + 1), .int 0, .ref (n1 + 2), .ref (n1 + 3), .null, .null, .int 0]), zI w 300, zI w 4, zI w 4, zI w 24]) rfl ?_
  refine c_put (ci := 3) (k := 4) (T := TX3) (C := RX3) (N := 7) (fs' := [.ref (n1 + 1), .int 0, .ref (n1 + 2), .ref (n1 + 3), .ref (n1 + 4), .null, .int 0]) rfl fk_X3_25 (by decide) ⟨rfl, rfl⟩ (tyX3_ok 4 (by decide)) rfl rfl (Nat.le_of_ble_eq_true rfl) rfl (fun _ _ _ h => h.2.2) dX3_init_37 ?_
  refine c_aload 0 dX3_init_40 rfl rfl ?_
  refine c_bipush (v := 72) dX3_init_41 (by decide) ?_
  refine c_newa (N := 72) (k := 5) (cs' := 5) (sl' := 404) (a0 := (72, .inl (fun _ => 0))) 0 rfl aI (fun _ => rfl) (by decide) (by decide) (by decide) rfl (by decide) rfl (by decide) rfl dX3_init_43 ?_
  refine CW.cv (es' := [.inr (3, [.ref (n1 + 1), .int 0, .ref (n1 + 2), .ref (n1 + 3), .ref (n1 + 4), .null, .int 0]), zI w 300, zI w 4, zI w 4, zI w 24, zI w 72]) rfl ?_
  refine c_put (ci := 3) (k := 5) (T := TX3) (C := RX3) (N := 7) (fs' := [.ref (n1 + 1), .int 0, .ref (n1 + 2), .ref (n1 + 3), .ref (n1 + 4), .ref (n1 + 5), .int 0]) rfl fk_X3_28 (by decide) ⟨rfl, rfl⟩ (tyX3_ok 5 (by decide)) rfl rfl (Nat.le_of_ble_eq_true rfl) rfl (fun _ _ _ h => h.2.2) dX3_init_45 ?_
  refine c_aload 0 dX3_init_48 rfl rfl ?_
  refine c_iconst (v := 0) dX3_init_49 (by decide) ?_
  refine c_put (ci := 3) (k := 6) (T := TX3) (C := RX3) (N := 7) (fs' := [.ref (n1 + 1), .int 0, .ref (n1 + 2), .ref (n1 + 3), .ref (n1 + 4), .ref (n1 + 5), .int 0]) rfl fk_X3_31 (by decide) ⟨rfl, rfl⟩ (tyX3_ok 6 (by decide)) rfl rfl (Nat.le_of_ble_eq_true rfl) rfl (fun _ _ _ h => h.2.2) dX3_init_50 ?_
  exact c_ret rfl rfl rfl dX3_init_53
theorem fk_X5_9 : Cond.fieldLink RX5 9 RX5 (TX5 2).2.1 (TX5 2).2.2.1 ∈ TBL := TBL_in (tm2 (List.mem_of_getElem? (i := 20) rfl)) rfl
theorem fk_X5_15 : Cond.fieldLink RX5 15 RX5 (TX5 3).2.1 (TX5 3).2.2.1 ∈ TBL := TBL_in (tm2 (List.mem_of_getElem? (i := 21) rfl)) rfl
theorem fk_X5_18 : Cond.fieldLink RX5 18 RX5 (TX5 4).2.1 (TX5 4).2.2.1 ∈ TBL := TBL_in (tm2 (List.mem_of_getElem? (i := 22) rfl)) rfl
theorem fk_X5_21 : Cond.fieldLink RX5 21 RX5 (TX5 5).2.1 (TX5 5).2.2.1 ∈ TBL := TBL_in (tm2 (List.mem_of_getElem? (i := 23) rfl)) rfl
theorem fk_X5_24 : Cond.fieldLink RX5 24 RX5 (TX5 6).2.1 (TX5 6).2.2.1 ∈ TBL := TBL_in (tm2 (List.mem_of_getElem? (i := 24) rfl)) rfl
theorem fk_X5_28 : Cond.fieldLink RX5 28 RX5 (TX5 0).2.1 (TX5 0).2.2.1 ∈ TBL := TBL_in (tm2 (List.mem_of_getElem? (i := 18) rfl)) rfl
theorem fk_X5_32 : Cond.fieldLink RX5 32 RX5 (TX5 1).2.1 (TX5 1).2.2.1 ∈ TBL := TBL_in (tm2 (List.mem_of_getElem? (i := 19) rfl)) rfl
def esX5 (w : Wd) (n1 : Nat) (a1 : Nat) (a2 : Nat) : List va_E := [.inr (5, [.ref a1, .ref a2, .ref (n1 + 1), .ref (n1 + 2), .ref (n1 + 3), .ref (n1 + 4), .int 0]), zI w 6, zI w 6, zI w 36, zI w 64]
def zX5 : va_E := .inr (5, [.null, .null, .null, .null, .null, .null, .int 0])
abbrev rmX5 : Room := { frames := 1, cells := 4, slots := 112, locals := 12 }
theorem mk_X5 {l : Launch} {w : Wd} {n0 n1 : Nat} (a1 : Nat) (a2 : Nat) : MC l w yX5_init cX5_init 3 rmX5 n0 n1 [.ref a1, .ref a2] [zX5] (esX5 w n1 a1 a2) := by
  refine MC.of (own := RX5) [(0, .ref n1), (1, .ref a1), (2, .ref a2)] ⟨by decide, rfl, rfl⟩ rfl (Nat.le_of_ble_eq_true rfl) ?_
  refine CW.cv (es' := [.inr (5, [.null, .null, .null, .null, .null, .null, .int 0])]) rfl ?_
  refine c_aload 0 dX5_init_0 rfl rfl ?_
  refine c_obj oi_X5_3 oi_in oi_co (by decide) (by decide) dX5_init_1 ?_
  refine c_aload 0 dX5_init_4 rfl rfl ?_
  refine c_bipush (v := 6) dX5_init_5 (by decide) ?_
  refine c_newa (N := 6) (k := 1) (cs' := 1) (sl' := 6) (a0 := (6, .inl (fun _ => 0))) 0 rfl aI (fun _ => rfl) (by decide) (by decide) (by decide) rfl (by decide) rfl (by decide) rfl dX5_init_7 ?_
  refine CW.cv (es' := [.inr (5, [.null, .null, .null, .null, .null, .null, .int 0]), zI w 6]) rfl ?_
  refine c_put (ci := 5) (k := 2) (T := TX5) (C := RX5) (N := 7) (fs' := [.null, .null, .ref (n1 + 1), .null, .null, .null, .int 0]) rfl fk_X5_9 (by decide) ⟨rfl, rfl⟩ (tyX5_ok 2 (by decide)) rfl rfl (Nat.le_of_ble_eq_true rfl) rfl (fun _ _ _ h => h.2.2) dX5_init_9 ?_
  refine c_aload 0 dX5_init_12 rfl rfl ?_
  refine c_bipush (v := 6) dX5_init_13 (by decide) ?_
  refine c_newa (N := 6) (k := 2) (cs' := 2) (sl' := 12) (a0 := (6, .inl (fun _ => 0))) 0 rfl aI (fun _ => rfl) (by decide) (by decide) (by decide) rfl (by decide) rfl (by decide) rfl dX5_init_15 ?_
  refine CW.cv (es' := [.inr (5, [.null, .null, .ref (n1 + 1), .null, .null, .null, .int 0]), zI w 6, zI w 6]) rfl ?_
  refine c_put (ci := 5) (k := 3) (T := TX5) (C := RX5) (N := 7) (fs' := [.null, .null, .ref (n1 + 1), .ref (n1 + 2), .null, .null, .int 0]) rfl fk_X5_15 (by decide) ⟨rfl, rfl⟩ (tyX5_ok 3 (by decide)) rfl rfl (Nat.le_of_ble_eq_true rfl) rfl (fun _ _ _ h => h.2.2) dX5_init_17 ?_
  refine c_aload 0 dX5_init_20 rfl rfl ?_
  refine c_bipush (v := 36) dX5_init_21 (by decide) ?_
  refine c_newa (N := 36) (k := 3) (cs' := 3) (sl' := 48) (a0 := (36, .inl (fun _ => 0))) 0 rfl aI (fun _ => rfl) (by decide) (by decide) (by decide) rfl (by decide) rfl (by decide) rfl dX5_init_23 ?_
  refine CW.cv (es' := [.inr (5, [.null, .null, .ref (n1 + 1), .ref (n1 + 2), .null, .null, .int 0]), zI w 6, zI w 6, zI w 36]) rfl ?_
  refine c_put (ci := 5) (k := 4) (T := TX5) (C := RX5) (N := 7) (fs' := [.null, .null, .ref (n1 + 1), .ref (n1 + 2), .ref (n1 + 3), .null, .int 0]) rfl fk_X5_18 (by decide) ⟨rfl, rfl⟩ (tyX5_ok 4 (by decide)) rfl rfl (Nat.le_of_ble_eq_true rfl) rfl (fun _ _ _ h => h.2.2) dX5_init_25 ?_
  refine c_aload 0 dX5_init_28 rfl rfl ?_
  refine c_bipush (v := 64) dX5_init_29 (by decide) ?_
  refine c_newa (N := 64) (k := 4) (cs' := 4) (sl' := 112) (a0 := (64, .inl (fun _ => 0))) 0 rfl aI (fun _ => rfl) (by decide) (by decide) (by decide) rfl (by decide) rfl (by decide) rfl dX5_init_31 ?_
  refine CW.cv (es' := [.inr (5, [.null, .null, .ref (n1 + 1), .ref (n1 + 2), .ref (n1 + 3), .null, .int 0]), zI w 6, zI w 6, zI w 36, zI w 64]) rfl ?_
  refine c_put (ci := 5) (k := 5) (T := TX5) (C := RX5) (N := 7) (fs' := [.null, .null, .ref (n1 + 1), .ref (n1 + 2), .ref (n1 + 3), .ref (n1 + 4), .int 0]) rfl fk_X5_21 (by decide) ⟨rfl, rfl⟩ (tyX5_ok 5 (by decide)) rfl rfl (Nat.le_of_ble_eq_true rfl) rfl (fun _ _ _ h => h.2.2) dX5_init_33 ?_
  refine c_aload 0 dX5_init_36 rfl rfl ?_
  refine c_iconst (v := 0) dX5_init_37 (by decide) ?_
  refine c_put (ci := 5) (k := 6) (T := TX5) (C := RX5) (N := 7) (fs' := [.null, .null, .ref (n1 + 1), .ref (n1 + 2), .ref (n1 + 3), .ref (n1 + 4), .int 0]) rfl fk_X5_24 (by decide) ⟨rfl, rfl⟩ (tyX5_ok 6 (by decide)) rfl rfl (Nat.le_of_ble_eq_true rfl) rfl (fun _ _ _ h => h.2.2) dX5_init_38 ?_
  refine c_aload 0 dX5_init_41 rfl rfl ?_
  refine c_aload 1 dX5_init_42 rfl rfl ?_
  refine c_put (ci := 5) (k := 0) (T := TX5) (C := RX5) (N := 7) (fs' := [.ref a1, .null, .ref (n1 + 1), .ref (n1 + 2), .ref (n1 + 3), .ref (n1 + 4), .int 0]) rfl fk_X5_28 (by decide) ⟨rfl, rfl⟩ (tyX5_ok 0 (by decide)) rfl rfl (Nat.le_of_ble_eq_true rfl) rfl (fun _ _ _ h => h.2.2) dX5_init_43 ?_
  refine c_aload 0 dX5_init_46 rfl rfl ?_
  refine c_aload 2 dX5_init_47 rfl rfl ?_
  refine c_put (ci := 5) (k := 1) (T := TX5) (C := RX5) (N := 7) (fs' := [.ref a1, .ref a2, .ref (n1 + 1), .ref (n1 + 2), .ref (n1 + 3), .ref (n1 + 4), .int 0]) rfl fk_X5_32 (by decide) ⟨rfl, rfl⟩ (tyX5_ok 1 (by decide)) rfl rfl (Nat.le_of_ble_eq_true rfl) rfl (fun _ _ _ h => h.2.2) dX5_init_48 ?_
  exact c_ret rfl rfl rfl dX5_init_51
theorem fk_X6_9 : Cond.fieldLink RX6 9 RX6 (TX6 2).2.1 (TX6 2).2.2.1 ∈ TBL := TBL_in (tm1 (List.mem_of_getElem? (i := 222) rfl)) rfl
theorem fk_X6_15 : Cond.fieldLink RX6 15 RX6 (TX6 3).2.1 (TX6 3).2.2.1 ∈ TBL := TBL_in (tm1 (List.mem_of_getElem? (i := 223) rfl)) rfl
theorem fk_X6_18 : Cond.fieldLink RX6 18 RX6 (TX6 4).2.1 (TX6 4).2.2.1 ∈ TBL := TBL_in (tm1 (List.mem_of_getElem? (i := 224) rfl)) rfl
theorem fk_X6_22 : Cond.fieldLink RX6 22 RX6 (TX6 5).2.1 (TX6 5).2.2.1 ∈ TBL := TBL_in (tm1 (List.mem_of_getElem? (i := 225) rfl)) rfl
theorem fk_X6_25 : Cond.fieldLink RX6 25 RX6 (TX6 6).2.1 (TX6 6).2.2.1 ∈ TBL := TBL_in (tm1 (List.mem_of_getElem? (i := 227) rfl)) rfl
theorem fk_X6_28 : Cond.fieldLink RX6 28 RX6 (TX6 7).2.1 (TX6 7).2.2.1 ∈ TBL := TBL_in (tm1 (List.mem_of_getElem? (i := 229) rfl)) rfl
theorem fk_X6_32 : Cond.fieldLink RX6 32 RX6 (TX6 8).2.1 (TX6 8).2.2.1 ∈ TBL := TBL_in (tm1 (List.mem_of_getElem? (i := 231) rfl)) rfl
theorem fk_X6_35 : Cond.fieldLink RX6 35 RX6 (TX6 0).2.1 (TX6 0).2.2.1 ∈ TBL := TBL_in (tm1 (List.mem_of_getElem? (i := 220) rfl)) rfl
theorem fk_X6_39 : Cond.fieldLink RX6 39 RX6 (TX6 1).2.1 (TX6 1).2.2.1 ∈ TBL := TBL_in (tm1 (List.mem_of_getElem? (i := 221) rfl)) rfl
def esX6 (w : Wd) (n1 : Nat) (a1 : Nat) (a2 : Nat) : List va_E := [.inr (6, [.ref a1, .ref a2, .ref (n1 + 1), .ref (n1 + 2), .int (-1), .int 0, .int 0, .long 0, .long 1]), zI w 12, zI w 12]
def zX6 : va_E := .inr (6, [.null, .null, .null, .null, .int 0, .int 0, .int 0, .long 0, .long 0])
abbrev rmX6 : Room := { frames := 1, cells := 2, slots := 24, locals := 12 }
theorem mk_X6 {l : Launch} {w : Wd} {n0 n1 : Nat} (a1 : Nat) (a2 : Nat) : MC l w yX6_init cX6_init 3 rmX6 n0 n1 [.ref a1, .ref a2] [zX6] (esX6 w n1 a1 a2) := by
  refine MC.of (own := RX6) [(0, .ref n1), (1, .ref a1), (2, .ref a2)] ⟨by decide, rfl, rfl⟩ rfl (Nat.le_of_ble_eq_true rfl) ?_
  refine CW.cv (es' := [.inr (6, [.null, .null, .null, .null, .int 0, .int 0, .int 0, .long 0, .long 0])]) rfl ?_
  refine c_aload 0 dX6_init_0 rfl rfl ?_
  refine c_obj oi_X6_3 oi_in oi_co (by decide) (by decide) dX6_init_1 ?_
  refine c_aload 0 dX6_init_4 rfl rfl ?_
  refine c_bipush (v := 12) dX6_init_5 (by decide) ?_
  refine c_newa (N := 12) (k := 1) (cs' := 1) (sl' := 12) (a0 := (12, .inl (fun _ => 0))) 0 rfl aI (fun _ => rfl) (by decide) (by decide) (by decide) rfl (by decide) rfl (by decide) rfl dX6_init_7 ?_
  refine CW.cv (es' := [.inr (6, [.null, .null, .null, .null, .int 0, .int 0, .int 0, .long 0, .long 0]), zI w 12]) rfl ?_
  refine c_put (ci := 6) (k := 2) (T := TX6) (C := RX6) (N := 9) (fs' := [.null, .null, .ref (n1 + 1), .null, .int 0, .int 0, .int 0, .long 0, .long 0]) rfl fk_X6_9 (by decide) ⟨rfl, rfl⟩ (tyX6_ok 2 (by decide)) rfl rfl (Nat.le_of_ble_eq_true rfl) rfl (fun _ _ _ h => h.2.2) dX6_init_9 ?_
  refine c_aload 0 dX6_init_12 rfl rfl ?_
  refine c_bipush (v := 12) dX6_init_13 (by decide) ?_
  refine c_newa (N := 12) (k := 2) (cs' := 2) (sl' := 24) (a0 := (12, .inl (fun _ => 0))) 0 rfl aI (fun _ => rfl) (by decide) (by decide) (by decide) rfl (by decide) rfl (by decide) rfl dX6_init_15 ?_
  refine CW.cv (es' := [.inr (6, [.null, .null, .ref (n1 + 1), .null, .int 0, .int 0, .int 0, .long 0, .long 0]), zI w 12, zI w 12]) rfl ?_
  refine c_put (ci := 6) (k := 3) (T := TX6) (C := RX6) (N := 9) (fs' := [.null, .null, .ref (n1 + 1), .ref (n1 + 2), .int 0, .int 0, .int 0, .long 0, .long 0]) rfl fk_X6_15 (by decide) ⟨rfl, rfl⟩ (tyX6_ok 3 (by decide)) rfl rfl (Nat.le_of_ble_eq_true rfl) rfl (fun _ _ _ h => h.2.2) dX6_init_17 ?_
  refine c_aload 0 dX6_init_20 rfl rfl ?_
  refine c_iconst (v := -1) dX6_init_21 (by decide) ?_
  refine c_put (ci := 6) (k := 4) (T := TX6) (C := RX6) (N := 9) (fs' := [.null, .null, .ref (n1 + 1), .ref (n1 + 2), .int (-1), .int 0, .int 0, .long 0, .long 0]) rfl fk_X6_18 (by decide) ⟨rfl, rfl⟩ (tyX6_ok 4 (by decide)) rfl rfl (Nat.le_of_ble_eq_true rfl) rfl (fun _ _ _ h => h.2.2) dX6_init_22 ?_
  refine c_aload 0 dX6_init_25 rfl rfl ?_
  refine c_iconst (v := 0) dX6_init_26 (by decide) ?_
  refine c_put (ci := 6) (k := 5) (T := TX6) (C := RX6) (N := 9) (fs' := [.null, .null, .ref (n1 + 1), .ref (n1 + 2), .int (-1), .int 0, .int 0, .long 0, .long 0]) rfl fk_X6_22 (by decide) ⟨rfl, rfl⟩ (tyX6_ok 5 (by decide)) rfl rfl (Nat.le_of_ble_eq_true rfl) rfl (fun _ _ _ h => h.2.2) dX6_init_27 ?_
  refine c_aload 0 dX6_init_30 rfl rfl ?_
  refine c_iconst (v := 0) dX6_init_31 (by decide) ?_
  refine c_put (ci := 6) (k := 6) (T := TX6) (C := RX6) (N := 9) (fs' := [.null, .null, .ref (n1 + 1), .ref (n1 + 2), .int (-1), .int 0, .int 0, .long 0, .long 0]) rfl fk_X6_25 (by decide) ⟨rfl, rfl⟩ (tyX6_ok 6 (by decide)) rfl rfl (Nat.le_of_ble_eq_true rfl) rfl (fun _ _ _ h => h.2.2) dX6_init_32 ?_
  refine c_aload 0 dX6_init_35 rfl rfl ?_
  refine c_lconst (v := 0) dX6_init_36 (by decide) ?_
  refine c_put (ci := 6) (k := 7) (T := TX6) (C := RX6) (N := 9) (fs' := [.null, .null, .ref (n1 + 1), .ref (n1 + 2), .int (-1), .int 0, .int 0, .long 0, .long 0]) rfl fk_X6_28 (by decide) ⟨rfl, rfl⟩ (tyX6_ok 7 (by decide)) rfl rfl (Nat.le_of_ble_eq_true rfl) rfl (fun _ _ _ h => h.2.2) dX6_init_37 ?_
  refine c_aload 0 dX6_init_40 rfl rfl ?_
  refine c_lconst (v := 1) dX6_init_41 (by decide) ?_
  refine c_put (ci := 6) (k := 8) (T := TX6) (C := RX6) (N := 9) (fs' := [.null, .null, .ref (n1 + 1), .ref (n1 + 2), .int (-1), .int 0, .int 0, .long 0, .long 1]) rfl fk_X6_32 (by decide) ⟨rfl, rfl⟩ (tyX6_ok 8 (by decide)) rfl rfl (Nat.le_of_ble_eq_true rfl) rfl (fun _ _ _ h => h.2.2) dX6_init_42 ?_
  refine c_aload 0 dX6_init_45 rfl rfl ?_
  refine c_aload 1 dX6_init_46 rfl rfl ?_
  refine c_put (ci := 6) (k := 0) (T := TX6) (C := RX6) (N := 9) (fs' := [.ref a1, .null, .ref (n1 + 1), .ref (n1 + 2), .int (-1), .int 0, .int 0, .long 0, .long 1]) rfl fk_X6_35 (by decide) ⟨rfl, rfl⟩ (tyX6_ok 0 (by decide)) rfl rfl (Nat.le_of_ble_eq_true rfl) rfl (fun _ _ _ h => h.2.2) dX6_init_47 ?_
  refine c_aload 0 dX6_init_50 rfl rfl ?_
  refine c_aload 2 dX6_init_51 rfl rfl ?_
  refine c_put (ci := 6) (k := 1) (T := TX6) (C := RX6) (N := 9) (fs' := [.ref a1, .ref a2, .ref (n1 + 1), .ref (n1 + 2), .int (-1), .int 0, .int 0, .long 0, .long 1]) rfl fk_X6_39 (by decide) ⟨rfl, rfl⟩ (tyX6_ok 1 (by decide)) rfl rfl (Nat.le_of_ble_eq_true rfl) rfl (fun _ _ _ h => h.2.2) dX6_init_52 ?_
  exact c_ret rfl rfl rfl dX6_init_55
theorem fk_X7_9 : Cond.fieldLink RX7 9 RX7 (TX7 2).2.1 (TX7 2).2.2.1 ∈ TBL := TBL_in (tm2 (List.mem_of_getElem? (i := 48) rfl)) rfl
theorem fk_X7_15 : Cond.fieldLink RX7 15 RX7 (TX7 3).2.1 (TX7 3).2.2.1 ∈ TBL := TBL_in (tm2 (List.mem_of_getElem? (i := 49) rfl)) rfl
theorem fk_X7_18 : Cond.fieldLink RX7 18 RX7 (TX7 4).2.1 (TX7 4).2.2.1 ∈ TBL := TBL_in (tm2 (List.mem_of_getElem? (i := 50) rfl)) rfl
theorem fk_X7_21 : Cond.fieldLink RX7 21 RX7 (TX7 5).2.1 (TX7 5).2.2.1 ∈ TBL := TBL_in (tm2 (List.mem_of_getElem? (i := 51) rfl)) rfl
theorem fk_X7_25 : Cond.fieldLink RX7 25 RX7 (TX7 0).2.1 (TX7 0).2.2.1 ∈ TBL := TBL_in (tm2 (List.mem_of_getElem? (i := 46) rfl)) rfl
theorem fk_X7_29 : Cond.fieldLink RX7 29 RX7 (TX7 1).2.1 (TX7 1).2.2.1 ∈ TBL := TBL_in (tm2 (List.mem_of_getElem? (i := 47) rfl)) rfl
def esX7 (w : Wd) (n1 : Nat) (a1 : Nat) (a2 : Nat) : List va_E := [.inr (7, [.ref a1, .ref a2, .ref (n1 + 1), .ref (n1 + 2), .ref (n1 + 3), .int (-1)]), zI w 6, zI w 6, zI w 6]
def zX7 : va_E := .inr (7, [.null, .null, .null, .null, .null, .int 0])
abbrev rmX7 : Room := { frames := 1, cells := 3, slots := 18, locals := 12 }
theorem mk_X7 {l : Launch} {w : Wd} {n0 n1 : Nat} (a1 : Nat) (a2 : Nat) : MC l w yX7_init cX7_init 3 rmX7 n0 n1 [.ref a1, .ref a2] [zX7] (esX7 w n1 a1 a2) := by
  refine MC.of (own := RX7) [(0, .ref n1), (1, .ref a1), (2, .ref a2)] ⟨by decide, rfl, rfl⟩ rfl (Nat.le_of_ble_eq_true rfl) ?_
  refine CW.cv (es' := [.inr (7, [.null, .null, .null, .null, .null, .int 0])]) rfl ?_
  refine c_aload 0 dX7_init_0 rfl rfl ?_
  refine c_obj oi_X7_3 oi_in oi_co (by decide) (by decide) dX7_init_1 ?_
  refine c_aload 0 dX7_init_4 rfl rfl ?_
  refine c_bipush (v := 6) dX7_init_5 (by decide) ?_
  refine c_newa (N := 6) (k := 1) (cs' := 1) (sl' := 6) (a0 := (6, .inl (fun _ => 0))) 0 rfl aI (fun _ => rfl) (by decide) (by decide) (by decide) rfl (by decide) rfl (by decide) rfl dX7_init_7 ?_
  refine CW.cv (es' := [.inr (7, [.null, .null, .null, .null, .null, .int 0]), zI w 6]) rfl ?_
  refine c_put (ci := 7) (k := 2) (T := TX7) (C := RX7) (N := 6) (fs' := [.null, .null, .ref (n1 + 1), .null, .null, .int 0]) rfl fk_X7_9 (by decide) ⟨rfl, rfl⟩ (tyX7_ok 2 (by decide)) rfl rfl (Nat.le_of_ble_eq_true rfl) rfl (fun _ _ _ h => h.2.2) dX7_init_9 ?_
  refine c_aload 0 dX7_init_12 rfl rfl ?_
  refine c_bipush (v := 6) dX7_init_13 (by decide) ?_
  refine c_newa (N := 6) (k := 2) (cs' := 2) (sl' := 12) (a0 := (6, .inl (fun _ => 0))) 0 rfl aI (fun _ => rfl) (by decide) (by decide) (by decide) rfl (by decide) rfl (by decide) rfl dX7_init_15 ?_
  refine CW.cv (es' := [.inr (7, [.null, .null, .ref (n1 + 1), .null, .null, .int 0]), zI w 6, zI w 6]) rfl ?_
  refine c_put (ci := 7) (k := 3) (T := TX7) (C := RX7) (N := 6) (fs' := [.null, .null, .ref (n1 + 1), .ref (n1 + 2), .null, .int 0]) rfl fk_X7_15 (by decide) ⟨rfl, rfl⟩ (tyX7_ok 3 (by decide)) rfl rfl (Nat.le_of_ble_eq_true rfl) rfl (fun _ _ _ h => h.2.2) dX7_init_17 ?_
  refine c_aload 0 dX7_init_20 rfl rfl ?_
  refine c_bipush (v := 6) dX7_init_21 (by decide) ?_
  refine c_newa (N := 6) (k := 3) (cs' := 3) (sl' := 18) (a0 := (6, .inl (fun _ => 0))) 0 rfl aI (fun _ => rfl) (by decide) (by decide) (by decide) rfl (by decide) rfl (by decide) rfl dX7_init_23 ?_
  refine CW.cv (es' := [.inr (7, [.null, .null, .ref (n1 + 1), .ref (n1 + 2), .null, .int 0]), zI w 6, zI w 6, zI w 6]) rfl ?_
  refine c_put (ci := 7) (k := 4) (T := TX7) (C := RX7) (N := 6) (fs' := [.null, .null, .ref (n1 + 1), .ref (n1 + 2), .ref (n1 + 3), .int 0]) rfl fk_X7_18 (by decide) ⟨rfl, rfl⟩ (tyX7_ok 4 (by decide)) rfl rfl (Nat.le_of_ble_eq_true rfl) rfl (fun _ _ _ h => h.2.2) dX7_init_25 ?_
  refine c_aload 0 dX7_init_28 rfl rfl ?_
  refine c_iconst (v := -1) dX7_init_29 (by decide) ?_
  refine c_put (ci := 7) (k := 5) (T := TX7) (C := RX7) (N := 6) (fs' := [.null, .null, .ref (n1 + 1), .ref (n1 + 2), .ref (n1 + 3), .int (-1)]) rfl fk_X7_21 (by decide) ⟨rfl, rfl⟩ (tyX7_ok 5 (by decide)) rfl rfl (Nat.le_of_ble_eq_true rfl) rfl (fun _ _ _ h => h.2.2) dX7_init_30 ?_
  refine c_aload 0 dX7_init_33 rfl rfl ?_
  refine c_aload 1 dX7_init_34 rfl rfl ?_
  refine c_put (ci := 7) (k := 0) (T := TX7) (C := RX7) (N := 6) (fs' := [.ref a1, .null, .ref (n1 + 1), .ref (n1 + 2), .ref (n1 + 3), .int (-1)]) rfl fk_X7_25 (by decide) ⟨rfl, rfl⟩ (tyX7_ok 0 (by decide)) rfl rfl (Nat.le_of_ble_eq_true rfl) rfl (fun _ _ _ h => h.2.2) dX7_init_35 ?_
  refine c_aload 0 dX7_init_38 rfl rfl ?_
  refine c_aload 2 dX7_init_39 rfl rfl ?_
  refine c_put (ci := 7) (k := 1) (T := TX7) (C := RX7) (N := 6) (fs' := [.ref a1, .ref a2, .ref (n1 + 1), .ref (n1 + 2), .ref (n1 + 3), .int (-1)]) rfl fk_X7_29 (by decide) ⟨rfl, rfl⟩ (tyX7_ok 1 (by decide)) rfl rfl (Nat.le_of_ble_eq_true rfl) rfl (fun _ _ _ h => h.2.2) dX7_init_40 ?_
  exact c_ret rfl rfl rfl dX7_init_43
def zX4 : va_E := .inr (4, [.null, .int 0, .int 0])
def esX4 (w : Wd) (n1 : Nat) : List va_E := .inr (4, [.ref (n1 + 1), .int 0, .int 29]) :: .inl (w.2.2 5, 30, .inr (.inr (.inr (.inr (fun i => if i < 30 then some (n1 + 1 + 1 + i) else none))))) :: List.replicate 30 (zI w 32)
abbrev rmX4 : Room := { frames := 1, cells := 31, slots := 990, locals := 12 }
theorem fk_X8_12 : Cond.fieldLink RX8 12 RX8 (TX8 0).2.1 (TX8 0).2.2.1 ∈ TBL := TBL_in (tm2 (List.mem_of_getElem? (i := 99) rfl)) rfl
theorem fk_X8_16 : Cond.fieldLink RX8 16 RX8 (TX8 1).2.1 (TX8 1).2.2.1 ∈ TBL := TBL_in (tm2 (List.mem_of_getElem? (i := 100) rfl)) rfl
theorem fk_X8_22 : Cond.fieldLink RX8 22 RX8 (TX8 2).2.1 (TX8 2).2.2.1 ∈ TBL := TBL_in (tm2 (List.mem_of_getElem? (i := 101) rfl)) rfl
theorem fk_X8_26 : Cond.fieldLink RX8 26 RX8 (TX8 3).2.1 (TX8 3).2.2.1 ∈ TBL := TBL_in (tm2 (List.mem_of_getElem? (i := 102) rfl)) rfl
theorem fk_X8_31 : Cond.fieldLink RX8 31 RX8 (TX8 4).2.1 (TX8 4).2.2.1 ∈ TBL := TBL_in (tm2 (List.mem_of_getElem? (i := 103) rfl)) rfl
theorem fk_X8_38 : Cond.fieldLink RX8 38 RX8 (TX8 5).2.1 (TX8 5).2.2.1 ∈ TBL := TBL_in (tm2 (List.mem_of_getElem? (i := 104) rfl)) rfl
theorem fk_X8_47 : Cond.fieldLink RX8 47 RX8 (TX8 6).2.1 (TX8 6).2.2.1 ∈ TBL := TBL_in (tm2 (List.mem_of_getElem? (i := 105) rfl)) rfl
theorem fk_X8_56 : Cond.fieldLink RX8 56 RX8 (TX8 7).2.1 (TX8 7).2.2.1 ∈ TBL := TBL_in (tm2 (List.mem_of_getElem? (i := 106) rfl)) rfl
theorem fk_X8_63 : Cond.fieldLink RX8 63 RX8 (TX8 8).2.1 (TX8 8).2.2.1 ∈ TBL := TBL_in (tm2 (List.mem_of_getElem? (i := 107) rfl)) rfl
theorem fk_X8_70 : Cond.fieldLink RX8 70 RX8 (TX8 9).2.1 (TX8 9).2.2.1 ∈ TBL := TBL_in (tm2 (List.mem_of_getElem? (i := 108) rfl)) rfl
theorem hzX0 : ∀ j, j < 17 → defaultValue (tyX0 j) = vp_V [.int 0, .null, .null, .null, .null, .int 0, .null, .null, .null, .null, .null, .null, .int 0, .int 0, .null, .int 0, .int 0] j := by decide +kernel
theorem hzX1 : ∀ j, j < 4 → defaultValue (tyX1 j) = vp_V [.null, .null, .null, .null] j := by decide +kernel
theorem hzX2 : ∀ j, j < 13 → defaultValue (tyX2 j) = vp_V [.null, .int 0, .null, .null, .null, .int 0, .int 0, .int 0, .int 0, .int 0, .int 0, .int 0, .int 0] j := by decide +kernel
theorem hzX3 : ∀ j, j < 7 → defaultValue (tyX3 j) = vp_V [.null, .int 0, .null, .null, .null, .null, .int 0] j := by decide +kernel
theorem hzX4 : ∀ j, j < 3 → defaultValue (tyX4 j) = vp_V [.null, .int 0, .int 0] j := by decide +kernel
theorem hzX5 : ∀ j, j < 7 → defaultValue (tyX5 j) = vp_V [.null, .null, .null, .null, .null, .null, .int 0] j := by decide +kernel
theorem hzX6 : ∀ j, j < 9 → defaultValue (tyX6 j) = vp_V [.null, .null, .null, .null, .int 0, .int 0, .int 0, .long 0, .long 0] j := by decide +kernel
theorem hzX7 : ∀ j, j < 6 → defaultValue (tyX7 j) = vp_V [.null, .null, .null, .null, .null, .int 0] j := by decide +kernel
theorem hzX8 : ∀ j, j < 10 → defaultValue (tyX8 j) = vp_V [.null, .null, .null, .null, .null, .null, .null, .null, .null, .null] j := by decide +kernel
theorem hzX9 : ∀ j, j < 49 → defaultValue (tyX9 j) = vp_V [.null, .null, .null, .int 0, .int 0, .int 0, .null, .null, .null, .null, .null, .null, .null, .null, .int 0, .int 0, .int 0, .int 0, .int 0, .int 0, .int 0, .int 0, .int 0, .null, .int 0, .null, .null, .int 0, .int 0, .int 0, .null, .null, .null, .null, .null, .int 0, .null, .null, .null, .null, .null, .null, .null, .null, .null, .null, .null, .null, .null] j := by decide +kernel
def zX8 : va_E := .inr (8, [.null, .null, .null, .null, .null, .null, .null, .null, .null, .null])
def esA (w : Wd) (n1 : Nat) : List va_E := esX0 w (n1 + 1) ++ esX0 w (n1 + 13) ++ esX4 w (n1 + 25) ++ esX4 w (n1 + 57)
def esB (w : Wd) (n1 : Nat) : List va_E := esX2 w (n1 + 90) ++ esX1 w (n1 + 95) (n1 + 1) (n1 + 89) ++ esX6 w (n1 + 98) (n1 + 1) (n1 + 95) ++ esX5 w (n1 + 101) (n1 + 1) (n1 + 95) ++ esX7 w (n1 + 106) (n1 + 1) (n1 + 95)
def fX8 (n1 : Nat) : Nat → Option Nat := va_up (va_up (va_up (va_up (fun _ => none) 0 (some (n1 + 110))) 1 (some (n1 + 116))) 2 (some (n1 + 122))) 3 (some (n1 + 128))
def esX8 (w : Wd) (n1 : Nat) : List va_E := .inr (8, [.ref (n1 + 1), .ref (n1 + 13), .ref (n1 + 25), .ref (n1 + 57), .ref (n1 + 89), .ref (n1 + 90), .ref (n1 + 95), .ref (n1 + 98), .ref (n1 + 101), .ref (n1 + 106)]) :: (esA w n1 ++ (scrE w (fX8 n1) :: ((((esB w n1 ++ esX3 w (n1 + 110)) ++ esX3 w (n1 + 116)) ++ esX3 w (n1 + 122)) ++ esX3 w (n1 + 128))))
abbrev rmX8 : Room := { frames := 2, cells := 133, slots := 6080, locals := 64 }
theorem at_mid {x y : va_E} {A B : List va_E} {n : Nat} (hA : A.length = n) : (x :: (A ++ (y :: B)))[n + 1]? = some y := by
  subst hA
  show (A ++ (y :: B))[A.length]? = some y
  rw [List.getElem?_append_right (Nat.le_refl _), Nat.sub_self]
  rfl
theorem set_mid {x y z : va_E} {A B : List va_E} {n : Nat} (hA : A.length = n) : (x :: (A ++ (y :: B))).set (n + 1) z = x :: (A ++ (z :: B)) := by
  subst hA
  show x :: ((A ++ (y :: B)).set A.length z) = _
  rw [List.set_append_right _ _ (Nat.le_refl _), Nat.sub_self]
  rfl
theorem lp_X8 {l : Launch} {w : Wd} {n0 n1 m cs sl cs' sl' : Nat} {Qf : List Frame → Array Value → State → State → Prop} {fs : List Value} {A B : List va_E} {f : Nat → Option Nat} {i i' : Int32} (hA : A.length = 88) (hB : B.length = m) (hfs : fs[4]? = some (.ref (n1 + 89))) (hi : ¬ (4 : Int32) ≤ i) (hin : vp_in i 4) (hi' : i + Int32.ofInt 1 = i') (hc : cs + 6 = cs') (hc2 : cs' ≤ 133) (hs : sl + 411 = sl') (hs2 : sl' ≤ 6080)
    (kk : CW l w RX8 cX8_init 2 rmX8 n0 n1 Qf XI cs' sl' 145 [(1, .int i'), (0, .ref n1)] [] (.inr (8, fs) :: (A ++ (scrE w (va_up f i.toNatClampNeg (some (n1 + (90 + m)))) :: (B ++ esX3 w (n1 + (90 + m))))))) :
    CW l w RX8 cX8_init 2 rmX8 n0 n1 Qf XI cs sl 145 [(1, .int i), (0, .ref n1)] [] (.inr (8, fs) :: (A ++ (scrE w f :: B))) := by
  subst hc; subst hs
  refine c_iload 0 dX8_init_145 rfl rfl ?_
  refine c_aload 1 dX8_init_146 rfl rfl ?_
  refine c_get (ci := 8) (k := 4) (T := TX8) (C := RX8) (N := 10) rfl fk_X8_31 (by decide) rfl hfs dX8_init_147 ?_
  refine c_alen (t := 4) (j := 89) (x := (4, .inr (.inr (.inr (.inr f))))) (ty := .object "CandleEnds$Script") (N := 4) (v := 4) (at_mid hA) rfl rfl dX8_init_150 ?_
  refine c_geF (tgt := 173) dX8_init_151 (by decide) hi ?_
  refine c_aload 1 dX8_init_154 rfl rfl ?_
  refine c_get (ci := 8) (k := 4) (T := TX8) (C := RX8) (N := 10) rfl fk_X8_31 (by decide) rfl hfs dX8_init_155 ?_
  refine c_iload 0 dX8_init_158 rfl rfl ?_
  refine c_new (ci := 3) (N := 7) (k := 90 + m) (cs' := cs + 1) (sl' := sl + 7) (T := TX3) (C := RX3) (fs := [.null, .int 0, .null, .null, .null, .null, .int 0]) tyX3 rfl tyX3_ok lc_X8_29 ni_X3 cy_X3_init.2.1 hzX3 rfl (by show _ ≤ 133; omega) rfl (by show _ ≤ 6080; omega) (by simp [hA, hB]; omega) dX8_init_159 ?_
  refine CW.cv (es' := (.inr (8, fs) :: (A ++ (scrE w f :: B))) ++ [zX3]) rfl ?_
  refine c_dup dX8_init_162 ?_
  refine c_init (k := 90 + m) (rm := rmX3) (as := []) (st := [.ref (n1 + (90 + m)), .int i, .ref (n1 + 89)]) (pre := .inr (8, fs) :: (A ++ (scrE w f :: B))) (es0 := [zX3]) (es1 := esX3 w (n1 + (90 + m))) (cs' := cs + 6) (sl' := sl + 411) mk_X3 cy_X3_init in_X3_init rfl ml_X8_74 rfl rfl (by simp [hA, hB]; omega) ⟨by decide, by decide⟩ rfl (by show _ ≤ 133; omega) rfl (by show _ ≤ 6080; omega) (by simp [Value.category]) dX8_init_163 rfl ?_
  refine CW.cv (es' := .inr (8, fs) :: (A ++ (scrE w f :: (B ++ esX3 w (n1 + (90 + m)))))) (by simp) ?_
  have hq : (.inr (8, fs) :: (A ++ (scrE w f :: (B ++ esX3 w (n1 + (90 + m))))) : List va_E)[90 + m]? = (esX3 w (n1 + (90 + m)))[0]? := by
    subst hB
    rw [show 90 + B.length = (88 + (B.length + 1)) + 1 by omega]
    show (A ++ (scrE w f :: (B ++ esX3 w _)))[88 + (B.length + 1)]? = _
    rw [List.getElem?_append_right (by omega), hA, show 88 + (B.length + 1) - 88 = B.length + 1 by omega]
    show (B ++ esX3 w _)[B.length]? = _
    rw [List.getElem?_append_right (by omega), Nat.sub_self]
  refine c_aast (j := 89) (q := 90 + m) (N := 4) (ci := 3) (T := TX3) (f := f) (f' := va_up f i.toNatClampNeg (some (n1 + (90 + m)))) (vs := [.ref (n1 + (90 + m) + 1), .int 0, .ref (n1 + (90 + m) + 2), .ref (n1 + (90 + m) + 3), .ref (n1 + (90 + m) + 4), .ref (n1 + (90 + m) + 5), .int 0]) (es' := .inr (8, fs) :: (A ++ (scrE w (va_up f i.toNatClampNeg (some (n1 + (90 + m)))) :: (B ++ esX3 w (n1 + (90 + m)))))) (at_mid hA) (hq.trans rfl) rfl hin rfl (set_mid hA) dX8_init_166 ?_
  refine c_iinc (lv' := [(1, .int i'), (0, .ref n1)]) 0 dX8_init_167 rfl hi' (by decide) rfl ?_
  refine c_goto (tgt := 145) dX8_init_170 (by decide) ?_
  exact kk
set_option maxHeartbeats 4000000 in
set_option maxRecDepth 20000 in
theorem mk_X8 {l : Launch} {w : Wd} {n0 n1 : Nat} (h01 : n0 ≤ n1) (h4 : ∀ n, n0 ≤ n → MC l w yX4_init cX4_init 1 rmX4 n0 n [] [zX4] (esX4 w n)) : MC l w yX8_init cX8_init 2 rmX8 n0 n1 [] [zX8] (esX8 w n1) := by
  refine MC.of (own := RX8) [(0, .ref n1)] ⟨by decide, rfl, rfl⟩ rfl (Nat.le_of_ble_eq_true rfl) ?_
  refine CW.cv (es' := (.inr (8, [.null, .null, .null, .null, .null, .null, .null, .null, .null, .null]) :: [])) rfl ?_
  refine c_aload 0 dX8_init_0 rfl rfl ?_
  refine c_obj oi_X8_3 oi_in oi_co (by decide) (by decide) dX8_init_1 ?_
  refine c_aload 0 dX8_init_4 rfl rfl ?_
  refine c_new (ci := 0) (N := 17) (k := 1) (cs' := 1) (sl' := 17) (T := TX0) (C := RX0) (fs := [.int 0, .null, .null, .null, .null, .int 0, .null, .null, .null, .null, .null, .null, .int 0, .int 0, .null, .int 0, .int 0]) tyX0 rfl tyX0_ok lc_X8_9 ni_X0 cy_X0_init.2.1 hzX0 rfl (by decide) rfl (by decide) rfl dX8_init_5 ?_
  refine CW.cv (es' := (.inr (8, [.null, .null, .null, .null, .null, .null, .null, .null, .null, .null]) :: ([zX0]))) rfl ?_
  refine c_dup dX8_init_8 ?_
  refine c_init (k := 1) (rm := rmX0) (as := []) (st := [.ref (n1 + 1), .ref n1]) (pre := (.inr (8, [.null, .null, .null, .null, .null, .null, .null, .null, .null, .null]) :: [])) (es0 := [zX0]) (es1 := esX0 w (n1 + 1)) (cs' := 12) (sl' := 511) (mk_X0) cy_X0_init in_X0_init rfl ml_X8_11 rfl rfl rfl ⟨by decide, by decide⟩ rfl (by decide) rfl (by decide) (by show _ ≤ 8; simp [Value.category]) dX8_init_9 rfl ?_
  refine CW.cv (es' := (.inr (8, [.null, .null, .null, .null, .null, .null, .null, .null, .null, .null]) :: (esX0 w (n1 + 1)))) rfl ?_
  refine c_put (ci := 8) (k := 0) (T := TX8) (C := RX8) (N := 10) (fs' := [.ref (n1 + 1), .null, .null, .null, .null, .null, .null, .null, .null, .null]) rfl fk_X8_12 (by decide) ⟨rfl, rfl⟩ (tyX8_ok 0 (by decide)) rfl rfl (Nat.le_of_ble_eq_true rfl) rfl (fun _ _ _ h => h.2.2) dX8_init_12 ?_
  refine c_aload 0 dX8_init_15 rfl rfl ?_
  refine c_new (ci := 0) (N := 17) (k := 13) (cs' := 13) (sl' := 528) (T := TX0) (C := RX0) (fs := [.int 0, .null, .null, .null, .null, .int 0, .null, .null, .null, .null, .null, .null, .int 0, .int 0, .null, .int 0, .int 0]) tyX0 rfl tyX0_ok lc_X8_9 ni_X0 cy_X0_init.2.1 hzX0 rfl (by decide) rfl (by decide) rfl dX8_init_16 ?_
  refine CW.cv (es' := (.inr (8, [.ref (n1 + 1), .null, .null, .null, .null, .null, .null, .null, .null, .null]) :: (esX0 w (n1 + 1) ++ [zX0]))) rfl ?_
  refine c_dup dX8_init_19 ?_
  refine c_init (k := 13) (rm := rmX0) (as := []) (st := [.ref (n1 + 13), .ref n1]) (pre := (.inr (8, [.ref (n1 + 1), .null, .null, .null, .null, .null, .null, .null, .null, .null]) :: (esX0 w (n1 + 1)))) (es0 := [zX0]) (es1 := esX0 w (n1 + 13)) (cs' := 24) (sl' := 1022) (mk_X0) cy_X0_init in_X0_init rfl ml_X8_11 rfl rfl rfl ⟨by decide, by decide⟩ rfl (by decide) rfl (by decide) (by show _ ≤ 8; simp [Value.category]) dX8_init_20 rfl ?_
  refine CW.cv (es' := (.inr (8, [.ref (n1 + 1), .null, .null, .null, .null, .null, .null, .null, .null, .null]) :: (esX0 w (n1 + 1) ++ esX0 w (n1 + 13)))) rfl ?_
  refine c_put (ci := 8) (k := 1) (T := TX8) (C := RX8) (N := 10) (fs' := [.ref (n1 + 1), .ref (n1 + 13), .null, .null, .null, .null, .null, .null, .null, .null]) rfl fk_X8_16 (by decide) ⟨rfl, rfl⟩ (tyX8_ok 1 (by decide)) rfl rfl (Nat.le_of_ble_eq_true rfl) rfl (fun _ _ _ h => h.2.2) dX8_init_23 ?_
  refine c_aload 0 dX8_init_26 rfl rfl ?_
  refine c_new (ci := 4) (N := 3) (k := 25) (cs' := 25) (sl' := 1025) (T := TX4) (C := RX4) (fs := [.null, .int 0, .int 0]) tyX4 rfl tyX4_ok lc_X8_19 ni_X4 cy_X4_init.2.1 hzX4 rfl (by decide) rfl (by decide) rfl dX8_init_27 ?_
  refine CW.cv (es' := (.inr (8, [.ref (n1 + 1), .ref (n1 + 13), .null, .null, .null, .null, .null, .null, .null, .null]) :: (esX0 w (n1 + 1) ++ esX0 w (n1 + 13) ++ [zX4]))) rfl ?_
  refine c_dup dX8_init_30 ?_
  refine c_init (k := 25) (rm := rmX4) (as := []) (st := [.ref (n1 + 25), .ref n1]) (pre := (.inr (8, [.ref (n1 + 1), .ref (n1 + 13), .null, .null, .null, .null, .null, .null, .null, .null]) :: (esX0 w (n1 + 1) ++ esX0 w (n1 + 13)))) (es0 := [zX4]) (es1 := esX4 w (n1 + 25)) (cs' := 56) (sl' := 2015) (h4 (n1 + 25) (by omega)) cy_X4_init in_X4_init rfl ml_X8_21 rfl rfl rfl ⟨by decide, by decide⟩ rfl (by decide) rfl (by decide) (by show _ ≤ 8; simp [Value.category]) dX8_init_31 rfl ?_
  refine CW.cv (es' := (.inr (8, [.ref (n1 + 1), .ref (n1 + 13), .null, .null, .null, .null, .null, .null, .null, .null]) :: (esX0 w (n1 + 1) ++ esX0 w (n1 + 13) ++ esX4 w (n1 + 25)))) rfl ?_
  refine c_put (ci := 8) (k := 2) (T := TX8) (C := RX8) (N := 10) (fs' := [.ref (n1 + 1), .ref (n1 + 13), .ref (n1 + 25), .null, .null, .null, .null, .null, .null, .null]) rfl fk_X8_22 (by decide) ⟨rfl, rfl⟩ (tyX8_ok 2 (by decide)) rfl rfl (Nat.le_of_ble_eq_true rfl) rfl (fun _ _ _ h => h.2.2) dX8_init_34 ?_
  refine c_aload 0 dX8_init_37 rfl rfl ?_
  refine c_new (ci := 4) (N := 3) (k := 57) (cs' := 57) (sl' := 2018) (T := TX4) (C := RX4) (fs := [.null, .int 0, .int 0]) tyX4 rfl tyX4_ok lc_X8_19 ni_X4 cy_X4_init.2.1 hzX4 rfl (by decide) rfl (by decide) rfl dX8_init_38 ?_
  refine CW.cv (es' := (.inr (8, [.ref (n1 + 1), .ref (n1 + 13), .ref (n1 + 25), .null, .null, .null, .null, .null, .null, .null]) :: (esX0 w (n1 + 1) ++ esX0 w (n1 + 13) ++ esX4 w (n1 + 25) ++ [zX4]))) rfl ?_
  refine c_dup dX8_init_41 ?_
  refine c_init (k := 57) (rm := rmX4) (as := []) (st := [.ref (n1 + 57), .ref n1]) (pre := (.inr (8, [.ref (n1 + 1), .ref (n1 + 13), .ref (n1 + 25), .null, .null, .null, .null, .null, .null, .null]) :: (esX0 w (n1 + 1) ++ esX0 w (n1 + 13) ++ esX4 w (n1 + 25)))) (es0 := [zX4]) (es1 := esX4 w (n1 + 57)) (cs' := 88) (sl' := 3008) (h4 (n1 + 57) (by omega)) cy_X4_init in_X4_init rfl ml_X8_21 rfl rfl rfl ⟨by decide, by decide⟩ rfl (by decide) rfl (by decide) (by show _ ≤ 8; simp [Value.category]) dX8_init_42 rfl ?_
  refine CW.cv (es' := (.inr (8, [.ref (n1 + 1), .ref (n1 + 13), .ref (n1 + 25), .null, .null, .null, .null, .null, .null, .null]) :: (esX0 w (n1 + 1) ++ esX0 w (n1 + 13) ++ esX4 w (n1 + 25) ++ esX4 w (n1 + 57)))) rfl ?_
  refine c_put (ci := 8) (k := 3) (T := TX8) (C := RX8) (N := 10) (fs' := [.ref (n1 + 1), .ref (n1 + 13), .ref (n1 + 25), .ref (n1 + 57), .null, .null, .null, .null, .null, .null]) rfl fk_X8_26 (by decide) ⟨rfl, rfl⟩ (tyX8_ok 3 (by decide)) rfl rfl (Nat.le_of_ble_eq_true rfl) rfl (fun _ _ _ h => h.2.2) dX8_init_45 ?_
  refine c_aload 0 dX8_init_48 rfl rfl ?_
  refine c_iconst (v := 4) dX8_init_49 (by decide) ?_
  refine c_anew (N := 4) (k := 89) (cs' := 89) (sl' := 3012) lc_X8_29 (by decide) (by decide) (by decide) rfl (by decide) rfl (by decide) rfl dX8_init_50 ?_
  refine CW.cv (es' := (.inr (8, [.ref (n1 + 1), .ref (n1 + 13), .ref (n1 + 25), .ref (n1 + 57), .null, .null, .null, .null, .null, .null]) :: (esX0 w (n1 + 1) ++ esX0 w (n1 + 13) ++ esX4 w (n1 + 25) ++ esX4 w (n1 + 57) ++ [scrE w (fun _ => none)]))) rfl ?_
  refine c_put (ci := 8) (k := 4) (T := TX8) (C := RX8) (N := 10) (fs' := [.ref (n1 + 1), .ref (n1 + 13), .ref (n1 + 25), .ref (n1 + 57), .ref (n1 + 89), .null, .null, .null, .null, .null]) rfl fk_X8_31 (by decide) ⟨rfl, rfl⟩ (tyX8_ok 4 (by decide)) rfl rfl (Nat.le_of_ble_eq_true rfl) rfl (fun _ _ _ h => h.2.2) dX8_init_53 ?_
  refine c_aload 0 dX8_init_56 rfl rfl ?_
  refine c_new (ci := 2) (N := 13) (k := 90) (cs' := 90) (sl' := 3025) (T := TX2) (C := RX2) (fs := [.null, .int 0, .null, .null, .null, .int 0, .int 0, .int 0, .int 0, .int 0, .int 0, .int 0, .int 0]) tyX2 rfl tyX2_ok lc_X8_35 ni_X2 cy_X2_init.2.1 hzX2 rfl (by decide) rfl (by decide) rfl dX8_init_57 ?_
  refine CW.cv (es' := (.inr (8, [.ref (n1 + 1), .ref (n1 + 13), .ref (n1 + 25), .ref (n1 + 57), .ref (n1 + 89), .null, .null, .null, .null, .null]) :: (esX0 w (n1 + 1) ++ esX0 w (n1 + 13) ++ esX4 w (n1 + 25) ++ esX4 w (n1 + 57) ++ [scrE w (fun _ => none)] ++ [zX2]))) rfl ?_
  refine c_dup dX8_init_60 ?_
  refine c_init (k := 90) (rm := rmX2) (as := []) (st := [.ref (n1 + 90), .ref n1]) (pre := (.inr (8, [.ref (n1 + 1), .ref (n1 + 13), .ref (n1 + 25), .ref (n1 + 57), .ref (n1 + 89), .null, .null, .null, .null, .null]) :: (esX0 w (n1 + 1) ++ esX0 w (n1 + 13) ++ esX4 w (n1 + 25) ++ esX4 w (n1 + 57) ++ [scrE w (fun _ => none)]))) (es0 := [zX2]) (es1 := esX2 w (n1 + 90)) (cs' := 94) (sl' := 4228) (mk_X2) cy_X2_init in_X2_init rfl ml_X8_37 rfl rfl rfl ⟨by decide, by decide⟩ rfl (by decide) rfl (by decide) (by show _ ≤ 8; simp [Value.category]) dX8_init_61 rfl ?_
  refine CW.cv (es' := (.inr (8, [.ref (n1 + 1), .ref (n1 + 13), .ref (n1 + 25), .ref (n1 + 57), .ref (n1 + 89), .null, .null, .null, .null, .null]) :: (esX0 w (n1 + 1) ++ esX0 w (n1 + 13) ++ esX4 w (n1 + 25) ++ esX4 w (n1 + 57) ++ [scrE w (fun _ => none)] ++ esX2 w (n1 + 90)))) rfl ?_
  refine c_put (ci := 8) (k := 5) (T := TX8) (C := RX8) (N := 10) (fs' := [.ref (n1 + 1), .ref (n1 + 13), .ref (n1 + 25), .ref (n1 + 57), .ref (n1 + 89), .ref (n1 + 90), .null, .null, .null, .null]) rfl fk_X8_38 (by decide) ⟨rfl, rfl⟩ (tyX8_ok 5 (by decide)) rfl rfl (Nat.le_of_ble_eq_true rfl) rfl (fun _ _ _ h => h.2.2) dX8_init_64 ?_
  refine c_aload 0 dX8_init_67 rfl rfl ?_
  refine c_new (ci := 1) (N := 4) (k := 95) (cs' := 95) (sl' := 4232) (T := TX1) (C := RX1) (fs := [.null, .null, .null, .null]) tyX1 rfl tyX1_ok lc_X8_42 ni_X1 cy_X1_init.2.1 hzX1 rfl (by decide) rfl (by decide) rfl dX8_init_68 ?_
  refine CW.cv (es' := (.inr (8, [.ref (n1 + 1), .ref (n1 + 13), .ref (n1 + 25), .ref (n1 + 57), .ref (n1 + 89), .ref (n1 + 90), .null, .null, .null, .null]) :: (esX0 w (n1 + 1) ++ esX0 w (n1 + 13) ++ esX4 w (n1 + 25) ++ esX4 w (n1 + 57) ++ [scrE w (fun _ => none)] ++ esX2 w (n1 + 90) ++ [zX1]))) rfl ?_
  refine c_dup dX8_init_71 ?_
  refine c_aload 0 dX8_init_72 rfl rfl ?_
  refine c_get (ci := 8) (k := 0) (T := TX8) (C := RX8) (N := 10) rfl fk_X8_12 (by decide) rfl rfl dX8_init_73 ?_
  refine c_aload 0 dX8_init_76 rfl rfl ?_
  refine c_get (ci := 8) (k := 4) (T := TX8) (C := RX8) (N := 10) rfl fk_X8_31 (by decide) rfl rfl dX8_init_77 ?_
  refine c_init (k := 95) (rm := rmX1) (as := [.ref (n1 + 1), .ref (n1 + 89)]) (st := [.ref (n1 + 95), .ref n1]) (pre := (.inr (8, [.ref (n1 + 1), .ref (n1 + 13), .ref (n1 + 25), .ref (n1 + 57), .ref (n1 + 89), .ref (n1 + 90), .null, .null, .null, .null]) :: (esX0 w (n1 + 1) ++ esX0 w (n1 + 13) ++ esX4 w (n1 + 25) ++ esX4 w (n1 + 57) ++ [scrE w (fun _ => none)] ++ esX2 w (n1 + 90)))) (es0 := [zX1]) (es1 := esX1 w (n1 + 95) (n1 + 1) (n1 + 89)) (cs' := 97) (sl' := 4260) (mk_X1 _ _) cy_X1_init in_X1_init rfl ml_X8_44 rfl rfl rfl ⟨by decide, by decide⟩ rfl (by decide) rfl (by decide) (by show _ ≤ 8; simp [Value.category]) dX8_init_80 rfl ?_
  refine CW.cv (es' := (.inr (8, [.ref (n1 + 1), .ref (n1 + 13), .ref (n1 + 25), .ref (n1 + 57), .ref (n1 + 89), .ref (n1 + 90), .null, .null, .null, .null]) :: (esX0 w (n1 + 1) ++ esX0 w (n1 + 13) ++ esX4 w (n1 + 25) ++ esX4 w (n1 + 57) ++ [scrE w (fun _ => none)] ++ esX2 w (n1 + 90) ++ esX1 w (n1 + 95) (n1 + 1) (n1 + 89)))) rfl ?_
  refine c_put (ci := 8) (k := 6) (T := TX8) (C := RX8) (N := 10) (fs' := [.ref (n1 + 1), .ref (n1 + 13), .ref (n1 + 25), .ref (n1 + 57), .ref (n1 + 89), .ref (n1 + 90), .ref (n1 + 95), .null, .null, .null]) rfl fk_X8_47 (by decide) ⟨rfl, rfl⟩ (tyX8_ok 6 (by decide)) rfl rfl (Nat.le_of_ble_eq_true rfl) rfl (fun _ _ _ h => h.2.2) dX8_init_83 ?_
  refine c_aload 0 dX8_init_86 rfl rfl ?_
  refine c_new (ci := 6) (N := 9) (k := 98) (cs' := 98) (sl' := 4269) (T := TX6) (C := RX6) (fs := [.null, .null, .null, .null, .int 0, .int 0, .int 0, .long 0, .long 0]) tyX6 rfl tyX6_ok lc_X8_51 ni_X6 cy_X6_init.2.1 hzX6 rfl (by decide) rfl (by decide) rfl dX8_init_87 ?_
  refine CW.cv (es' := (.inr (8, [.ref (n1 + 1), .ref (n1 + 13), .ref (n1 + 25), .ref (n1 + 57), .ref (n1 + 89), .ref (n1 + 90), .ref (n1 + 95), .null, .null, .null]) :: (esX0 w (n1 + 1) ++ esX0 w (n1 + 13) ++ esX4 w (n1 + 25) ++ esX4 w (n1 + 57) ++ [scrE w (fun _ => none)] ++ esX2 w (n1 + 90) ++ esX1 w (n1 + 95) (n1 + 1) (n1 + 89) ++ [zX6]))) rfl ?_
  refine c_dup dX8_init_90 ?_
  refine c_aload 0 dX8_init_91 rfl rfl ?_
  refine c_get (ci := 8) (k := 0) (T := TX8) (C := RX8) (N := 10) rfl fk_X8_12 (by decide) rfl rfl dX8_init_92 ?_
  refine c_aload 0 dX8_init_95 rfl rfl ?_
  refine c_get (ci := 8) (k := 6) (T := TX8) (C := RX8) (N := 10) rfl fk_X8_47 (by decide) rfl rfl dX8_init_96 ?_
  refine c_init (k := 98) (rm := rmX6) (as := [.ref (n1 + 1), .ref (n1 + 95)]) (st := [.ref (n1 + 98), .ref n1]) (pre := (.inr (8, [.ref (n1 + 1), .ref (n1 + 13), .ref (n1 + 25), .ref (n1 + 57), .ref (n1 + 89), .ref (n1 + 90), .ref (n1 + 95), .null, .null, .null]) :: (esX0 w (n1 + 1) ++ esX0 w (n1 + 13) ++ esX4 w (n1 + 25) ++ esX4 w (n1 + 57) ++ [scrE w (fun _ => none)] ++ esX2 w (n1 + 90) ++ esX1 w (n1 + 95) (n1 + 1) (n1 + 89)))) (es0 := [zX6]) (es1 := esX6 w (n1 + 98) (n1 + 1) (n1 + 95)) (cs' := 100) (sl' := 4293) (mk_X6 _ _) cy_X6_init in_X6_init rfl ml_X8_53 rfl rfl rfl ⟨by decide, by decide⟩ rfl (by decide) rfl (by decide) (by show _ ≤ 8; simp [Value.category]) dX8_init_99 rfl ?_
  refine CW.cv (es' := (.inr (8, [.ref (n1 + 1), .ref (n1 + 13), .ref (n1 + 25), .ref (n1 + 57), .ref (n1 + 89), .ref (n1 + 90), .ref (n1 + 95), .null, .null, .null]) :: (esX0 w (n1 + 1) ++ esX0 w (n1 + 13) ++ esX4 w (n1 + 25) ++ esX4 w (n1 + 57) ++ [scrE w (fun _ => none)] ++ esX2 w (n1 + 90) ++ esX1 w (n1 + 95) (n1 + 1) (n1 + 89) ++ esX6 w (n1 + 98) (n1 + 1) (n1 + 95)))) rfl ?_
  refine c_put (ci := 8) (k := 7) (T := TX8) (C := RX8) (N := 10) (fs' := [.ref (n1 + 1), .ref (n1 + 13), .ref (n1 + 25), .ref (n1 + 57), .ref (n1 + 89), .ref (n1 + 90), .ref (n1 + 95), .ref (n1 + 98), .null, .null]) rfl fk_X8_56 (by decide) ⟨rfl, rfl⟩ (tyX8_ok 7 (by decide)) rfl rfl (Nat.le_of_ble_eq_true rfl) rfl (fun _ _ _ h => h.2.2) dX8_init_102 ?_
  refine c_aload 0 dX8_init_105 rfl rfl ?_
  refine c_new (ci := 5) (N := 7) (k := 101) (cs' := 101) (sl' := 4300) (T := TX5) (C := RX5) (fs := [.null, .null, .null, .null, .null, .null, .int 0]) tyX5 rfl tyX5_ok lc_X8_60 ni_X5 cy_X5_init.2.1 hzX5 rfl (by decide) rfl (by decide) rfl dX8_init_106 ?_
  refine CW.cv (es' := (.inr (8, [.ref (n1 + 1), .ref (n1 + 13), .ref (n1 + 25), .ref (n1 + 57), .ref (n1 + 89), .ref (n1 + 90), .ref (n1 + 95), .ref (n1 + 98), .null, .null]) :: (esX0 w (n1 + 1) ++ esX0 w (n1 + 13) ++ esX4 w (n1 + 25) ++ esX4 w (n1 + 57) ++ [scrE w (fun _ => none)] ++ esX2 w (n1 + 90) ++ esX1 w (n1 + 95) (n1 + 1) (n1 + 89) ++ esX6 w (n1 + 98) (n1 + 1) (n1 + 95) ++ [zX5]))) rfl ?_
  refine c_dup dX8_init_109 ?_
  refine c_aload 0 dX8_init_110 rfl rfl ?_
  refine c_get (ci := 8) (k := 0) (T := TX8) (C := RX8) (N := 10) rfl fk_X8_12 (by decide) rfl rfl dX8_init_111 ?_
  refine c_aload 0 dX8_init_114 rfl rfl ?_
  refine c_get (ci := 8) (k := 6) (T := TX8) (C := RX8) (N := 10) rfl fk_X8_47 (by decide) rfl rfl dX8_init_115 ?_
  refine c_init (k := 101) (rm := rmX5) (as := [.ref (n1 + 1), .ref (n1 + 95)]) (st := [.ref (n1 + 101), .ref n1]) (pre := (.inr (8, [.ref (n1 + 1), .ref (n1 + 13), .ref (n1 + 25), .ref (n1 + 57), .ref (n1 + 89), .ref (n1 + 90), .ref (n1 + 95), .ref (n1 + 98), .null, .null]) :: (esX0 w (n1 + 1) ++ esX0 w (n1 + 13) ++ esX4 w (n1 + 25) ++ esX4 w (n1 + 57) ++ [scrE w (fun _ => none)] ++ esX2 w (n1 + 90) ++ esX1 w (n1 + 95) (n1 + 1) (n1 + 89) ++ esX6 w (n1 + 98) (n1 + 1) (n1 + 95)))) (es0 := [zX5]) (es1 := esX5 w (n1 + 101) (n1 + 1) (n1 + 95)) (cs' := 105) (sl' := 4412) (mk_X5 _ _) cy_X5_init in_X5_init rfl ml_X8_62 rfl rfl rfl ⟨by decide, by decide⟩ rfl (by decide) rfl (by decide) (by show _ ≤ 8; simp [Value.category]) dX8_init_118 rfl ?_
  refine CW.cv (es' := (.inr (8, [.ref (n1 + 1), .ref (n1 + 13), .ref (n1 + 25), .ref (n1 + 57), .ref (n1 + 89), .ref (n1 + 90), .ref (n1 + 95), .ref (n1 + 98), .null, .null]) :: (esX0 w (n1 + 1) ++ esX0 w (n1 + 13) ++ esX4 w (n1 + 25) ++ esX4 w (n1 + 57) ++ [scrE w (fun _ => none)] ++ esX2 w (n1 + 90) ++ esX1 w (n1 + 95) (n1 + 1) (n1 + 89) ++ esX6 w (n1 + 98) (n1 + 1) (n1 + 95) ++ esX5 w (n1 + 101) (n1 + 1) (n1 + 95)))) rfl ?_
  refine c_put (ci := 8) (k := 8) (T := TX8) (C := RX8) (N := 10) (fs' := [.ref (n1 + 1), .ref (n1 + 13), .ref (n1 + 25), .ref (n1 + 57), .ref (n1 + 89), .ref (n1 + 90), .ref (n1 + 95), .ref (n1 + 98), .ref (n1 + 101), .null]) rfl fk_X8_63 (by decide) ⟨rfl, rfl⟩ (tyX8_ok 8 (by decide)) rfl rfl (Nat.le_of_ble_eq_true rfl) rfl (fun _ _ _ h => h.2.2) dX8_init_121 ?_
  refine c_aload 0 dX8_init_124 rfl rfl ?_
  refine c_new (ci := 7) (N := 6) (k := 106) (cs' := 106) (sl' := 4418) (T := TX7) (C := RX7) (fs := [.null, .null, .null, .null, .null, .int 0]) tyX7 rfl tyX7_ok lc_X8_67 ni_X7 cy_X7_init.2.1 hzX7 rfl (by decide) rfl (by decide) rfl dX8_init_125 ?_
  refine CW.cv (es' := (.inr (8, [.ref (n1 + 1), .ref (n1 + 13), .ref (n1 + 25), .ref (n1 + 57), .ref (n1 + 89), .ref (n1 + 90), .ref (n1 + 95), .ref (n1 + 98), .ref (n1 + 101), .null]) :: (esX0 w (n1 + 1) ++ esX0 w (n1 + 13) ++ esX4 w (n1 + 25) ++ esX4 w (n1 + 57) ++ [scrE w (fun _ => none)] ++ esX2 w (n1 + 90) ++ esX1 w (n1 + 95) (n1 + 1) (n1 + 89) ++ esX6 w (n1 + 98) (n1 + 1) (n1 + 95) ++ esX5 w (n1 + 101) (n1 + 1) (n1 + 95) ++ [zX7]))) rfl ?_
  refine c_dup dX8_init_128 ?_
  refine c_aload 0 dX8_init_129 rfl rfl ?_
  refine c_get (ci := 8) (k := 0) (T := TX8) (C := RX8) (N := 10) rfl fk_X8_12 (by decide) rfl rfl dX8_init_130 ?_
  refine c_aload 0 dX8_init_133 rfl rfl ?_
  refine c_get (ci := 8) (k := 6) (T := TX8) (C := RX8) (N := 10) rfl fk_X8_47 (by decide) rfl rfl dX8_init_134 ?_
  refine c_init (k := 106) (rm := rmX7) (as := [.ref (n1 + 1), .ref (n1 + 95)]) (st := [.ref (n1 + 106), .ref n1]) (pre := (.inr (8, [.ref (n1 + 1), .ref (n1 + 13), .ref (n1 + 25), .ref (n1 + 57), .ref (n1 + 89), .ref (n1 + 90), .ref (n1 + 95), .ref (n1 + 98), .ref (n1 + 101), .null]) :: (esX0 w (n1 + 1) ++ esX0 w (n1 + 13) ++ esX4 w (n1 + 25) ++ esX4 w (n1 + 57) ++ [scrE w (fun _ => none)] ++ esX2 w (n1 + 90) ++ esX1 w (n1 + 95) (n1 + 1) (n1 + 89) ++ esX6 w (n1 + 98) (n1 + 1) (n1 + 95) ++ esX5 w (n1 + 101) (n1 + 1) (n1 + 95)))) (es0 := [zX7]) (es1 := esX7 w (n1 + 106) (n1 + 1) (n1 + 95)) (cs' := 109) (sl' := 4436) (mk_X7 _ _) cy_X7_init in_X7_init rfl ml_X8_69 rfl rfl rfl ⟨by decide, by decide⟩ rfl (by decide) rfl (by decide) (by show _ ≤ 8; simp [Value.category]) dX8_init_137 rfl ?_
  refine CW.cv (es' := (.inr (8, [.ref (n1 + 1), .ref (n1 + 13), .ref (n1 + 25), .ref (n1 + 57), .ref (n1 + 89), .ref (n1 + 90), .ref (n1 + 95), .ref (n1 + 98), .ref (n1 + 101), .null]) :: (esX0 w (n1 + 1) ++ esX0 w (n1 + 13) ++ esX4 w (n1 + 25) ++ esX4 w (n1 + 57) ++ [scrE w (fun _ => none)] ++ esX2 w (n1 + 90) ++ esX1 w (n1 + 95) (n1 + 1) (n1 + 89) ++ esX6 w (n1 + 98) (n1 + 1) (n1 + 95) ++ esX5 w (n1 + 101) (n1 + 1) (n1 + 95) ++ esX7 w (n1 + 106) (n1 + 1) (n1 + 95)))) rfl ?_
  refine c_put (ci := 8) (k := 9) (T := TX8) (C := RX8) (N := 10) (fs' := [.ref (n1 + 1), .ref (n1 + 13), .ref (n1 + 25), .ref (n1 + 57), .ref (n1 + 89), .ref (n1 + 90), .ref (n1 + 95), .ref (n1 + 98), .ref (n1 + 101), .ref (n1 + 106)]) rfl fk_X8_70 (by decide) ⟨rfl, rfl⟩ (tyX8_ok 9 (by decide)) rfl rfl (Nat.le_of_ble_eq_true rfl) rfl (fun _ _ _ h => h.2.2) dX8_init_140 ?_
  refine c_iconst (v := 0) dX8_init_143 (by decide) ?_
  refine c_istore (lv' := [(1, .int 0), (0, .ref n1)]) dX8_init_144 rfl (by decide) rfl ?_
  refine CW.cv (es' := .inr (8, [.ref (n1 + 1), .ref (n1 + 13), .ref (n1 + 25), .ref (n1 + 57), .ref (n1 + 89), .ref (n1 + 90), .ref (n1 + 95), .ref (n1 + 98), .ref (n1 + 101), .ref (n1 + 106)]) :: (esA w n1 ++ (scrE w (fun _ => none) :: esB w n1))) (by simp [esA, esB]) ?_
  refine lp_X8 (m := 20) (i := 0) (i' := 1) (cs' := 115) (sl' := 4847) (A := esA w n1) (B := esB w n1) rfl rfl rfl (by decide) (by unfold vp_in; decide) (by decide) rfl (by decide) rfl (by decide) ?_
  refine lp_X8 (m := 26) (i := 1) (i' := 2) (cs' := 121) (sl' := 5258) (A := esA w n1) (B := (esB w n1 ++ esX3 w (n1 + (90 + 20)))) rfl rfl rfl (by decide) (by unfold vp_in; decide) (by decide) rfl (by decide) rfl (by decide) ?_
  refine lp_X8 (m := 32) (i := 2) (i' := 3) (cs' := 127) (sl' := 5669) (A := esA w n1) (B := ((esB w n1 ++ esX3 w (n1 + (90 + 20))) ++ esX3 w (n1 + (90 + 26)))) rfl rfl rfl (by decide) (by unfold vp_in; decide) (by decide) rfl (by decide) rfl (by decide) ?_
  refine lp_X8 (m := 38) (i := 3) (i' := 4) (cs' := 133) (sl' := 6080) (A := esA w n1) (B := (((esB w n1 ++ esX3 w (n1 + (90 + 20))) ++ esX3 w (n1 + (90 + 26))) ++ esX3 w (n1 + (90 + 32)))) rfl rfl rfl (by decide) (by unfold vp_in; decide) (by decide) rfl (by decide) rfl (by decide) ?_
  refine c_iload 0 dX8_init_145 rfl rfl ?_
  refine c_aload 1 dX8_init_146 rfl rfl ?_
  refine c_get (ci := 8) (k := 4) (T := TX8) (C := RX8) (N := 10) rfl fk_X8_31 (by decide) rfl rfl dX8_init_147 ?_
  refine c_alen (t := 4) (j := 89) (x := (4, .inr (.inr (.inr (.inr (fX8 n1)))))) (ty := .object "CandleEnds$Script") (N := 4) (v := 4) (at_mid (n := 88) rfl) rfl rfl dX8_init_150 ?_
  refine c_geT (tgt := 173) dX8_init_151 (by decide) (by decide) ?_
  exact c_ret rfl rfl rfl dX8_init_173
theorem fk_X9_7 : Cond.fieldLink RX9 7 RX9 (TX9 0).2.1 (TX9 0).2.2.1 ∈ TBL := TBL_in (tm4 (List.mem_of_getElem? (i := 233) rfl)) rfl
theorem fk_X9_13 : Cond.fieldLink RX9 13 RX9 (TX9 1).2.1 (TX9 1).2.2.1 ∈ TBL := TBL_in (tm4 (List.mem_of_getElem? (i := 234) rfl)) rfl
theorem fk_X9_16 : Cond.fieldLink RX9 16 RX9 (TX9 2).2.1 (TX9 2).2.2.1 ∈ TBL := TBL_in (tm4 (List.mem_of_getElem? (i := 235) rfl)) rfl
theorem fk_X9_20 : Cond.fieldLink RX9 20 RX9 (TX9 4).2.1 (TX9 4).2.2.1 ∈ TBL := TBL_in (tm4 (List.mem_of_getElem? (i := 237) rfl)) rfl
theorem fk_X9_24 : Cond.fieldLink RX9 24 RX9 (TX9 5).2.1 (TX9 5).2.2.1 ∈ TBL := TBL_in (tm4 (List.mem_of_getElem? (i := 238) rfl)) rfl
theorem fk_X9_27 : Cond.fieldLink RX9 27 RX9 (TX9 6).2.1 (TX9 6).2.2.1 ∈ TBL := TBL_in (tm4 (List.mem_of_getElem? (i := 239) rfl)) rfl
theorem fk_X9_30 : Cond.fieldLink RX9 30 RX9 (TX9 7).2.1 (TX9 7).2.2.1 ∈ TBL := TBL_in (tm5 (List.mem_of_getElem? (i := 0) rfl)) rfl
theorem fk_X9_33 : Cond.fieldLink RX9 33 RX9 (TX9 8).2.1 (TX9 8).2.2.1 ∈ TBL := TBL_in (tm5 (List.mem_of_getElem? (i := 1) rfl)) rfl
theorem fk_X9_36 : Cond.fieldLink RX9 36 RX9 (TX9 9).2.1 (TX9 9).2.2.1 ∈ TBL := TBL_in (tm5 (List.mem_of_getElem? (i := 2) rfl)) rfl
theorem fk_X9_39 : Cond.fieldLink RX9 39 RX9 (TX9 10).2.1 (TX9 10).2.2.1 ∈ TBL := TBL_in (tm5 (List.mem_of_getElem? (i := 3) rfl)) rfl
theorem fk_X9_42 : Cond.fieldLink RX9 42 RX9 (TX9 11).2.1 (TX9 11).2.2.1 ∈ TBL := TBL_in (tm5 (List.mem_of_getElem? (i := 4) rfl)) rfl
theorem fk_X9_45 : Cond.fieldLink RX9 45 RX9 (TX9 12).2.1 (TX9 12).2.2.1 ∈ TBL := TBL_in (tm5 (List.mem_of_getElem? (i := 5) rfl)) rfl
theorem fk_X9_48 : Cond.fieldLink RX9 48 RX9 (TX9 13).2.1 (TX9 13).2.2.1 ∈ TBL := TBL_in (tm5 (List.mem_of_getElem? (i := 6) rfl)) rfl
theorem fk_X9_51 : Cond.fieldLink RX9 51 RX9 (TX9 23).2.1 (TX9 23).2.2.1 ∈ TBL := TBL_in (tm5 (List.mem_of_getElem? (i := 16) rfl)) rfl
theorem fk_X9_54 : Cond.fieldLink RX9 54 RX9 (TX9 25).2.1 (TX9 25).2.2.1 ∈ TBL := TBL_in (tm5 (List.mem_of_getElem? (i := 18) rfl)) rfl
theorem fk_X9_57 : Cond.fieldLink RX9 57 RX9 (TX9 26).2.1 (TX9 26).2.2.1 ∈ TBL := TBL_in (tm5 (List.mem_of_getElem? (i := 19) rfl)) rfl
theorem fk_X9_60 : Cond.fieldLink RX9 60 RX9 (TX9 30).2.1 (TX9 30).2.2.1 ∈ TBL := TBL_in (tm5 (List.mem_of_getElem? (i := 23) rfl)) rfl
theorem fk_X9_63 : Cond.fieldLink RX9 63 RX9 (TX9 31).2.1 (TX9 31).2.2.1 ∈ TBL := TBL_in (tm5 (List.mem_of_getElem? (i := 24) rfl)) rfl
theorem fk_X9_66 : Cond.fieldLink RX9 66 RX9 (TX9 32).2.1 (TX9 32).2.2.1 ∈ TBL := TBL_in (tm5 (List.mem_of_getElem? (i := 25) rfl)) rfl
theorem fk_X9_69 : Cond.fieldLink RX9 69 RX9 (TX9 33).2.1 (TX9 33).2.2.1 ∈ TBL := TBL_in (tm5 (List.mem_of_getElem? (i := 26) rfl)) rfl
theorem fk_X9_72 : Cond.fieldLink RX9 72 RX9 (TX9 34).2.1 (TX9 34).2.2.1 ∈ TBL := TBL_in (tm5 (List.mem_of_getElem? (i := 27) rfl)) rfl
theorem fk_X9_75 : Cond.fieldLink RX9 75 RX9 (TX9 36).2.1 (TX9 36).2.2.1 ∈ TBL := TBL_in (tm5 (List.mem_of_getElem? (i := 29) rfl)) rfl
theorem fk_X9_78 : Cond.fieldLink RX9 78 RX9 (TX9 37).2.1 (TX9 37).2.2.1 ∈ TBL := TBL_in (tm5 (List.mem_of_getElem? (i := 30) rfl)) rfl
theorem fk_X9_81 : Cond.fieldLink RX9 81 RX9 (TX9 38).2.1 (TX9 38).2.2.1 ∈ TBL := TBL_in (tm5 (List.mem_of_getElem? (i := 31) rfl)) rfl
theorem fk_X9_84 : Cond.fieldLink RX9 84 RX9 (TX9 39).2.1 (TX9 39).2.2.1 ∈ TBL := TBL_in (tm5 (List.mem_of_getElem? (i := 32) rfl)) rfl
theorem fk_X9_88 : Cond.fieldLink RX9 88 RX9 (TX9 40).2.1 (TX9 40).2.2.1 ∈ TBL := TBL_in (tm5 (List.mem_of_getElem? (i := 33) rfl)) rfl
theorem fk_X9_91 : Cond.fieldLink RX9 91 RX9 (TX9 41).2.1 (TX9 41).2.2.1 ∈ TBL := TBL_in (tm5 (List.mem_of_getElem? (i := 34) rfl)) rfl
theorem fk_X9_94 : Cond.fieldLink RX9 94 RX9 (TX9 42).2.1 (TX9 42).2.2.1 ∈ TBL := TBL_in (tm5 (List.mem_of_getElem? (i := 35) rfl)) rfl
theorem fk_X9_97 : Cond.fieldLink RX9 97 RX9 (TX9 43).2.1 (TX9 43).2.2.1 ∈ TBL := TBL_in (tm5 (List.mem_of_getElem? (i := 36) rfl)) rfl
theorem fk_X9_100 : Cond.fieldLink RX9 100 RX9 (TX9 44).2.1 (TX9 44).2.2.1 ∈ TBL := TBL_in (tm5 (List.mem_of_getElem? (i := 37) rfl)) rfl
theorem fk_X9_103 : Cond.fieldLink RX9 103 RX9 (TX9 45).2.1 (TX9 45).2.2.1 ∈ TBL := TBL_in (tm5 (List.mem_of_getElem? (i := 38) rfl)) rfl
theorem fk_X9_106 : Cond.fieldLink RX9 106 RX9 (TX9 46).2.1 (TX9 46).2.2.1 ∈ TBL := TBL_in (tm5 (List.mem_of_getElem? (i := 39) rfl)) rfl
theorem fk_X9_109 : Cond.fieldLink RX9 109 RX9 (TX9 47).2.1 (TX9 47).2.2.1 ∈ TBL := TBL_in (tm5 (List.mem_of_getElem? (i := 40) rfl)) rfl
theorem fk_X9_112 : Cond.fieldLink RX9 112 RX9 (TX9 48).2.1 (TX9 48).2.2.1 ∈ TBL := TBL_in (tm5 (List.mem_of_getElem? (i := 41) rfl)) rfl
def zX9 : va_E := .inr (9, [.null, .null, .null, .int 0, .int 0, .int 0, .null, .null, .null, .null, .null, .null, .null, .null, .int 0, .int 0, .int 0, .int 0, .int 0, .int 0, .int 0, .int 0, .int 0, .null, .int 0, .null, .null, .int 0, .int 0, .int 0, .null, .null, .null, .null, .null, .int 0, .null, .null, .null, .null, .null, .null, .null, .null, .null, .null, .null, .null, .null])
def esX9 (w : Wd) (n1 : Nat) : List va_E := [.inr (9, [.ref (n1 + 1), .ref (n1 + 2), .ref (n1 + 3), .int 0, .int (-1), .int (-1), .ref (n1 + 4), .ref (n1 + 5), .ref (n1 + 6), .ref (n1 + 7), .ref (n1 + 8), .ref (n1 + 9), .ref (n1 + 10), .ref (n1 + 11), .int 0, .int 0, .int 0, .int 0, .int 0, .int 0, .int 0, .int 0, .int 0, .ref (n1 + 12), .int 0, .ref (n1 + 13), .ref (n1 + 14), .int 0, .int 0, .int 0, .ref (n1 + 15), .ref (n1 + 16), .ref (n1 + 17), .ref (n1 + 18), .ref (n1 + 19), .int 0, .ref (n1 + 20), .ref (n1 + 21), .ref (n1 + 22), .ref (n1 + 23), .ref (n1 + 24), .ref (n1 + 25), .ref (n1 + 26), .ref (n1 + 27), .ref (n1 + 28), .ref (n1 + 29), .ref (n1 + 30), .ref (n1 + 31), .ref (n1 + 32)]), zI w 14800, zI w 14800, zB w 300, zI w 4, zI w 96, zI w 96, zI w 96, zI w 96, zI w 96, zI w 1600, zI w 1600, zI w 40, zI w 80, zI w 80, zI w 24, zI w 24, zI w 24, zI w 24, zI w 24, zI w 400, zI w 400, zI w 8, zJ w 200, zI w 12, zI w 12, zI w 6, zI w 6, zI w 6, zI w 6, zI w 6, zI w 6, zZ w 100]
/-- the model made, up to the first order that its own methods stand behind -/
theorem mk_X9a {l : Launch} {w : Wd} {R : Room} {n0 n1 : Nat} {Qf : List Frame → Array Value → State → State → Prop} {Ex : State → Array Value → Method → Prop} (hR : 1 ≤ R.frames ∧ 12 ≤ R.locals ∧ 32 ≤ R.cells ∧ 35072 ≤ R.slots) (hX : ∀ s args meth, Ex s args meth → meth.sig.returnType = none ∧ meth.locks = false ∧ meth.name = "<init>" ∧ True) (kk : CW l w RX9 cX9_init 1 R n0 n1 Qf Ex 32 35072 277 [(0, .ref n1)] [] (esX9 w n1)) : CW l w RX9 cX9_init 1 R n0 n1 Qf Ex 0 0 0 [(0, .ref n1)] [] [zX9] := by
  refine CW.cv (es' := [.inr (9, [.null, .null, .null, .int 0, .int 0, .int 0, .null, .null, .null, .null, .null, .null, .null, .null, .int 0, .int 0, .int 0, .int 0, .int 0, .int 0, .int 0, .int 0, .int 0, .null, .int 0, .null, .null, .int 0, .int 0, .int 0, .null, .null, .null, .null, .null, .int 0, .null, .null, .null, .null, .null, .null, .null, .null, .null, .null, .null, .null, .null])]) rfl ?_
  refine c_aload 0 dX9_init_0 rfl rfl ?_
  refine c_obj oi_X9_1 oi_in oi_co hR.1 hR.2.1 dX9_init_1 ?_
  refine c_aload 0 dX9_init_4 rfl rfl ?_
  refine c_sipush (v := 14800) dX9_init_5 (by decide) ?_
  refine c_newa (N := 14800) (k := 1) (cs' := 1) (sl' := 14800) (a0 := (14800, .inl (fun _ => 0))) 0 rfl aI (fun _ => rfl) (by decide) (by decide) (by decide) rfl (Nat.le_trans (by decide) hR.2.2.1) rfl (Nat.le_trans (by decide) hR.2.2.2) rfl dX9_init_8 ?_
  refine CW.cv (es' := [.inr (9, [.null, .null, .null, .int 0, .int 0, .int 0, .null, .null, .null, .null, .null, .null, .null, .null, .int 0, .int 0, .int 0, .int 0, .int 0, .int 0, .int 0, .int 0, .int 0, .null, .int 0, .null, .null, .int 0, .int 0, .int 0, .null, .null, .null, .null, .null, .int 0, .null, .null, .null, .null, .null, .null, .null, .null, .null, .null, .null, .null, .null]), zI w 14800]) rfl ?_
  refine c_put (ci := 9) (k := 0) (T := TX9) (C := RX9) (N := 49) (fs' := [.ref (n1 + 1), .null, .null, .int 0, .int 0, .int 0, .null, .null, .null, .null, .null, .null, .null, .null, .int 0, .int 0, .int 0, .int 0, .int 0, .int 0, .int 0, .int 0, .int 0, .null, .int 0, .null, .null, .int 0, .int 0, .int 0, .null, .null, .null, .null, .null, .int 0, .null, .null, .null, .null, .null, .null, .null, .null, .null, .null, .null, .null, .null]) rfl fk_X9_7 (by decide) ⟨rfl, rfl⟩ (tyX9_ok 0 (by decide)) rfl rfl (Nat.le_of_ble_eq_true rfl) rfl (fun _ _ _ h => (hX _ _ _ h).2.2.1) dX9_init_10 ?_
  refine c_aload 0 dX9_init_13 rfl rfl ?_
  refine c_sipush (v := 14800) dX9_init_14 (by decide) ?_
  refine c_newa (N := 14800) (k := 2) (cs' := 2) (sl' := 29600) (a0 := (14800, .inl (fun _ => 0))) 0 rfl aI (fun _ => rfl) (by decide) (by decide) (by decide) rfl (Nat.le_trans (by decide) hR.2.2.1) rfl (Nat.le_trans (by decide) hR.2.2.2) rfl dX9_init_17 ?_
  refine CW.cv (es' := [.inr (9, [.ref (n1 + 1), .null, .null, .int 0, .int 0, .int 0, .null, .null, .null, .null, .null, .null, .null, .null, .int 0, .int 0, .int 0, .int 0, .int 0, .int 0, .int 0, .int 0, .int 0, .null, .int 0, .null, .null, .int 0, .int 0, .int 0, .null, .null, .null, .null, .null, .int 0, .null, .null, .null, .null, .null, .null, .null, .null, .null, .null, .null, .null, .null]), zI w 14800, zI w 14800]) rfl ?_
  refine c_put (ci := 9) (k := 1) (T := TX9) (C := RX9) (N := 49) (fs' := [.ref (n1 + 1), .ref (n1 + 2), .null, .int 0, .int 0, .int 0, .null, .null, .null, .null, .null, .null, .null, .null, .int 0, .int 0, .int 0, .int 0, .int 0, .int 0, .int 0, .int 0, .int 0, .null, .int 0, .null, .null, .int 0, .int 0, .int 0, .null, .null, .null, .null, .null, .int 0, .null, .null, .null, .null, .null, .null, .null, .null, .null, .null, .null, .null, .null]) rfl fk_X9_13 (by decide) ⟨rfl, rfl⟩ (tyX9_ok 1 (by decide)) rfl rfl (Nat.le_of_ble_eq_true rfl) rfl (fun _ _ _ h => (hX _ _ _ h).2.2.1) dX9_init_19 ?_
  refine c_aload 0 dX9_init_22 rfl rfl ?_
  refine c_sipush (v := 300) dX9_init_23 (by decide) ?_
  refine c_newa (N := 300) (k := 3) (cs' := 3) (sl' := 29900) (a0 := (300, .inl (fun _ => 0))) 1 rfl aB (fun _ => rfl) (by decide) (by decide) (by decide) rfl (Nat.le_trans (by decide) hR.2.2.1) rfl (Nat.le_trans (by decide) hR.2.2.2) rfl dX9_init_26 ?_
  refine CW.cv (es' := [.inr (9, [.ref (n1 + 1), .ref (n1 + 2), .null, .int 0, .int 0, .int 0, .null, .null, .null, .null, .null, .null, .null, .null, .int 0, .int 0, .int 0, .int 0, .int 0, .int 0, .int 0, .int 0, .int 0, .null, .int 0, .null, .null, .int 0, .int 0, .int 0, .null, .null, .null, .null, .null, .int 0, .null, .null, .null, .null, .null, .null, .null, .null, .null, .null, .null, .null, .null]), zI w 14800, zI w 14800, zB w 300]) rfl ?_
  refine c_put (ci := 9) (k := 2) (T := TX9) (C := RX9) (N := 49) (fs' := [.ref (n1 + 1), .ref (n1 + 2), .ref (n1 + 3), .int 0, .int 0, .int 0, .null, .null, .null, .null, .null, .null, .null, .null, .int 0, .int 0, .int 0, .int 0, .int 0, .int 0, .int 0, .int 0, .int 0, .null, .int 0, .null, .null, .int 0, .int 0, .int 0, .null, .null, .null, .null, .null, .int 0, .null, .null, .null, .null, .null, .null, .null, .null, .null, .null, .null, .null, .null]) rfl fk_X9_16 (by decide) ⟨rfl, rfl⟩ (tyX9_ok 2 (by decide)) rfl rfl (Nat.le_of_ble_eq_true rfl) rfl (fun _ _ _ h => (hX _ _ _ h).2.2.1) dX9_init_28 ?_
  refine c_aload 0 dX9_init_31 rfl rfl ?_
  refine c_iconst (v := -1) dX9_init_32 (by decide) ?_
  refine c_put (ci := 9) (k := 4) (T := TX9) (C := RX9) (N := 49) (fs' := [.ref (n1 + 1), .ref (n1 + 2), .ref (n1 + 3), .int 0, .int (-1), .int 0, .null, .null, .null, .null, .null, .null, .null, .null, .int 0, .int 0, .int 0, .int 0, .int 0, .int 0, .int 0, .int 0, .int 0, .null, .int 0, .null, .null, .int 0, .int 0, .int 0, .null, .null, .null, .null, .null, .int 0, .null, .null, .null, .null, .null, .null, .null, .null, .null, .null, .null, .null, .null]) rfl fk_X9_20 (by decide) ⟨rfl, rfl⟩ (tyX9_ok 4 (by decide)) rfl rfl (Nat.le_of_ble_eq_true rfl) rfl (fun _ _ _ h => (hX _ _ _ h).2.2.1) dX9_init_33 ?_
  refine c_aload 0 dX9_init_36 rfl rfl ?_
  refine c_iconst (v := -1) dX9_init_37 (by decide) ?_
  refine c_put (ci := 9) (k := 5) (T := TX9) (C := RX9) (N := 49) (fs' := [.ref (n1 + 1), .ref (n1 + 2), .ref (n1 + 3), .int 0, .int (-1), .int (-1), .null, .null, .null, .null, .null, .null, .null, .null, .int 0, .int 0, .int 0, .int 0, .int 0, .int 0, .int 0, .int 0, .int 0, .null, .int 0, .null, .null, .int 0, .int 0, .int 0, .null, .null, .null, .null, .null, .int 0, .null, .null, .null, .null, .null, .null, .null, .null, .null, .null, .null, .null, .null]) rfl fk_X9_24 (by decide) ⟨rfl, rfl⟩ (tyX9_ok 5 (by decide)) rfl rfl (Nat.le_of_ble_eq_true rfl) rfl (fun _ _ _ h => (hX _ _ _ h).2.2.1) dX9_init_38 ?_
  refine c_aload 0 dX9_init_41 rfl rfl ?_
  refine c_iconst (v := 4) dX9_init_42 (by decide) ?_
  refine c_newa (N := 4) (k := 4) (cs' := 4) (sl' := 29904) (a0 := (4, .inl (fun _ => 0))) 0 rfl aI (fun _ => rfl) (by decide) (by decide) (by decide) rfl (Nat.le_trans (by decide) hR.2.2.1) rfl (Nat.le_trans (by decide) hR.2.2.2) rfl dX9_init_43 ?_
  refine CW.cv (es' := [.inr (9, [.ref (n1 + 1), .ref (n1 + 2), .ref (n1 + 3), .int 0, .int (-1), .int (-1), .null, .null, .null, .null, .null, .null, .null, .null, .int 0, .int 0, .int 0, .int 0, .int 0, .int 0, .int 0, .int 0, .int 0, .null, .int 0, .null, .null, .int 0, .int 0, .int 0, .null, .null, .null, .null, .null, .int 0, .null, .null, .null, .null, .null, .null, .null, .null, .null, .null, .null, .null, .null]), zI w 14800, zI w 14800, zB w 300, zI w 4]) rfl ?_
  refine c_put (ci := 9) (k := 6) (T := TX9) (C := RX9) (N := 49) (fs' := [.ref (n1 + 1), .ref (n1 + 2), .ref (n1 + 3), .int 0, .int (-1), .int (-1), .ref (n1 + 4), .null, .null, .null, .null, .null, .null, .null, .int 0, .int 0, .int 0, .int 0, .int 0, .int 0, .int 0, .int 0, .int 0, .null, .int 0, .null, .null, .int 0, .int 0, .int 0, .null, .null, .null, .null, .null, .int 0, .null, .null, .null, .null, .null, .null, .null, .null, .null, .null, .null, .null, .null]) rfl fk_X9_27 (by decide) ⟨rfl, rfl⟩ (tyX9_ok 6 (by decide)) rfl rfl (Nat.le_of_ble_eq_true rfl) rfl (fun _ _ _ h => (hX _ _ _ h).2.2.1) dX9_init_45 ?_
  refine c_aload 0 dX9_init_48 rfl rfl ?_
  refine c_bipush (v := 96) dX9_init_49 (by decide) ?_
  refine c_newa (N := 96) (k := 5) (cs' := 5) (sl' := 30000) (a0 := (96, .inl (fun _ => 0))) 0 rfl aI (fun _ => rfl) (by decide) (by decide) (by decide) rfl (Nat.le_trans (by decide) hR.2.2.1) rfl (Nat.le_trans (by decide) hR.2.2.2) rfl dX9_init_51 ?_
  refine CW.cv (es' := [.inr (9, [.ref (n1 + 1), .ref (n1 + 2), .ref (n1 + 3), .int 0, .int (-1), .int (-1), .ref (n1 + 4), .null, .null, .null, .null, .null, .null, .null, .int 0, .int 0, .int 0, .int 0, .int 0, .int 0, .int 0, .int 0, .int 0, .null, .int 0, .null, .null, .int 0, .int 0, .int 0, .null, .null, .null, .null, .null, .int 0, .null, .null, .null, .null, .null, .null, .null, .null, .null, .null, .null, .null, .null]), zI w 14800, zI w 14800, zB w 300, zI w 4, zI w 96]) rfl ?_
  refine c_put (ci := 9) (k := 7) (T := TX9) (C := RX9) (N := 49) (fs' := [.ref (n1 + 1), .ref (n1 + 2), .ref (n1 + 3), .int 0, .int (-1), .int (-1), .ref (n1 + 4), .ref (n1 + 5), .null, .null, .null, .null, .null, .null, .int 0, .int 0, .int 0, .int 0, .int 0, .int 0, .int 0, .int 0, .int 0, .null, .int 0, .null, .null, .int 0, .int 0, .int 0, .null, .null, .null, .null, .null, .int 0, .null, .null, .null, .null, .null, .null, .null, .null, .null, .null, .null, .null, .null]) rfl fk_X9_30 (by decide) ⟨rfl, rfl⟩ (tyX9_ok 7 (by decide)) rfl rfl (Nat.le_of_ble_eq_true rfl) rfl (fun _ _ _ h => (hX _ _ _ h).2.2.1) dX9_init_53 ?_
  refine c_aload 0 dX9_init_56 rfl rfl ?_
  refine c_bipush (v := 96) dX9_init_57 (by decide) ?_
  refine c_newa (N := 96) (k := 6) (cs' := 6) (sl' := 30096) (a0 := (96, .inl (fun _ => 0))) 0 rfl aI (fun _ => rfl) (by decide) (by decide) (by decide) rfl (Nat.le_trans (by decide) hR.2.2.1) rfl (Nat.le_trans (by decide) hR.2.2.2) rfl dX9_init_59 ?_
  refine CW.cv (es' := [.inr (9, [.ref (n1 + 1), .ref (n1 + 2), .ref (n1 + 3), .int 0, .int (-1), .int (-1), .ref (n1 + 4), .ref (n1 + 5), .null, .null, .null, .null, .null, .null, .int 0, .int 0, .int 0, .int 0, .int 0, .int 0, .int 0, .int 0, .int 0, .null, .int 0, .null, .null, .int 0, .int 0, .int 0, .null, .null, .null, .null, .null, .int 0, .null, .null, .null, .null, .null, .null, .null, .null, .null, .null, .null, .null, .null]), zI w 14800, zI w 14800, zB w 300, zI w 4, zI w 96, zI w 96]) rfl ?_
  refine c_put (ci := 9) (k := 8) (T := TX9) (C := RX9) (N := 49) (fs' := [.ref (n1 + 1), .ref (n1 + 2), .ref (n1 + 3), .int 0, .int (-1), .int (-1), .ref (n1 + 4), .ref (n1 + 5), .ref (n1 + 6), .null, .null, .null, .null, .null, .int 0, .int 0, .int 0, .int 0, .int 0, .int 0, .int 0, .int 0, .int 0, .null, .int 0, .null, .null, .int 0, .int 0, .int 0, .null, .null, .null, .null, .null, .int 0, .null, .null, .null, .null, .null, .null, .null, .null, .null, .null, .null, .null, .null]) rfl fk_X9_33 (by decide) ⟨rfl, rfl⟩ (tyX9_ok 8 (by decide)) rfl rfl (Nat.le_of_ble_eq_true rfl) rfl (fun _ _ _ h => (hX _ _ _ h).2.2.1) dX9_init_61 ?_
  refine c_aload 0 dX9_init_64 rfl rfl ?_
  refine c_bipush (v := 96) dX9_init_65 (by decide) ?_
  refine c_newa (N := 96) (k := 7) (cs' := 7) (sl' := 30192) (a0 := (96, .inl (fun _ => 0))) 0 rfl aI (fun _ => rfl) (by decide) (by decide) (by decide) rfl (Nat.le_trans (by decide) hR.2.2.1) rfl (Nat.le_trans (by decide) hR.2.2.2) rfl dX9_init_67 ?_
  refine CW.cv (es' := [.inr (9, [.ref (n1 + 1), .ref (n1 + 2), .ref (n1 + 3), .int 0, .int (-1), .int (-1), .ref (n1 + 4), .ref (n1 + 5), .ref (n1 + 6), .null, .null, .null, .null, .null, .int 0, .int 0, .int 0, .int 0, .int 0, .int 0, .int 0, .int 0, .int 0, .null, .int 0, .null, .null, .int 0, .int 0, .int 0, .null, .null, .null, .null, .null, .int 0, .null, .null, .null, .null, .null, .null, .null, .null, .null, .null, .null, .null, .null]), zI w 14800, zI w 14800, zB w 300, zI w 4, zI w 96, zI w 96, zI w 96]) rfl ?_
  refine c_put (ci := 9) (k := 9) (T := TX9) (C := RX9) (N := 49) (fs' := [.ref (n1 + 1), .ref (n1 + 2), .ref (n1 + 3), .int 0, .int (-1), .int (-1), .ref (n1 + 4), .ref (n1 + 5), .ref (n1 + 6), .ref (n1 + 7), .null, .null, .null, .null, .int 0, .int 0, .int 0, .int 0, .int 0, .int 0, .int 0, .int 0, .int 0, .null, .int 0, .null, .null, .int 0, .int 0, .int 0, .null, .null, .null, .null, .null, .int 0, .null, .null, .null, .null, .null, .null, .null, .null, .null, .null, .null, .null, .null]) rfl fk_X9_36 (by decide) ⟨rfl, rfl⟩ (tyX9_ok 9 (by decide)) rfl rfl (Nat.le_of_ble_eq_true rfl) rfl (fun _ _ _ h => (hX _ _ _ h).2.2.1) dX9_init_69 ?_
  refine c_aload 0 dX9_init_72 rfl rfl ?_
  refine c_bipush (v := 96) dX9_init_73 (by decide) ?_
  refine c_newa (N := 96) (k := 8) (cs' := 8) (sl' := 30288) (a0 := (96, .inl (fun _ => 0))) 0 rfl aI (fun _ => rfl) (by decide) (by decide) (by decide) rfl (Nat.le_trans (by decide) hR.2.2.1) rfl (Nat.le_trans (by decide) hR.2.2.2) rfl dX9_init_75 ?_
  refine CW.cv (es' := [.inr (9, [.ref (n1 + 1), .ref (n1 + 2), .ref (n1 + 3), .int 0, .int (-1), .int (-1), .ref (n1 + 4), .ref (n1 + 5), .ref (n1 + 6), .ref (n1 + 7), .null, .null, .null, .null, .int 0, .int 0, .int 0, .int 0, .int 0, .int 0, .int 0, .int 0, .int 0, .null, .int 0, .null, .null, .int 0, .int 0, .int 0, .null, .null, .null, .null, .null, .int 0, .null, .null, .null, .null, .null, .null, .null, .null, .null, .null, .null, .null, .null]), zI w 14800, zI w 14800, zB w 300, zI w 4, zI w 96, zI w 96, zI w 96, zI w 96]) rfl ?_
  refine c_put (ci := 9) (k := 10) (T := TX9) (C := RX9) (N := 49) (fs' := [.ref (n1 + 1), .ref (n1 + 2), .ref (n1 + 3), .int 0, .int (-1), .int (-1), .ref (n1 + 4), .ref (n1 + 5), .ref (n1 + 6), .ref (n1 + 7), .ref (n1 + 8), .null, .null, .null, .int 0, .int 0, .int 0, .int 0, .int 0, .int 0, .int 0, .int 0, .int 0, .null, .int 0, .null, .null, .int 0, .int 0, .int 0, .null, .null, .null, .null, .null, .int 0, .null, .null, .null, .null, .null, .null, .null, .null, .null, .null, .null, .null, .null]) rfl fk_X9_39 (by decide) ⟨rfl, rfl⟩ (tyX9_ok 10 (by decide)) rfl rfl (Nat.le_of_ble_eq_true rfl) rfl (fun _ _ _ h => (hX _ _ _ h).2.2.1) dX9_init_77 ?_
  refine c_aload 0 dX9_init_80 rfl rfl ?_
  refine c_bipush (v := 96) dX9_init_81 (by decide) ?_
  refine c_newa (N := 96) (k := 9) (cs' := 9) (sl' := 30384) (a0 := (96, .inl (fun _ => 0))) 0 rfl aI (fun _ => rfl) (by decide) (by decide) (by decide) rfl (Nat.le_trans (by decide) hR.2.2.1) rfl (Nat.le_trans (by decide) hR.2.2.2) rfl dX9_init_83 ?_
  refine CW.cv (es' := [.inr (9, [.ref (n1 + 1), .ref (n1 + 2), .ref (n1 + 3), .int 0, .int (-1), .int (-1), .ref (n1 + 4), .ref (n1 + 5), .ref (n1 + 6), .ref (n1 + 7), .ref (n1 + 8), .null, .null, .null, .int 0, .int 0, .int 0, .int 0, .int 0, .int 0, .int 0, .int 0, .int 0, .null, .int 0, .null, .null, .int 0, .int 0, .int 0, .null, .null, .null, .null, .null, .int 0, .null, .null, .null, .null, .null, .null, .null, .null, .null, .null, .null, .null, .null]), zI w 14800, zI w 14800, zB w 300, zI w 4, zI w 96, zI w 96, zI w 96, zI w 96, zI w 96]) rfl ?_
  refine c_put (ci := 9) (k := 11) (T := TX9) (C := RX9) (N := 49) (fs' := [.ref (n1 + 1), .ref (n1 + 2), .ref (n1 + 3), .int 0, .int (-1), .int (-1), .ref (n1 + 4), .ref (n1 + 5), .ref (n1 + 6), .ref (n1 + 7), .ref (n1 + 8), .ref (n1 + 9), .null, .null, .int 0, .int 0, .int 0, .int 0, .int 0, .int 0, .int 0, .int 0, .int 0, .null, .int 0, .null, .null, .int 0, .int 0, .int 0, .null, .null, .null, .null, .null, .int 0, .null, .null, .null, .null, .null, .null, .null, .null, .null, .null, .null, .null, .null]) rfl fk_X9_42 (by decide) ⟨rfl, rfl⟩ (tyX9_ok 11 (by decide)) rfl rfl (Nat.le_of_ble_eq_true rfl) rfl (fun _ _ _ h => (hX _ _ _ h).2.2.1) dX9_init_85 ?_
  refine c_aload 0 dX9_init_88 rfl rfl ?_
  refine c_sipush (v := 1600) dX9_init_89 (by decide) ?_
  refine c_newa (N := 1600) (k := 10) (cs' := 10) (sl' := 31984) (a0 := (1600, .inl (fun _ => 0))) 0 rfl aI (fun _ => rfl) (by decide) (by decide) (by decide) rfl (Nat.le_trans (by decide) hR.2.2.1) rfl (Nat.le_trans (by decide) hR.2.2.2) rfl dX9_init_92 ?_
  refine CW.cv (es' := [.inr (9, [.ref (n1 + 1), .ref (n1 + 2), .ref (n1 + 3), .int 0, .int (-1), .int (-1), .ref (n1 + 4), .ref (n1 + 5), .ref (n1 + 6), .ref (n1 + 7), .ref (n1 + 8), .ref (n1 + 9), .null, .null, .int 0, .int 0, .int 0, .int 0, .int 0, .int 0, .int 0, .int 0, .int 0, .null, .int 0, .null, .null, .int 0, .int 0, .int 0, .null, .null, .null, .null, .null, .int 0, .null, .null, .null, .null, .null, .null, .null, .null, .null, .null, .null, .null, .null]), zI w 14800, zI w 14800, zB w 300, zI w 4, zI w 96, zI w 96, zI w 96, zI w 96, zI w 96, zI w 1600]) rfl ?_
  refine c_put (ci := 9) (k := 12) (T := TX9) (C := RX9) (N := 49) (fs' := [.ref (n1 + 1), .ref (n1 + 2), .ref (n1 + 3), .int 0, .int (-1), .int (-1), .ref (n1 + 4), .ref (n1 + 5), .ref (n1 + 6), .ref (n1 + 7), .ref (n1 + 8), .ref (n1 + 9), .ref (n1 + 10), .null, .int 0, .int 0, .int 0, .int 0, .int 0, .int 0, .int 0, .int 0, .int 0, .null, .int 0, .null, .null, .int 0, .int 0, .int 0, .null, .null, .null, .null, .null, .int 0, .null, .null, .null, .null, .null, .null, .null, .null, .null, .null, .null, .null, .null]) rfl fk_X9_45 (by decide) ⟨rfl, rfl⟩ (tyX9_ok 12 (by decide)) rfl rfl (Nat.le_of_ble_eq_true rfl) rfl (fun _ _ _ h => (hX _ _ _ h).2.2.1) dX9_init_94 ?_
  refine c_aload 0 dX9_init_97 rfl rfl ?_
  refine c_sipush (v := 1600) dX9_init_98 (by decide) ?_
  refine c_newa (N := 1600) (k := 11) (cs' := 11) (sl' := 33584) (a0 := (1600, .inl (fun _ => 0))) 0 rfl aI (fun _ => rfl) (by decide) (by decide) (by decide) rfl (Nat.le_trans (by decide) hR.2.2.1) rfl (Nat.le_trans (by decide) hR.2.2.2) rfl dX9_init_101 ?_
  refine CW.cv (es' := [.inr (9, [.ref (n1 + 1), .ref (n1 + 2), .ref (n1 + 3), .int 0, .int (-1), .int (-1), .ref (n1 + 4), .ref (n1 + 5), .ref (n1 + 6), .ref (n1 + 7), .ref (n1 + 8), .ref (n1 + 9), .ref (n1 + 10), .null, .int 0, .int 0, .int 0, .int 0, .int 0, .int 0, .int 0, .int 0, .int 0, .null, .int 0, .null, .null, .int 0, .int 0, .int 0, .null, .null, .null, .null, .null, .int 0, .null, .null, .null, .null, .null, .null, .null, .null, .null, .null, .null, .null, .null]), zI w 14800, zI w 14800, zB w 300, zI w 4, zI w 96, zI w 96, zI w 96, zI w 96, zI w 96, zI w 1600, zI w 1600]) rfl ?_
  refine c_put (ci := 9) (k := 13) (T := TX9) (C := RX9) (N := 49) (fs' := [.ref (n1 + 1), .ref (n1 + 2), .ref (n1 + 3), .int 0, .int (-1), .int (-1), .ref (n1 + 4), .ref (n1 + 5), .ref (n1 + 6), .ref (n1 + 7), .ref (n1 + 8), .ref (n1 + 9), .ref (n1 + 10), .ref (n1 + 11), .int 0, .int 0, .int 0, .int 0, .int 0, .int 0, .int 0, .int 0, .int 0, .null, .int 0, .null, .null, .int 0, .int 0, .int 0, .null, .null, .null, .null, .null, .int 0, .null, .null, .null, .null, .null, .null, .null, .null, .null, .null, .null, .null, .null]) rfl fk_X9_48 (by decide) ⟨rfl, rfl⟩ (tyX9_ok 13 (by decide)) rfl rfl (Nat.le_of_ble_eq_true rfl) rfl (fun _ _ _ h => (hX _ _ _ h).2.2.1) dX9_init_103 ?_
  refine c_aload 0 dX9_init_106 rfl rfl ?_
  refine c_bipush (v := 40) dX9_init_107 (by decide) ?_
  refine c_newa (N := 40) (k := 12) (cs' := 12) (sl' := 33624) (a0 := (40, .inl (fun _ => 0))) 0 rfl aI (fun _ => rfl) (by decide) (by decide) (by decide) rfl (Nat.le_trans (by decide) hR.2.2.1) rfl (Nat.le_trans (by decide) hR.2.2.2) rfl dX9_init_109 ?_
  refine CW.cv (es' := [.inr (9, [.ref (n1 + 1), .ref (n1 + 2), .ref (n1 + 3), .int 0, .int (-1), .int (-1), .ref (n1 + 4), .ref (n1 + 5), .ref (n1 + 6), .ref (n1 + 7), .ref (n1 + 8), .ref (n1 + 9), .ref (n1 + 10), .ref (n1 + 11), .int 0, .int 0, .int 0, .int 0, .int 0, .int 0, .int 0, .int 0, .int 0, .null, .int 0, .null, .null, .int 0, .int 0, .int 0, .null, .null, .null, .null, .null, .int 0, .null, .null, .null, .null, .null, .null, .null, .null, .null, .null, .null, .null, .null]), zI w 14800, zI w 14800, zB w 300, zI w 4, zI w 96, zI w 96, zI w 96, zI w 96, zI w 96, zI w 1600, zI w 1600, zI w 40]) rfl ?_
  refine c_put (ci := 9) (k := 23) (T := TX9) (C := RX9) (N := 49) (fs' := [.ref (n1 + 1), .ref (n1 + 2), .ref (n1 + 3), .int 0, .int (-1), .int (-1), .ref (n1 + 4), .ref (n1 + 5), .ref (n1 + 6), .ref (n1 + 7), .ref (n1 + 8), .ref (n1 + 9), .ref (n1 + 10), .ref (n1 + 11), .int 0, .int 0, .int 0, .int 0, .int 0, .int 0, .int 0, .int 0, .int 0, .ref (n1 + 12), .int 0, .null, .null, .int 0, .int 0, .int 0, .null, .null, .null, .null, .null, .int 0, .null, .null, .null, .null, .null, .null, .null, .null, .null, .null, .null, .null, .null]) rfl fk_X9_51 (by decide) ⟨rfl, rfl⟩ (tyX9_ok 23 (by decide)) rfl rfl (Nat.le_of_ble_eq_true rfl) rfl (fun _ _ _ h => (hX _ _ _ h).2.2.1) dX9_init_111 ?_
  refine c_aload 0 dX9_init_114 rfl rfl ?_
  refine c_bipush (v := 80) dX9_init_115 (by decide) ?_
  refine c_newa (N := 80) (k := 13) (cs' := 13) (sl' := 33704) (a0 := (80, .inl (fun _ => 0))) 0 rfl aI (fun _ => rfl) (by decide) (by decide) (by decide) rfl (Nat.le_trans (by decide) hR.2.2.1) rfl (Nat.le_trans (by decide) hR.2.2.2) rfl dX9_init_117 ?_
  refine CW.cv (es' := [.inr (9, [.ref (n1 + 1), .ref (n1 + 2), .ref (n1 + 3), .int 0, .int (-1), .int (-1), .ref (n1 + 4), .ref (n1 + 5), .ref (n1 + 6), .ref (n1 + 7), .ref (n1 + 8), .ref (n1 + 9), .ref (n1 + 10), .ref (n1 + 11), .int 0, .int 0, .int 0, .int 0, .int 0, .int 0, .int 0, .int 0, .int 0, .ref (n1 + 12), .int 0, .null, .null, .int 0, .int 0, .int 0, .null, .null, .null, .null, .null, .int 0, .null, .null, .null, .null, .null, .null, .null, .null, .null, .null, .null, .null, .null]), zI w 14800, zI w 14800, zB w 300, zI w 4, zI w 96, zI w 96, zI w 96, zI w 96, zI w 96, zI w 1600, zI w 1600, zI w 40, zI w 80]) rfl ?_
  refine c_put (ci := 9) (k := 25) (T := TX9) (C := RX9) (N := 49) (fs' := [.ref (n1 + 1), .ref (n1 + 2), .ref (n1 + 3), .int 0, .int (-1), .int (-1), .ref (n1 + 4), .ref (n1 + 5), .ref (n1 + 6), .ref (n1 + 7), .ref (n1 + 8), .ref (n1 + 9), .ref (n1 + 10), .ref (n1 + 11), .int 0, .int 0, .int 0, .int 0, .int 0, .int 0, .int 0, .int 0, .int 0, .ref (n1 + 12), .int 0, .ref (n1 + 13), .null, .int 0, .int 0, .int 0, .null, .null, .null, .null, .null, .int 0, .null, .null, .null, .null, .null, .null, .null, .null, .null, .null, .null, .null, .null]) rfl fk_X9_54 (by decide) ⟨rfl, rfl⟩ (tyX9_ok 25 (by decide)) rfl rfl (Nat.le_of_ble_eq_true rfl) rfl (fun _ _ _ h => (hX _ _ _ h).2.2.1) dX9_init_119 ?_
  refine c_aload 0 dX9_init_122 rfl rfl ?_
  refine c_bipush (v := 80) dX9_init_123 (by decide) ?_
  refine c_newa (N := 80) (k := 14) (cs' := 14) (sl' := 33784) (a0 := (80, .inl (fun _ => 0))) 0 rfl aI (fun _ => rfl) (by decide) (by decide) (by decide) rfl (Nat.le_trans (by decide) hR.2.2.1) rfl (Nat.le_trans (by decide) hR.2.2.2) rfl dX9_init_125 ?_
  refine CW.cv (es' := [.inr (9, [.ref (n1 + 1), .ref (n1 + 2), .ref (n1 + 3), .int 0, .int (-1), .int (-1), .ref (n1 + 4), .ref (n1 + 5), .ref (n1 + 6), .ref (n1 + 7), .ref (n1 + 8), .ref (n1 + 9), .ref (n1 + 10), .ref (n1 + 11), .int 0, .int 0, .int 0, .int 0, .int 0, .int 0, .int 0, .int 0, .int 0, .ref (n1 + 12), .int 0, .ref (n1 + 13), .null, .int 0, .int 0, .int 0, .null, .null, .null, .null, .null, .int 0, .null, .null, .null, .null, .null, .null, .null, .null, .null, .null, .null, .null, .null]), zI w 14800, zI w 14800, zB w 300, zI w 4, zI w 96, zI w 96, zI w 96, zI w 96, zI w 96, zI w 1600, zI w 1600, zI w 40, zI w 80, zI w 80]) rfl ?_
  refine c_put (ci := 9) (k := 26) (T := TX9) (C := RX9) (N := 49) (fs' := [.ref (n1 + 1), .ref (n1 + 2), .ref (n1 + 3), .int 0, .int (-1), .int (-1), .ref (n1 + 4), .ref (n1 + 5), .ref (n1 + 6), .ref (n1 + 7), .ref (n1 + 8), .ref (n1 + 9), .ref (n1 + 10), .ref (n1 + 11), .int 0, .int 0, .int 0, .int 0, .int 0, .int 0, .int 0, .int 0, .int 0, .ref (n1 + 12), .int 0, .ref (n1 + 13), .ref (n1 + 14), .int 0, .int 0, .int 0, .null, .null, .null, .null, .null, .int 0, .null, .null, .null, .null, .null, .null, .null, .null, .null, .null, .null, .null, .null]) rfl fk_X9_57 (by decide) ⟨rfl, rfl⟩ (tyX9_ok 26 (by decide)) rfl rfl (Nat.le_of_ble_eq_true rfl) rfl (fun _ _ _ h => (hX _ _ _ h).2.2.1) dX9_init_127 ?_
  refine c_aload 0 dX9_init_130 rfl rfl ?_
  refine c_bipush (v := 24) dX9_init_131 (by decide) ?_
  refine c_newa (N := 24) (k := 15) (cs' := 15) (sl' := 33808) (a0 := (24, .inl (fun _ => 0))) 0 rfl aI (fun _ => rfl) (by decide) (by decide) (by decide) rfl (Nat.le_trans (by decide) hR.2.2.1) rfl (Nat.le_trans (by decide) hR.2.2.2) rfl dX9_init_133 ?_
  refine CW.cv (es' := [.inr (9, [.ref (n1 + 1), .ref (n1 + 2), .ref (n1 + 3), .int 0, .int (-1), .int (-1), .ref (n1 + 4), .ref (n1 + 5), .ref (n1 + 6), .ref (n1 + 7), .ref (n1 + 8), .ref (n1 + 9), .ref (n1 + 10), .ref (n1 + 11), .int 0, .int 0, .int 0, .int 0, .int 0, .int 0, .int 0, .int 0, .int 0, .ref (n1 + 12), .int 0, .ref (n1 + 13), .ref (n1 + 14), .int 0, .int 0, .int 0, .null, .null, .null, .null, .null, .int 0, .null, .null, .null, .null, .null, .null, .null, .null, .null, .null, .null, .null, .null]), zI w 14800, zI w 14800, zB w 300, zI w 4, zI w 96, zI w 96, zI w 96, zI w 96, zI w 96, zI w 1600, zI w 1600, zI w 40, zI w 80, zI w 80, zI w 24]) rfl ?_
  refine c_put (ci := 9) (k := 30) (T := TX9) (C := RX9) (N := 49) (fs' := [.ref (n1 + 1), .ref (n1 + 2), .ref (n1 + 3), .int 0, .int (-1), .int (-1), .ref (n1 + 4), .ref (n1 + 5), .ref (n1 + 6), .ref (n1 + 7), .ref (n1 + 8), .ref (n1 + 9), .ref (n1 + 10), .ref (n1 + 11), .int 0, .int 0, .int 0, .int 0, .int 0, .int 0, .int 0, .int 0, .int 0, .ref (n1 + 12), .int 0, .ref (n1 + 13), .ref (n1 + 14), .int 0, .int 0, .int 0, .ref (n1 + 15), .null, .null, .null, .null, .int 0, .null, .null, .null, .null, .null, .null, .null, .null, .null, .null, .null, .null, .null]) rfl fk_X9_60 (by decide) ⟨rfl, rfl⟩ (tyX9_ok 30 (by decide)) rfl rfl (Nat.le_of_ble_eq_true rfl) rfl (fun _ _ _ h => (hX _ _ _ h).2.2.1) dX9_init_135 ?_
  refine c_aload 0 dX9_init_138 rfl rfl ?_
  refine c_bipush (v := 24) dX9_init_139 (by decide) ?_
  refine c_newa (N := 24) (k := 16) (cs' := 16) (sl' := 33832) (a0 := (24, .inl (fun _ => 0))) 0 rfl aI (fun _ => rfl) (by decide) (by decide) (by decide) rfl (Nat.le_trans (by decide) hR.2.2.1) rfl (Nat.le_trans (by decide) hR.2.2.2) rfl dX9_init_141 ?_
  refine CW.cv (es' := [.inr (9, [.ref (n1 + 1), .ref (n1 + 2), .ref (n1 + 3), .int 0, .int (-1), .int (-1), .ref (n1 + 4), .ref (n1 + 5), .ref (n1 + 6), .ref (n1 + 7), .ref (n1 + 8), .ref (n1 + 9), .ref (n1 + 10), .ref (n1 + 11), .int 0, .int 0, .int 0, .int 0, .int 0, .int 0, .int 0, .int 0, .int 0, .ref (n1 + 12), .int 0, .ref (n1 + 13), .ref (n1 + 14), .int 0, .int 0, .int 0, .ref (n1 + 15), .null, .null, .null, .null, .int 0, .null, .null, .null, .null, .null, .null, .null, .null, .null, .null, .null, .null, .null]), zI w 14800, zI w 14800, zB w 300, zI w 4, zI w 96, zI w 96, zI w 96, zI w 96, zI w 96, zI w 1600, zI w 1600, zI w 40, zI w 80, zI w 80, zI w 24, zI w 24]) rfl ?_
  refine c_put (ci := 9) (k := 31) (T := TX9) (C := RX9) (N := 49) (fs' := [.ref (n1 + 1), .ref (n1 + 2), .ref (n1 + 3), .int 0, .int (-1), .int (-1), .ref (n1 + 4), .ref (n1 + 5), .ref (n1 + 6), .ref (n1 + 7), .ref (n1 + 8), .ref (n1 + 9), .ref (n1 + 10), .ref (n1 + 11), .int 0, .int 0, .int 0, .int 0, .int 0, .int 0, .int 0, .int 0, .int 0, .ref (n1 + 12), .int 0, .ref (n1 + 13), .ref (n1 + 14), .int 0, .int 0, .int 0, .ref (n1 + 15), .ref (n1 + 16), .null, .null, .null, .int 0, .null, .null, .null, .null, .null, .null, .null, .null, .null, .null, .null, .null, .null]) rfl fk_X9_63 (by decide) ⟨rfl, rfl⟩ (tyX9_ok 31 (by decide)) rfl rfl (Nat.le_of_ble_eq_true rfl) rfl (fun _ _ _ h => (hX _ _ _ h).2.2.1) dX9_init_143 ?_
  refine c_aload 0 dX9_init_146 rfl rfl ?_
  refine c_bipush (v := 24) dX9_init_147 (by decide) ?_
  refine c_newa (N := 24) (k := 17) (cs' := 17) (sl' := 33856) (a0 := (24, .inl (fun _ => 0))) 0 rfl aI (fun _ => rfl) (by decide) (by decide) (by decide) rfl (Nat.le_trans (by decide) hR.2.2.1) rfl (Nat.le_trans (by decide) hR.2.2.2) rfl dX9_init_149 ?_
  refine CW.cv (es' := [.inr (9, [.ref (n1 + 1), .ref (n1 + 2), .ref (n1 + 3), .int 0, .int (-1), .int (-1), .ref (n1 + 4), .ref (n1 + 5), .ref (n1 + 6), .ref (n1 + 7), .ref (n1 + 8), .ref (n1 + 9), .ref (n1 + 10), .ref (n1 + 11), .int 0, .int 0, .int 0, .int 0, .int 0, .int 0, .int 0, .int 0, .int 0, .ref (n1 + 12), .int 0, .ref (n1 + 13), .ref (n1 + 14), .int 0, .int 0, .int 0, .ref (n1 + 15), .ref (n1 + 16), .null, .null, .null, .int 0, .null, .null, .null, .null, .null, .null, .null, .null, .null, .null, .null, .null, .null]), zI w 14800, zI w 14800, zB w 300, zI w 4, zI w 96, zI w 96, zI w 96, zI w 96, zI w 96, zI w 1600, zI w 1600, zI w 40, zI w 80, zI w 80, zI w 24, zI w 24, zI w 24]) rfl ?_
  refine c_put (ci := 9) (k := 32) (T := TX9) (C := RX9) (N := 49) (fs' := [.ref (n1 + 1), .ref (n1 + 2), .ref (n1 + 3), .int 0, .int (-1), .int (-1), .ref (n1 + 4), .ref (n1 + 5), .ref (n1 + 6), .ref (n1 + 7), .ref (n1 + 8), .ref (n1 + 9), .ref (n1 + 10), .ref (n1 + 11), .int 0, .int 0, .int 0, .int 0, .int 0, .int 0, .int 0, .int 0, .int 0, .ref (n1 + 12), .int 0, .ref (n1 + 13), .ref (n1 + 14), .int 0, .int 0, .int 0, .ref (n1 + 15), .ref (n1 + 16), .ref (n1 + 17), .null, .null, .int 0, .null, .null, .null, .null, .null, .null, .null, .null, .null, .null, .null, .null, .null]) rfl fk_X9_66 (by decide) ⟨rfl, rfl⟩ (tyX9_ok 32 (by decide)) rfl rfl (Nat.le_of_ble_eq_true rfl) rfl (fun _ _ _ h => (hX _ _ _ h).2.2.1) dX9_init_151 ?_
  refine c_aload 0 dX9_init_154 rfl rfl ?_
  refine c_bipush (v := 24) dX9_init_155 (by decide) ?_
  refine c_newa (N := 24) (k := 18) (cs' := 18) (sl' := 33880) (a0 := (24, .inl (fun _ => 0))) 0 rfl aI (fun _ => rfl) (by decide) (by decide) (by decide) rfl (Nat.le_trans (by decide) hR.2.2.1) rfl (Nat.le_trans (by decide) hR.2.2.2) rfl dX9_init_157 ?_
  refine CW.cv (es' := [.inr (9, [.ref (n1 + 1), .ref (n1 + 2), .ref (n1 + 3), .int 0, .int (-1), .int (-1), .ref (n1 + 4), .ref (n1 + 5), .ref (n1 + 6), .ref (n1 + 7), .ref (n1 + 8), .ref (n1 + 9), .ref (n1 + 10), .ref (n1 + 11), .int 0, .int 0, .int 0, .int 0, .int 0, .int 0, .int 0, .int 0, .int 0, .ref (n1 + 12), .int 0, .ref (n1 + 13), .ref (n1 + 14), .int 0, .int 0, .int 0, .ref (n1 + 15), .ref (n1 + 16), .ref (n1 + 17), .null, .null, .int 0, .null, .null, .null, .null, .null, .null, .null, .null, .null, .null, .null, .null, .null]), zI w 14800, zI w 14800, zB w 300, zI w 4, zI w 96, zI w 96, zI w 96, zI w 96, zI w 96, zI w 1600, zI w 1600, zI w 40, zI w 80, zI w 80, zI w 24, zI w 24, zI w 24, zI w 24]) rfl ?_
  refine c_put (ci := 9) (k := 33) (T := TX9) (C := RX9) (N := 49) (fs' := [.ref (n1 + 1), .ref (n1 + 2), .ref (n1 + 3), .int 0, .int (-1), .int (-1), .ref (n1 + 4), .ref (n1 + 5), .ref (n1 + 6), .ref (n1 + 7), .ref (n1 + 8), .ref (n1 + 9), .ref (n1 + 10), .ref (n1 + 11), .int 0, .int 0, .int 0, .int 0, .int 0, .int 0, .int 0, .int 0, .int 0, .ref (n1 + 12), .int 0, .ref (n1 + 13), .ref (n1 + 14), .int 0, .int 0, .int 0, .ref (n1 + 15), .ref (n1 + 16), .ref (n1 + 17), .ref (n1 + 18), .null, .int 0, .null, .null, .null, .null, .null, .null, .null, .null, .null, .null, .null, .null, .null]) rfl fk_X9_69 (by decide) ⟨rfl, rfl⟩ (tyX9_ok 33 (by decide)) rfl rfl (Nat.le_of_ble_eq_true rfl) rfl (fun _ _ _ h => (hX _ _ _ h).2.2.1) dX9_init_159 ?_
  refine c_aload 0 dX9_init_162 rfl rfl ?_
  refine c_bipush (v := 24) dX9_init_163 (by decide) ?_
  refine c_newa (N := 24) (k := 19) (cs' := 19) (sl' := 33904) (a0 := (24, .inl (fun _ => 0))) 0 rfl aI (fun _ => rfl) (by decide) (by decide) (by decide) rfl (Nat.le_trans (by decide) hR.2.2.1) rfl (Nat.le_trans (by decide) hR.2.2.2) rfl dX9_init_165 ?_
  refine CW.cv (es' := [.inr (9, [.ref (n1 + 1), .ref (n1 + 2), .ref (n1 + 3), .int 0, .int (-1), .int (-1), .ref (n1 + 4), .ref (n1 + 5), .ref (n1 + 6), .ref (n1 + 7), .ref (n1 + 8), .ref (n1 + 9), .ref (n1 + 10), .ref (n1 + 11), .int 0, .int 0, .int 0, .int 0, .int 0, .int 0, .int 0, .int 0, .int 0, .ref (n1 + 12), .int 0, .ref (n1 + 13), .ref (n1 + 14), .int 0, .int 0, .int 0, .ref (n1 + 15), .ref (n1 + 16), .ref (n1 + 17), .ref (n1 + 18), .null, .int 0, .null, .null, .null, .null, .null, .null, .null, .null, .null, .null, .null, .null, .null]), zI w 14800, zI w 14800, zB w 300, zI w 4, zI w 96, zI w 96, zI w 96, zI w 96, zI w 96, zI w 1600, zI w 1600, zI w 40, zI w 80, zI w 80, zI w 24, zI w 24, zI w 24, zI w 24, zI w 24]) rfl ?_
  refine c_put (ci := 9) (k := 34) (T := TX9) (C := RX9) (N := 49) (fs' := [.ref (n1 + 1), .ref (n1 + 2), .ref (n1 + 3), .int 0, .int (-1), .int (-1), .ref (n1 + 4), .ref (n1 + 5), .ref (n1 + 6), .ref (n1 + 7), .ref (n1 + 8), .ref (n1 + 9), .ref (n1 + 10), .ref (n1 + 11), .int 0, .int 0, .int 0, .int 0, .int 0, .int 0, .int 0, .int 0, .int 0, .ref (n1 + 12), .int 0, .ref (n1 + 13), .ref (n1 + 14), .int 0, .int 0, .int 0, .ref (n1 + 15), .ref (n1 + 16), .ref (n1 + 17), .ref (n1 + 18), .ref (n1 + 19), .int 0, .null, .null, .null, .null, .null, .null, .null, .null, .null, .null, .null, .null, .null]) rfl fk_X9_72 (by decide) ⟨rfl, rfl⟩ (tyX9_ok 34 (by decide)) rfl rfl (Nat.le_of_ble_eq_true rfl) rfl (fun _ _ _ h => (hX _ _ _ h).2.2.1) dX9_init_167 ?_
  refine c_aload 0 dX9_init_170 rfl rfl ?_
  refine c_sipush (v := 400) dX9_init_171 (by decide) ?_
  refine c_newa (N := 400) (k := 20) (cs' := 20) (sl' := 34304) (a0 := (400, .inl (fun _ => 0))) 0 rfl aI (fun _ => rfl) (by decide) (by decide) (by decide) rfl (Nat.le_trans (by decide) hR.2.2.1) rfl (Nat.le_trans (by decide) hR.2.2.2) rfl dX9_init_174 ?_
  refine CW.cv (es' := [.inr (9, [.ref (n1 + 1), .ref (n1 + 2), .ref (n1 + 3), .int 0, .int (-1), .int (-1), .ref (n1 + 4), .ref (n1 + 5), .ref (n1 + 6), .ref (n1 + 7), .ref (n1 + 8), .ref (n1 + 9), .ref (n1 + 10), .ref (n1 + 11), .int 0, .int 0, .int 0, .int 0, .int 0, .int 0, .int 0, .int 0, .int 0, .ref (n1 + 12), .int 0, .ref (n1 + 13), .ref (n1 + 14), .int 0, .int 0, .int 0, .ref (n1 + 15), .ref (n1 + 16), .ref (n1 + 17), .ref (n1 + 18), .ref (n1 + 19), .int 0, .null, .null, .null, .null, .null, .null, .null, .null, .null, .null, .null, .null, .null]), zI w 14800, zI w 14800, zB w 300, zI w 4, zI w 96, zI w 96, zI w 96, zI w 96, zI w 96, zI w 1600, zI w 1600, zI w 40, zI w 80, zI w 80, zI w 24, zI w 24, zI w 24, zI w 24, zI w 24, zI w 400]) rfl ?_
  refine c_put (ci := 9) (k := 36) (T := TX9) (C := RX9) (N := 49) (fs' := [.ref (n1 + 1), .ref (n1 + 2), .ref (n1 + 3), .int 0, .int (-1), .int (-1), .ref (n1 + 4), .ref (n1 + 5), .ref (n1 + 6), .ref (n1 + 7), .ref (n1 + 8), .ref (n1 + 9), .ref (n1 + 10), .ref (n1 + 11), .int 0, .int 0, .int 0, .int 0, .int 0, .int 0, .int 0, .int 0, .int 0, .ref (n1 + 12), .int 0, .ref (n1 + 13), .ref (n1 + 14), .int 0, .int 0, .int 0, .ref (n1 + 15), .ref (n1 + 16), .ref (n1 + 17), .ref (n1 + 18), .ref (n1 + 19), .int 0, .ref (n1 + 20), .null, .null, .null, .null, .null, .null, .null, .null, .null, .null, .null, .null]) rfl fk_X9_75 (by decide) ⟨rfl, rfl⟩ (tyX9_ok 36 (by decide)) rfl rfl (Nat.le_of_ble_eq_true rfl) rfl (fun _ _ _ h => (hX _ _ _ h).2.2.1) dX9_init_176 ?_
  refine c_aload 0 dX9_init_179 rfl rfl ?_
  refine c_sipush (v := 400) dX9_init_180 (by decide) ?_
  refine c_newa (N := 400) (k := 21) (cs' := 21) (sl' := 34704) (a0 := (400, .inl (fun _ => 0))) 0 rfl aI (fun _ => rfl) (by decide) (by decide) (by decide) rfl (Nat.le_trans (by decide) hR.2.2.1) rfl (Nat.le_trans (by decide) hR.2.2.2) rfl dX9_init_183 ?_
  refine CW.cv (es' := [.inr (9, [.ref (n1 + 1), .ref (n1 + 2), .ref (n1 + 3), .int 0, .int (-1), .int (-1), .ref (n1 + 4), .ref (n1 + 5), .ref (n1 + 6), .ref (n1 + 7), .ref (n1 + 8), .ref (n1 + 9), .ref (n1 + 10), .ref (n1 + 11), .int 0, .int 0, .int 0, .int 0, .int 0, .int 0, .int 0, .int 0, .int 0, .ref (n1 + 12), .int 0, .ref (n1 + 13), .ref (n1 + 14), .int 0, .int 0, .int 0, .ref (n1 + 15), .ref (n1 + 16), .ref (n1 + 17), .ref (n1 + 18), .ref (n1 + 19), .int 0, .ref (n1 + 20), .null, .null, .null, .null, .null, .null, .null, .null, .null, .null, .null, .null]), zI w 14800, zI w 14800, zB w 300, zI w 4, zI w 96, zI w 96, zI w 96, zI w 96, zI w 96, zI w 1600, zI w 1600, zI w 40, zI w 80, zI w 80, zI w 24, zI w 24, zI w 24, zI w 24, zI w 24, zI w 400, zI w 400]) rfl ?_
  refine c_put (ci := 9) (k := 37) (T := TX9) (C := RX9) (N := 49) (fs' := [.ref (n1 + 1), .ref (n1 + 2), .ref (n1 + 3), .int 0, .int (-1), .int (-1), .ref (n1 + 4), .ref (n1 + 5), .ref (n1 + 6), .ref (n1 + 7), .ref (n1 + 8), .ref (n1 + 9), .ref (n1 + 10), .ref (n1 + 11), .int 0, .int 0, .int 0, .int 0, .int 0, .int 0, .int 0, .int 0, .int 0, .ref (n1 + 12), .int 0, .ref (n1 + 13), .ref (n1 + 14), .int 0, .int 0, .int 0, .ref (n1 + 15), .ref (n1 + 16), .ref (n1 + 17), .ref (n1 + 18), .ref (n1 + 19), .int 0, .ref (n1 + 20), .ref (n1 + 21), .null, .null, .null, .null, .null, .null, .null, .null, .null, .null, .null]) rfl fk_X9_78 (by decide) ⟨rfl, rfl⟩ (tyX9_ok 37 (by decide)) rfl rfl (Nat.le_of_ble_eq_true rfl) rfl (fun _ _ _ h => (hX _ _ _ h).2.2.1) dX9_init_185 ?_
  refine c_aload 0 dX9_init_188 rfl rfl ?_
  refine c_bipush (v := 8) dX9_init_189 (by decide) ?_
  refine c_newa (N := 8) (k := 22) (cs' := 22) (sl' := 34712) (a0 := (8, .inl (fun _ => 0))) 0 rfl aI (fun _ => rfl) (by decide) (by decide) (by decide) rfl (Nat.le_trans (by decide) hR.2.2.1) rfl (Nat.le_trans (by decide) hR.2.2.2) rfl dX9_init_191 ?_
  refine CW.cv (es' := [.inr (9, [.ref (n1 + 1), .ref (n1 + 2), .ref (n1 + 3), .int 0, .int (-1), .int (-1), .ref (n1 + 4), .ref (n1 + 5), .ref (n1 + 6), .ref (n1 + 7), .ref (n1 + 8), .ref (n1 + 9), .ref (n1 + 10), .ref (n1 + 11), .int 0, .int 0, .int 0, .int 0, .int 0, .int 0, .int 0, .int 0, .int 0, .ref (n1 + 12), .int 0, .ref (n1 + 13), .ref (n1 + 14), .int 0, .int 0, .int 0, .ref (n1 + 15), .ref (n1 + 16), .ref (n1 + 17), .ref (n1 + 18), .ref (n1 + 19), .int 0, .ref (n1 + 20), .ref (n1 + 21), .null, .null, .null, .null, .null, .null, .null, .null, .null, .null, .null]), zI w 14800, zI w 14800, zB w 300, zI w 4, zI w 96, zI w 96, zI w 96, zI w 96, zI w 96, zI w 1600, zI w 1600, zI w 40, zI w 80, zI w 80, zI w 24, zI w 24, zI w 24, zI w 24, zI w 24, zI w 400, zI w 400, zI w 8]) rfl ?_
  refine c_put (ci := 9) (k := 38) (T := TX9) (C := RX9) (N := 49) (fs' := [.ref (n1 + 1), .ref (n1 + 2), .ref (n1 + 3), .int 0, .int (-1), .int (-1), .ref (n1 + 4), .ref (n1 + 5), .ref (n1 + 6), .ref (n1 + 7), .ref (n1 + 8), .ref (n1 + 9), .ref (n1 + 10), .ref (n1 + 11), .int 0, .int 0, .int 0, .int 0, .int 0, .int 0, .int 0, .int 0, .int 0, .ref (n1 + 12), .int 0, .ref (n1 + 13), .ref (n1 + 14), .int 0, .int 0, .int 0, .ref (n1 + 15), .ref (n1 + 16), .ref (n1 + 17), .ref (n1 + 18), .ref (n1 + 19), .int 0, .ref (n1 + 20), .ref (n1 + 21), .ref (n1 + 22), .null, .null, .null, .null, .null, .null, .null, .null, .null, .null]) rfl fk_X9_81 (by decide) ⟨rfl, rfl⟩ (tyX9_ok 38 (by decide)) rfl rfl (Nat.le_of_ble_eq_true rfl) rfl (fun _ _ _ h => (hX _ _ _ h).2.2.1) dX9_init_193 ?_
  refine c_aload 0 dX9_init_196 rfl rfl ?_
  refine c_sipush (v := 200) dX9_init_197 (by decide) ?_
  refine c_newa (N := 200) (k := 23) (cs' := 23) (sl' := 34912) (a0 := (200, .inr (.inl (fun _ => 0)))) 3 rfl aJ (fun _ => rfl) (by decide) (by decide) (by decide) rfl (Nat.le_trans (by decide) hR.2.2.1) rfl (Nat.le_trans (by decide) hR.2.2.2) rfl dX9_init_200 ?_
  refine CW.cv (es' := [.inr (9, [.ref (n1 + 1), .ref (n1 + 2), .ref (n1 + 3), .int 0, .int (-1), .int (-1), .ref (n1 + 4), .ref (n1 + 5), .ref (n1 + 6), .ref (n1 + 7), .ref (n1 + 8), .ref (n1 + 9), .ref (n1 + 10), .ref (n1 + 11), .int 0, .int 0, .int 0, .int 0, .int 0, .int 0, .int 0, .int 0, .int 0, .ref (n1 + 12), .int 0, .ref (n1 + 13), .ref (n1 + 14), .int 0, .int 0, .int 0, .ref (n1 + 15), .ref (n1 + 16), .ref (n1 + 17), .ref (n1 + 18), .ref (n1 + 19), .int 0, .ref (n1 + 20), .ref (n1 + 21), .ref (n1 + 22), .null, .null, .null, .null, .null, .null, .null, .null, .null, .null]), zI w 14800, zI w 14800, zB w 300, zI w 4, zI w 96, zI w 96, zI w 96, zI w 96, zI w 96, zI w 1600, zI w 1600, zI w 40, zI w 80, zI w 80, zI w 24, zI w 24, zI w 24, zI w 24, zI w 24, zI w 400, zI w 400, zI w 8, zJ w 200]) rfl ?_
  refine c_put (ci := 9) (k := 39) (T := TX9) (C := RX9) (N := 49) (fs' := [.ref (n1 + 1), .ref (n1 + 2), .ref (n1 + 3), .int 0, .int (-1), .int (-1), .ref (n1 + 4), .ref (n1 + 5), .ref (n1 + 6), .ref (n1 + 7), .ref (n1 + 8), .ref (n1 + 9), .ref (n1 + 10), .ref (n1 + 11), .int 0, .int 0, .int 0, .int 0, .int 0, .int 0, .int 0, .int 0, .int 0, .ref (n1 + 12), .int 0, .ref (n1 + 13), .ref (n1 + 14), .int 0, .int 0, .int 0, .ref (n1 + 15), .ref (n1 + 16), .ref (n1 + 17), .ref (n1 + 18), .ref (n1 + 19), .int 0, .ref (n1 + 20), .ref (n1 + 21), .ref (n1 + 22), .ref (n1 + 23), .null, .null, .null, .null, .null, .null, .null, .null, .null]) rfl fk_X9_84 (by decide) ⟨rfl, rfl⟩ (tyX9_ok 39 (by decide)) rfl rfl (Nat.le_of_ble_eq_true rfl) rfl (fun _ _ _ h => (hX _ _ _ h).2.2.1) dX9_init_202 ?_
  refine c_aload 0 dX9_init_205 rfl rfl ?_
  refine c_bipush (v := 12) dX9_init_206 (by decide) ?_
  refine c_newa (N := 12) (k := 24) (cs' := 24) (sl' := 34924) (a0 := (12, .inl (fun _ => 0))) 0 rfl aI (fun _ => rfl) (by decide) (by decide) (by decide) rfl (Nat.le_trans (by decide) hR.2.2.1) rfl (Nat.le_trans (by decide) hR.2.2.2) rfl dX9_init_208 ?_
  refine CW.cv (es' := [.inr (9, [.ref (n1 + 1), .ref (n1 + 2), .ref (n1 + 3), .int 0, .int (-1), .int (-1), .ref (n1 + 4), .ref (n1 + 5), .ref (n1 + 6), .ref (n1 + 7), .ref (n1 + 8), .ref (n1 + 9), .ref (n1 + 10), .ref (n1 + 11), .int 0, .int 0, .int 0, .int 0, .int 0, .int 0, .int 0, .int 0, .int 0, .ref (n1 + 12), .int 0, .ref (n1 + 13), .ref (n1 + 14), .int 0, .int 0, .int 0, .ref (n1 + 15), .ref (n1 + 16), .ref (n1 + 17), .ref (n1 + 18), .ref (n1 + 19), .int 0, .ref (n1 + 20), .ref (n1 + 21), .ref (n1 + 22), .ref (n1 + 23), .null, .null, .null, .null, .null, .null, .null, .null, .null]), zI w 14800, zI w 14800, zB w 300, zI w 4, zI w 96, zI w 96, zI w 96, zI w 96, zI w 96, zI w 1600, zI w 1600, zI w 40, zI w 80, zI w 80, zI w 24, zI w 24, zI w 24, zI w 24, zI w 24, zI w 400, zI w 400, zI w 8, zJ w 200, zI w 12]) rfl ?_
  refine c_put (ci := 9) (k := 40) (T := TX9) (C := RX9) (N := 49) (fs' := [.ref (n1 + 1), .ref (n1 + 2), .ref (n1 + 3), .int 0, .int (-1), .int (-1), .ref (n1 + 4), .ref (n1 + 5), .ref (n1 + 6), .ref (n1 + 7), .ref (n1 + 8), .ref (n1 + 9), .ref (n1 + 10), .ref (n1 + 11), .int 0, .int 0, .int 0, .int 0, .int 0, .int 0, .int 0, .int 0, .int 0, .ref (n1 + 12), .int 0, .ref (n1 + 13), .ref (n1 + 14), .int 0, .int 0, .int 0, .ref (n1 + 15), .ref (n1 + 16), .ref (n1 + 17), .ref (n1 + 18), .ref (n1 + 19), .int 0, .ref (n1 + 20), .ref (n1 + 21), .ref (n1 + 22), .ref (n1 + 23), .ref (n1 + 24), .null, .null, .null, .null, .null, .null, .null, .null]) rfl fk_X9_88 (by decide) ⟨rfl, rfl⟩ (tyX9_ok 40 (by decide)) rfl rfl (Nat.le_of_ble_eq_true rfl) rfl (fun _ _ _ h => (hX _ _ _ h).2.2.1) dX9_init_210 ?_
  refine c_aload 0 dX9_init_213 rfl rfl ?_
  refine c_bipush (v := 12) dX9_init_214 (by decide) ?_
  refine c_newa (N := 12) (k := 25) (cs' := 25) (sl' := 34936) (a0 := (12, .inl (fun _ => 0))) 0 rfl aI (fun _ => rfl) (by decide) (by decide) (by decide) rfl (Nat.le_trans (by decide) hR.2.2.1) rfl (Nat.le_trans (by decide) hR.2.2.2) rfl dX9_init_216 ?_
  refine CW.cv (es' := [.inr (9, [.ref (n1 + 1), .ref (n1 + 2), .ref (n1 + 3), .int 0, .int (-1), .int (-1), .ref (n1 + 4), .ref (n1 + 5), .ref (n1 + 6), .ref (n1 + 7), .ref (n1 + 8), .ref (n1 + 9), .ref (n1 + 10), .ref (n1 + 11), .int 0, .int 0, .int 0, .int 0, .int 0, .int 0, .int 0, .int 0, .int 0, .ref (n1 + 12), .int 0, .ref (n1 + 13), .ref (n1 + 14), .int 0, .int 0, .int 0, .ref (n1 + 15), .ref (n1 + 16), .ref (n1 + 17), .ref (n1 + 18), .ref (n1 + 19), .int 0, .ref (n1 + 20), .ref (n1 + 21), .ref (n1 + 22), .ref (n1 + 23), .ref (n1 + 24), .null, .null, .null, .null, .null, .null, .null, .null]), zI w 14800, zI w 14800, zB w 300, zI w 4, zI w 96, zI w 96, zI w 96, zI w 96, zI w 96, zI w 1600, zI w 1600, zI w 40, zI w 80, zI w 80, zI w 24, zI w 24, zI w 24, zI w 24, zI w 24, zI w 400, zI w 400, zI w 8, zJ w 200, zI w 12, zI w 12]) rfl ?_
  refine c_put (ci := 9) (k := 41) (T := TX9) (C := RX9) (N := 49) (fs' := [.ref (n1 + 1), .ref (n1 + 2), .ref (n1 + 3), .int 0, .int (-1), .int (-1), .ref (n1 + 4), .ref (n1 + 5), .ref (n1 + 6), .ref (n1 + 7), .ref (n1 + 8), .ref (n1 + 9), .ref (n1 + 10), .ref (n1 + 11), .int 0, .int 0, .int 0, .int 0, .int 0, .int 0, .int 0, .int 0, .int 0, .ref (n1 + 12), .int 0, .ref (n1 + 13), .ref (n1 + 14), .int 0, .int 0, .int 0, .ref (n1 + 15), .ref (n1 + 16), .ref (n1 + 17), .ref (n1 + 18), .ref (n1 + 19), .int 0, .ref (n1 + 20), .ref (n1 + 21), .ref (n1 + 22), .ref (n1 + 23), .ref (n1 + 24), .ref (n1 + 25), .null, .null, .null, .null, .null, .null, .null]) rfl fk_X9_91 (by decide) ⟨rfl, rfl⟩ (tyX9_ok 41 (by decide)) rfl rfl (Nat.le_of_ble_eq_true rfl) rfl (fun _ _ _ h => (hX _ _ _ h).2.2.1) dX9_init_218 ?_
  refine c_aload 0 dX9_init_221 rfl rfl ?_
  refine c_bipush (v := 6) dX9_init_222 (by decide) ?_
  refine c_newa (N := 6) (k := 26) (cs' := 26) (sl' := 34942) (a0 := (6, .inl (fun _ => 0))) 0 rfl aI (fun _ => rfl) (by decide) (by decide) (by decide) rfl (Nat.le_trans (by decide) hR.2.2.1) rfl (Nat.le_trans (by decide) hR.2.2.2) rfl dX9_init_224 ?_
  refine CW.cv (es' := [.inr (9, [.ref (n1 + 1), .ref (n1 + 2), .ref (n1 + 3), .int 0, .int (-1), .int (-1), .ref (n1 + 4), .ref (n1 + 5), .ref (n1 + 6), .ref (n1 + 7), .ref (n1 + 8), .ref (n1 + 9), .ref (n1 + 10), .ref (n1 + 11), .int 0, .int 0, .int 0, .int 0, .int 0, .int 0, .int 0, .int 0, .int 0, .ref (n1 + 12), .int 0, .ref (n1 + 13), .ref (n1 + 14), .int 0, .int 0, .int 0, .ref (n1 + 15), .ref (n1 + 16), .ref (n1 + 17), .ref (n1 + 18), .ref (n1 + 19), .int 0, .ref (n1 + 20), .ref (n1 + 21), .ref (n1 + 22), .ref (n1 + 23), .ref (n1 + 24), .ref (n1 + 25), .null, .null, .null, .null, .null, .null, .null]), zI w 14800, zI w 14800, zB w 300, zI w 4, zI w 96, zI w 96, zI w 96, zI w 96, zI w 96, zI w 1600, zI w 1600, zI w 40, zI w 80, zI w 80, zI w 24, zI w 24, zI w 24, zI w 24, zI w 24, zI w 400, zI w 400, zI w 8, zJ w 200, zI w 12, zI w 12, zI w 6]) rfl ?_
  refine c_put (ci := 9) (k := 42) (T := TX9) (C := RX9) (N := 49) (fs' := [.ref (n1 + 1), .ref (n1 + 2), .ref (n1 + 3), .int 0, .int (-1), .int (-1), .ref (n1 + 4), .ref (n1 + 5), .ref (n1 + 6), .ref (n1 + 7), .ref (n1 + 8), .ref (n1 + 9), .ref (n1 + 10), .ref (n1 + 11), .int 0, .int 0, .int 0, .int 0, .int 0, .int 0, .int 0, .int 0, .int 0, .ref (n1 + 12), .int 0, .ref (n1 + 13), .ref (n1 + 14), .int 0, .int 0, .int 0, .ref (n1 + 15), .ref (n1 + 16), .ref (n1 + 17), .ref (n1 + 18), .ref (n1 + 19), .int 0, .ref (n1 + 20), .ref (n1 + 21), .ref (n1 + 22), .ref (n1 + 23), .ref (n1 + 24), .ref (n1 + 25), .ref (n1 + 26), .null, .null, .null, .null, .null, .null]) rfl fk_X9_94 (by decide) ⟨rfl, rfl⟩ (tyX9_ok 42 (by decide)) rfl rfl (Nat.le_of_ble_eq_true rfl) rfl (fun _ _ _ h => (hX _ _ _ h).2.2.1) dX9_init_226 ?_
  refine c_aload 0 dX9_init_229 rfl rfl ?_
  refine c_bipush (v := 6) dX9_init_230 (by decide) ?_
  refine c_newa (N := 6) (k := 27) (cs' := 27) (sl' := 34948) (a0 := (6, .inl (fun _ => 0))) 0 rfl aI (fun _ => rfl) (by decide) (by decide) (by decide) rfl (Nat.le_trans (by decide) hR.2.2.1) rfl (Nat.le_trans (by decide) hR.2.2.2) rfl dX9_init_232 ?_
  refine CW.cv (es' := [.inr (9, [.ref (n1 + 1), .ref (n1 + 2), .ref (n1 + 3), .int 0, .int (-1), .int (-1), .ref (n1 + 4), .ref (n1 + 5), .ref (n1 + 6), .ref (n1 + 7), .ref (n1 + 8), .ref (n1 + 9), .ref (n1 + 10), .ref (n1 + 11), .int 0, .int 0, .int 0, .int 0, .int 0, .int 0, .int 0, .int 0, .int 0, .ref (n1 + 12), .int 0, .ref (n1 + 13), .ref (n1 + 14), .int 0, .int 0, .int 0, .ref (n1 + 15), .ref (n1 + 16), .ref (n1 + 17), .ref (n1 + 18), .ref (n1 + 19), .int 0, .ref (n1 + 20), .ref (n1 + 21), .ref (n1 + 22), .ref (n1 + 23), .ref (n1 + 24), .ref (n1 + 25), .ref (n1 + 26), .null, .null, .null, .null, .null, .null]), zI w 14800, zI w 14800, zB w 300, zI w 4, zI w 96, zI w 96, zI w 96, zI w 96, zI w 96, zI w 1600, zI w 1600, zI w 40, zI w 80, zI w 80, zI w 24, zI w 24, zI w 24, zI w 24, zI w 24, zI w 400, zI w 400, zI w 8, zJ w 200, zI w 12, zI w 12, zI w 6, zI w 6]) rfl ?_
  refine c_put (ci := 9) (k := 43) (T := TX9) (C := RX9) (N := 49) (fs' := [.ref (n1 + 1), .ref (n1 + 2), .ref (n1 + 3), .int 0, .int (-1), .int (-1), .ref (n1 + 4), .ref (n1 + 5), .ref (n1 + 6), .ref (n1 + 7), .ref (n1 + 8), .ref (n1 + 9), .ref (n1 + 10), .ref (n1 + 11), .int 0, .int 0, .int 0, .int 0, .int 0, .int 0, .int 0, .int 0, .int 0, .ref (n1 + 12), .int 0, .ref (n1 + 13), .ref (n1 + 14), .int 0, .int 0, .int 0, .ref (n1 + 15), .ref (n1 + 16), .ref (n1 + 17), .ref (n1 + 18), .ref (n1 + 19), .int 0, .ref (n1 + 20), .ref (n1 + 21), .ref (n1 + 22), .ref (n1 + 23), .ref (n1 + 24), .ref (n1 + 25), .ref (n1 + 26), .ref (n1 + 27), .null, .null, .null, .null, .null]) rfl fk_X9_97 (by decide) ⟨rfl, rfl⟩ (tyX9_ok 43 (by decide)) rfl rfl (Nat.le_of_ble_eq_true rfl) rfl (fun _ _ _ h => (hX _ _ _ h).2.2.1) dX9_init_234 ?_
  refine c_aload 0 dX9_init_237 rfl rfl ?_
  refine c_bipush (v := 6) dX9_init_238 (by decide) ?_
  refine c_newa (N := 6) (k := 28) (cs' := 28) (sl' := 34954) (a0 := (6, .inl (fun _ => 0))) 0 rfl aI (fun _ => rfl) (by decide) (by decide) (by decide) rfl (Nat.le_trans (by decide) hR.2.2.1) rfl (Nat.le_trans (by decide) hR.2.2.2) rfl dX9_init_240 ?_
  refine CW.cv (es' := [.inr (9, [.ref (n1 + 1), .ref (n1 + 2), .ref (n1 + 3), .int 0, .int (-1), .int (-1), .ref (n1 + 4), .ref (n1 + 5), .ref (n1 + 6), .ref (n1 + 7), .ref (n1 + 8), .ref (n1 + 9), .ref (n1 + 10), .ref (n1 + 11), .int 0, .int 0, .int 0, .int 0, .int 0, .int 0, .int 0, .int 0, .int 0, .ref (n1 + 12), .int 0, .ref (n1 + 13), .ref (n1 + 14), .int 0, .int 0, .int 0, .ref (n1 + 15), .ref (n1 + 16), .ref (n1 + 17), .ref (n1 + 18), .ref (n1 + 19), .int 0, .ref (n1 + 20), .ref (n1 + 21), .ref (n1 + 22), .ref (n1 + 23), .ref (n1 + 24), .ref (n1 + 25), .ref (n1 + 26), .ref (n1 + 27), .null, .null, .null, .null, .null]), zI w 14800, zI w 14800, zB w 300, zI w 4, zI w 96, zI w 96, zI w 96, zI w 96, zI w 96, zI w 1600, zI w 1600, zI w 40, zI w 80, zI w 80, zI w 24, zI w 24, zI w 24, zI w 24, zI w 24, zI w 400, zI w 400, zI w 8, zJ w 200, zI w 12, zI w 12, zI w 6, zI w 6, zI w 6]) rfl ?_
  refine c_put (ci := 9) (k := 44) (T := TX9) (C := RX9) (N := 49) (fs' := [.ref (n1 + 1), .ref (n1 + 2), .ref (n1 + 3), .int 0, .int (-1), .int (-1), .ref (n1 + 4), .ref (n1 + 5), .ref (n1 + 6), .ref (n1 + 7), .ref (n1 + 8), .ref (n1 + 9), .ref (n1 + 10), .ref (n1 + 11), .int 0, .int 0, .int 0, .int 0, .int 0, .int 0, .int 0, .int 0, .int 0, .ref (n1 + 12), .int 0, .ref (n1 + 13), .ref (n1 + 14), .int 0, .int 0, .int 0, .ref (n1 + 15), .ref (n1 + 16), .ref (n1 + 17), .ref (n1 + 18), .ref (n1 + 19), .int 0, .ref (n1 + 20), .ref (n1 + 21), .ref (n1 + 22), .ref (n1 + 23), .ref (n1 + 24), .ref (n1 + 25), .ref (n1 + 26), .ref (n1 + 27), .ref (n1 + 28), .null, .null, .null, .null]) rfl fk_X9_100 (by decide) ⟨rfl, rfl⟩ (tyX9_ok 44 (by decide)) rfl rfl (Nat.le_of_ble_eq_true rfl) rfl (fun _ _ _ h => (hX _ _ _ h).2.2.1) dX9_init_242 ?_
  refine c_aload 0 dX9_init_245 rfl rfl ?_
  refine c_bipush (v := 6) dX9_init_246 (by decide) ?_
  refine c_newa (N := 6) (k := 29) (cs' := 29) (sl' := 34960) (a0 := (6, .inl (fun _ => 0))) 0 rfl aI (fun _ => rfl) (by decide) (by decide) (by decide) rfl (Nat.le_trans (by decide) hR.2.2.1) rfl (Nat.le_trans (by decide) hR.2.2.2) rfl dX9_init_248 ?_
  refine CW.cv (es' := [.inr (9, [.ref (n1 + 1), .ref (n1 + 2), .ref (n1 + 3), .int 0, .int (-1), .int (-1), .ref (n1 + 4), .ref (n1 + 5), .ref (n1 + 6), .ref (n1 + 7), .ref (n1 + 8), .ref (n1 + 9), .ref (n1 + 10), .ref (n1 + 11), .int 0, .int 0, .int 0, .int 0, .int 0, .int 0, .int 0, .int 0, .int 0, .ref (n1 + 12), .int 0, .ref (n1 + 13), .ref (n1 + 14), .int 0, .int 0, .int 0, .ref (n1 + 15), .ref (n1 + 16), .ref (n1 + 17), .ref (n1 + 18), .ref (n1 + 19), .int 0, .ref (n1 + 20), .ref (n1 + 21), .ref (n1 + 22), .ref (n1 + 23), .ref (n1 + 24), .ref (n1 + 25), .ref (n1 + 26), .ref (n1 + 27), .ref (n1 + 28), .null, .null, .null, .null]), zI w 14800, zI w 14800, zB w 300, zI w 4, zI w 96, zI w 96, zI w 96, zI w 96, zI w 96, zI w 1600, zI w 1600, zI w 40, zI w 80, zI w 80, zI w 24, zI w 24, zI w 24, zI w 24, zI w 24, zI w 400, zI w 400, zI w 8, zJ w 200, zI w 12, zI w 12, zI w 6, zI w 6, zI w 6, zI w 6]) rfl ?_
  refine c_put (ci := 9) (k := 45) (T := TX9) (C := RX9) (N := 49) (fs' := [.ref (n1 + 1), .ref (n1 + 2), .ref (n1 + 3), .int 0, .int (-1), .int (-1), .ref (n1 + 4), .ref (n1 + 5), .ref (n1 + 6), .ref (n1 + 7), .ref (n1 + 8), .ref (n1 + 9), .ref (n1 + 10), .ref (n1 + 11), .int 0, .int 0, .int 0, .int 0, .int 0, .int 0, .int 0, .int 0, .int 0, .ref (n1 + 12), .int 0, .ref (n1 + 13), .ref (n1 + 14), .int 0, .int 0, .int 0, .ref (n1 + 15), .ref (n1 + 16), .ref (n1 + 17), .ref (n1 + 18), .ref (n1 + 19), .int 0, .ref (n1 + 20), .ref (n1 + 21), .ref (n1 + 22), .ref (n1 + 23), .ref (n1 + 24), .ref (n1 + 25), .ref (n1 + 26), .ref (n1 + 27), .ref (n1 + 28), .ref (n1 + 29), .null, .null, .null]) rfl fk_X9_103 (by decide) ⟨rfl, rfl⟩ (tyX9_ok 45 (by decide)) rfl rfl (Nat.le_of_ble_eq_true rfl) rfl (fun _ _ _ h => (hX _ _ _ h).2.2.1) dX9_init_250 ?_
  refine c_aload 0 dX9_init_253 rfl rfl ?_
  refine c_bipush (v := 6) dX9_init_254 (by decide) ?_
  refine c_newa (N := 6) (k := 30) (cs' := 30) (sl' := 34966) (a0 := (6, .inl (fun _ => 0))) 0 rfl aI (fun _ => rfl) (by decide) (by decide) (by decide) rfl (Nat.le_trans (by decide) hR.2.2.1) rfl (Nat.le_trans (by decide) hR.2.2.2) rfl dX9_init_256 ?_
  refine CW.cv (es' := [.inr (9, [.ref (n1 + 1), .ref (n1 + 2), .ref (n1 + 3), .int 0, .int (-1), .int (-1), .ref (n1 + 4), .ref (n1 + 5), .ref (n1 + 6), .ref (n1 + 7), .ref (n1 + 8), .ref (n1 + 9), .ref (n1 + 10), .ref (n1 + 11), .int 0, .int 0, .int 0, .int 0, .int 0, .int 0, .int 0, .int 0, .int 0, .ref (n1 + 12), .int 0, .ref (n1 + 13), .ref (n1 + 14), .int 0, .int 0, .int 0, .ref (n1 + 15), .ref (n1 + 16), .ref (n1 + 17), .ref (n1 + 18), .ref (n1 + 19), .int 0, .ref (n1 + 20), .ref (n1 + 21), .ref (n1 + 22), .ref (n1 + 23), .ref (n1 + 24), .ref (n1 + 25), .ref (n1 + 26), .ref (n1 + 27), .ref (n1 + 28), .ref (n1 + 29), .null, .null, .null]), zI w 14800, zI w 14800, zB w 300, zI w 4, zI w 96, zI w 96, zI w 96, zI w 96, zI w 96, zI w 1600, zI w 1600, zI w 40, zI w 80, zI w 80, zI w 24, zI w 24, zI w 24, zI w 24, zI w 24, zI w 400, zI w 400, zI w 8, zJ w 200, zI w 12, zI w 12, zI w 6, zI w 6, zI w 6, zI w 6, zI w 6]) rfl ?_
  refine c_put (ci := 9) (k := 46) (T := TX9) (C := RX9) (N := 49) (fs' := [.ref (n1 + 1), .ref (n1 + 2), .ref (n1 + 3), .int 0, .int (-1), .int (-1), .ref (n1 + 4), .ref (n1 + 5), .ref (n1 + 6), .ref (n1 + 7), .ref (n1 + 8), .ref (n1 + 9), .ref (n1 + 10), .ref (n1 + 11), .int 0, .int 0, .int 0, .int 0, .int 0, .int 0, .int 0, .int 0, .int 0, .ref (n1 + 12), .int 0, .ref (n1 + 13), .ref (n1 + 14), .int 0, .int 0, .int 0, .ref (n1 + 15), .ref (n1 + 16), .ref (n1 + 17), .ref (n1 + 18), .ref (n1 + 19), .int 0, .ref (n1 + 20), .ref (n1 + 21), .ref (n1 + 22), .ref (n1 + 23), .ref (n1 + 24), .ref (n1 + 25), .ref (n1 + 26), .ref (n1 + 27), .ref (n1 + 28), .ref (n1 + 29), .ref (n1 + 30), .null, .null]) rfl fk_X9_106 (by decide) ⟨rfl, rfl⟩ (tyX9_ok 46 (by decide)) rfl rfl (Nat.le_of_ble_eq_true rfl) rfl (fun _ _ _ h => (hX _ _ _ h).2.2.1) dX9_init_258 ?_
  refine c_aload 0 dX9_init_261 rfl rfl ?_
  refine c_bipush (v := 6) dX9_init_262 (by decide) ?_
  refine c_newa (N := 6) (k := 31) (cs' := 31) (sl' := 34972) (a0 := (6, .inl (fun _ => 0))) 0 rfl aI (fun _ => rfl) (by decide) (by decide) (by decide) rfl (Nat.le_trans (by decide) hR.2.2.1) rfl (Nat.le_trans (by decide) hR.2.2.2) rfl dX9_init_264 ?_
  refine CW.cv (es' := [.inr (9, [.ref (n1 + 1), .ref (n1 + 2), .ref (n1 + 3), .int 0, .int (-1), .int (-1), .ref (n1 + 4), .ref (n1 + 5), .ref (n1 + 6), .ref (n1 + 7), .ref (n1 + 8), .ref (n1 + 9), .ref (n1 + 10), .ref (n1 + 11), .int 0, .int 0, .int 0, .int 0, .int 0, .int 0, .int 0, .int 0, .int 0, .ref (n1 + 12), .int 0, .ref (n1 + 13), .ref (n1 + 14), .int 0, .int 0, .int 0, .ref (n1 + 15), .ref (n1 + 16), .ref (n1 + 17), .ref (n1 + 18), .ref (n1 + 19), .int 0, .ref (n1 + 20), .ref (n1 + 21), .ref (n1 + 22), .ref (n1 + 23), .ref (n1 + 24), .ref (n1 + 25), .ref (n1 + 26), .ref (n1 + 27), .ref (n1 + 28), .ref (n1 + 29), .ref (n1 + 30), .null, .null]), zI w 14800, zI w 14800, zB w 300, zI w 4, zI w 96, zI w 96, zI w 96, zI w 96, zI w 96, zI w 1600, zI w 1600, zI w 40, zI w 80, zI w 80, zI w 24, zI w 24, zI w 24, zI w 24, zI w 24, zI w 400, zI w 400, zI w 8, zJ w 200, zI w 12, zI w 12, zI w 6, zI w 6, zI w 6, zI w 6, zI w 6, zI w 6]) rfl ?_
  refine c_put (ci := 9) (k := 47) (T := TX9) (C := RX9) (N := 49) (fs' := [.ref (n1 + 1), .ref (n1 + 2), .ref (n1 + 3), .int 0, .int (-1), .int (-1), .ref (n1 + 4), .ref (n1 + 5), .ref (n1 + 6), .ref (n1 + 7), .ref (n1 + 8), .ref (n1 + 9), .ref (n1 + 10), .ref (n1 + 11), .int 0, .int 0, .int 0, .int 0, .int 0, .int 0, .int 0, .int 0, .int 0, .ref (n1 + 12), .int 0, .ref (n1 + 13), .ref (n1 + 14), .int 0, .int 0, .int 0, .ref (n1 + 15), .ref (n1 + 16), .ref (n1 + 17), .ref (n1 + 18), .ref (n1 + 19), .int 0, .ref (n1 + 20), .ref (n1 + 21), .ref (n1 + 22), .ref (n1 + 23), .ref (n1 + 24), .ref (n1 + 25), .ref (n1 + 26), .ref (n1 + 27), .ref (n1 + 28), .ref (n1 + 29), .ref (n1 + 30), .ref (n1 + 31), .null]) rfl fk_X9_109 (by decide) ⟨rfl, rfl⟩ (tyX9_ok 47 (by decide)) rfl rfl (Nat.le_of_ble_eq_true rfl) rfl (fun _ _ _ h => (hX _ _ _ h).2.2.1) dX9_init_266 ?_
  refine c_aload 0 dX9_init_269 rfl rfl ?_
  refine c_bipush (v := 100) dX9_init_270 (by decide) ?_
  refine c_newa (N := 100) (k := 32) (cs' := 32) (sl' := 35072) (a0 := (100, .inl (fun _ => 0))) 2 rfl aZ (fun _ => rfl) (by decide) (by decide) (by decide) rfl (Nat.le_trans (by decide) hR.2.2.1) rfl (Nat.le_trans (by decide) hR.2.2.2) rfl dX9_init_272 ?_
  refine CW.cv (es' := [.inr (9, [.ref (n1 + 1), .ref (n1 + 2), .ref (n1 + 3), .int 0, .int (-1), .int (-1), .ref (n1 + 4), .ref (n1 + 5), .ref (n1 + 6), .ref (n1 + 7), .ref (n1 + 8), .ref (n1 + 9), .ref (n1 + 10), .ref (n1 + 11), .int 0, .int 0, .int 0, .int 0, .int 0, .int 0, .int 0, .int 0, .int 0, .ref (n1 + 12), .int 0, .ref (n1 + 13), .ref (n1 + 14), .int 0, .int 0, .int 0, .ref (n1 + 15), .ref (n1 + 16), .ref (n1 + 17), .ref (n1 + 18), .ref (n1 + 19), .int 0, .ref (n1 + 20), .ref (n1 + 21), .ref (n1 + 22), .ref (n1 + 23), .ref (n1 + 24), .ref (n1 + 25), .ref (n1 + 26), .ref (n1 + 27), .ref (n1 + 28), .ref (n1 + 29), .ref (n1 + 30), .ref (n1 + 31), .null]), zI w 14800, zI w 14800, zB w 300, zI w 4, zI w 96, zI w 96, zI w 96, zI w 96, zI w 96, zI w 1600, zI w 1600, zI w 40, zI w 80, zI w 80, zI w 24, zI w 24, zI w 24, zI w 24, zI w 24, zI w 400, zI w 400, zI w 8, zJ w 200, zI w 12, zI w 12, zI w 6, zI w 6, zI w 6, zI w 6, zI w 6, zI w 6, zZ w 100]) rfl ?_
  refine c_put (ci := 9) (k := 48) (T := TX9) (C := RX9) (N := 49) (fs' := [.ref (n1 + 1), .ref (n1 + 2), .ref (n1 + 3), .int 0, .int (-1), .int (-1), .ref (n1 + 4), .ref (n1 + 5), .ref (n1 + 6), .ref (n1 + 7), .ref (n1 + 8), .ref (n1 + 9), .ref (n1 + 10), .ref (n1 + 11), .int 0, .int 0, .int 0, .int 0, .int 0, .int 0, .int 0, .int 0, .int 0, .ref (n1 + 12), .int 0, .ref (n1 + 13), .ref (n1 + 14), .int 0, .int 0, .int 0, .ref (n1 + 15), .ref (n1 + 16), .ref (n1 + 17), .ref (n1 + 18), .ref (n1 + 19), .int 0, .ref (n1 + 20), .ref (n1 + 21), .ref (n1 + 22), .ref (n1 + 23), .ref (n1 + 24), .ref (n1 + 25), .ref (n1 + 26), .ref (n1 + 27), .ref (n1 + 28), .ref (n1 + 29), .ref (n1 + 30), .ref (n1 + 31), .ref (n1 + 32)]) rfl fk_X9_112 (by decide) ⟨rfl, rfl⟩ (tyX9_ok 48 (by decide)) rfl rfl (Nat.le_of_ble_eq_true rfl) rfl (fun _ _ _ h => (hX _ _ _ h).2.2.1) dX9_init_274 ?_
  exact kk
