/-! STRING: links and callees -/
theorem cy_J0_length_8abf5 : CY yJ0_length_8abf5 cJ0_length_8abf5 1 (some .int) 0 := ⟨TBL_in (tm3 (List.mem_of_getElem? (i := 101) rfl)) rfl, TBL_in (tm1 (List.mem_of_getElem? (i := 12) rfl)) rfl, by decide, by decide, by decide +kernel⟩
theorem cv_J0_length_8abf5 : CV yJ0_length_8abf5 := ⟨TBL_in (tm3 (List.mem_of_getElem? (i := 99) rfl)) rfl, TBL_in (tm3 (List.mem_of_getElem? (i := 100) rfl)) rfl⟩
theorem cy_J0_charAt_5068e : CY yJ0_charAt_5068e cJ0_charAt_5068e 2 (some .char) 1 := ⟨TBL_in (tm3 (List.mem_of_getElem? (i := 111) rfl)) rfl, TBL_in (tm1 (List.mem_of_getElem? (i := 12) rfl)) rfl, by decide, by decide, by decide +kernel⟩
theorem cv_J0_charAt_5068e : CV yJ0_charAt_5068e := ⟨TBL_in (tm3 (List.mem_of_getElem? (i := 109) rfl)) rfl, TBL_in (tm3 (List.mem_of_getElem? (i := 110) rfl)) rfl⟩
theorem cy_J0_coder_7d493 : CY yJ0_coder_7d493 cJ0_coder_7d493 1 (some .byte) 0 := ⟨TBL_in (tm3 (List.mem_of_getElem? (i := 105) rfl)) rfl, TBL_in (tm1 (List.mem_of_getElem? (i := 12) rfl)) rfl, by decide, by decide, by decide +kernel⟩
theorem cv_J0_coder_7d493 : CV yJ0_coder_7d493 := ⟨TBL_in (tm3 (List.mem_of_getElem? (i := 103) rfl)) rfl, TBL_in (tm3 (List.mem_of_getElem? (i := 104) rfl)) rfl⟩
theorem cy_J0_isLatin1_aae02 : CY yJ0_isLatin1_aae02 cJ0_isLatin1_aae02 1 (some .boolean) 0 := ⟨TBL_in (tm3 (List.mem_of_getElem? (i := 115) rfl)) rfl, TBL_in (tm1 (List.mem_of_getElem? (i := 12) rfl)) rfl, by decide, by decide, by decide +kernel⟩
theorem cv_J0_isLatin1_aae02 : CV yJ0_isLatin1_aae02 := ⟨TBL_in (tm3 (List.mem_of_getElem? (i := 113) rfl)) rfl, TBL_in (tm3 (List.mem_of_getElem? (i := 114) rfl)) rfl⟩
theorem cy_J0_checkIndex_df160 : CY yJ0_checkIndex_df160 cJ0_checkIndex_df160 2 none 2 := ⟨TBL_in (tm3 (List.mem_of_getElem? (i := 121) rfl)) rfl, TBL_in (tm1 (List.mem_of_getElem? (i := 12) rfl)) rfl, by decide, by decide, by decide +kernel⟩
theorem cs_J0_checkIndex_df160 : Cond.static yJ0_checkIndex_df160 ∈ TBL := TBL_in (tm3 (List.mem_of_getElem? (i := 120) rfl)) rfl
theorem cy_J1_charAt_3b067 : CY yJ1_charAt_3b067 cJ1_charAt_3b067 2 (some .char) 2 := ⟨TBL_in (tm3 (List.mem_of_getElem? (i := 118) rfl)) rfl, TBL_in (tm1 (List.mem_of_getElem? (i := 13) rfl)) rfl, by decide, by decide, by decide +kernel⟩
theorem cs_J1_charAt_3b067 : Cond.static yJ1_charAt_3b067 ∈ TBL := TBL_in (tm3 (List.mem_of_getElem? (i := 117) rfl)) rfl
theorem cy_J3_checkIndex_8e157 : CY yJ3_checkIndex_8e157 cJ3_checkIndex_8e157 3 (some .int) 3 := ⟨TBL_in (tm3 (List.mem_of_getElem? (i := 126) rfl)) rfl, TBL_in (tm1 (List.mem_of_getElem? (i := 14) rfl)) rfl, by decide, by decide, by decide +kernel⟩
theorem cs_J3_checkIndex_8e157 : Cond.static yJ3_checkIndex_8e157 ∈ TBL := TBL_in (tm3 (List.mem_of_getElem? (i := 125) rfl)) rfl
theorem ml_J0_335 : Cond.methodLink RJ0 335 yJ0_coder_7d493 ∈ TBL := TBL_in (tm3 (List.mem_of_getElem? (i := 102) rfl)) rfl
theorem ml_J0_492 : Cond.methodLink RJ0 492 yJ0_isLatin1_aae02 ∈ TBL := TBL_in (tm3 (List.mem_of_getElem? (i := 112) rfl)) rfl
theorem ml_J0_495 : Cond.methodLink RJ0 495 yJ1_charAt_3b067 ∈ TBL := TBL_in (tm3 (List.mem_of_getElem? (i := 116) rfl)) rfl
theorem ml_J0_498 : Cond.methodLink RJ0 498 yJ2_charAt_3b067 ∈ TBL := TBL_in (tm3 (List.mem_of_getElem? (i := 127) rfl)) rfl
theorem ml_J0_1059 : Cond.methodLink RJ0 1059 yJ3_checkIndex_8e157 ∈ TBL := TBL_in (tm3 (List.mem_of_getElem? (i := 124) rfl)) rfl
theorem ml_J1_9 : Cond.methodLink RJ1 9 yJ0_checkIndex_df160 ∈ TBL := TBL_in (tm3 (List.mem_of_getElem? (i := 119) rfl)) rfl
theorem fs_value : Cond.fieldLink RJ0 9 "java/lang/String" "value" "[B" ∈ TBL := TBL_in (tm7 (List.mem_of_getElem? (i := 0) rfl)) rfl
theorem fs_coder : Cond.fieldLink RJ0 15 "java/lang/String" "coder" "B" ∈ TBL := TBL_in (tm7 (List.mem_of_getElem? (i := 1) rfl)) rfl
theorem fs_compact : Cond.fieldLink RJ0 38 "java/lang/String" "COMPACT_STRINGS" "Z" ∈ TBL := TBL_in (tm3 (List.mem_of_getElem? (i := 106) rfl)) rfl
theorem fs_siobe : Cond.fieldLink RJ0 1053 "jdk/internal/util/Preconditions" "SIOOBE_FORMATTER" "Ljava/util/function/BiFunction;" ∈ TBL := TBL_in (tm3 (List.mem_of_getElem? (i := 122) rfl)) rfl
