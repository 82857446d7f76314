theorem tm0 {x : Cond} (h : x ∈ k2_sels lw_privs) : x ∈ lw_tbl := List.mem_append_left _ h
theorem tm1 {x : Cond} (h : x ∈ tables_1_1) : x ∈ lw_tbl := List.mem_append_right _ (show x ∈ tables_1 from List.mem_append_left _ h)
theorem tm2 {x : Cond} (h : x ∈ tables_1_2) : x ∈ lw_tbl := List.mem_append_right _ (show x ∈ tables_1 from List.mem_append_right _ (List.mem_append_left _ h))
theorem tm3 {x : Cond} (h : x ∈ tables_1_3) : x ∈ lw_tbl := List.mem_append_right _ (show x ∈ tables_1 from List.mem_append_right _ (List.mem_append_right _ (List.mem_append_left _ h)))
theorem tm4 {x : Cond} (h : x ∈ tables_1_4) : x ∈ lw_tbl := List.mem_append_right _ (show x ∈ tables_1 from List.mem_append_right _ (List.mem_append_right _ (List.mem_append_right _ (List.mem_append_left _ h))))
theorem tm5 {x : Cond} (h : x ∈ tables_1_5) : x ∈ lw_tbl := List.mem_append_right _ (show x ∈ tables_1 from List.mem_append_right _ (List.mem_append_right _ (List.mem_append_right _ (List.mem_append_right _ (List.mem_append_left _ h)))))
theorem tm6 {x : Cond} (h : x ∈ tables_1_6) : x ∈ lw_tbl := List.mem_append_right _ (show x ∈ tables_1 from List.mem_append_right _ (List.mem_append_right _ (List.mem_append_right _ (List.mem_append_right _ (List.mem_append_right _ (List.mem_append_left _ h))))))
theorem tm7 {x : Cond} (h : x ∈ tables_1_7) : x ∈ lw_tbl := List.mem_append_right _ (show x ∈ tables_1 from List.mem_append_right _ (List.mem_append_right _ (List.mem_append_right _ (List.mem_append_right _ (List.mem_append_right _ (List.mem_append_right _ (h)))))))

theorem fl_X0_9 : FL RX0 9 0 0 := ⟨RX0, TX0, 17, rfl, by decide, rfl, Or.inl (TBL_in (tm1 (List.mem_of_getElem? (i := 31) rfl)) rfl)⟩
theorem fp_X0_9 : FP RX0 9 0 0 .int := ⟨RX0, TX0, 17, rfl, by decide, rfl, ⟨rfl, by decide +kernel⟩, Or.inl (TBL_in (tm1 (List.mem_of_getElem? (i := 31) rfl)) rfl)⟩
theorem fl_X0_15 : FL RX0 15 0 1 := ⟨RX0, TX0, 17, rfl, by decide, rfl, Or.inl (TBL_in (tm1 (List.mem_of_getElem? (i := 36) rfl)) rfl)⟩
theorem fl_X0_19 : FL RX0 19 0 2 := ⟨RX0, TX0, 17, rfl, by decide, rfl, Or.inl (TBL_in (tm1 (List.mem_of_getElem? (i := 39) rfl)) rfl)⟩
theorem fl_X0_22 : FL RX0 22 0 3 := ⟨RX0, TX0, 17, rfl, by decide, rfl, Or.inl (TBL_in (tm1 (List.mem_of_getElem? (i := 43) rfl)) rfl)⟩
theorem fl_X0_25 : FL RX0 25 0 4 := ⟨RX0, TX0, 17, rfl, by decide, rfl, Or.inl (TBL_in (tm1 (List.mem_of_getElem? (i := 47) rfl)) rfl)⟩
theorem fl_X0_28 : FL RX0 28 0 5 := ⟨RX0, TX0, 17, rfl, by decide, rfl, Or.inl (TBL_in (tm1 (List.mem_of_getElem? (i := 50) rfl)) rfl)⟩
theorem fp_X0_28 : FP RX0 28 0 5 .int := ⟨RX0, TX0, 17, rfl, by decide, rfl, ⟨rfl, by decide +kernel⟩, Or.inl (TBL_in (tm1 (List.mem_of_getElem? (i := 50) rfl)) rfl)⟩
theorem fl_X0_31 : FL RX0 31 0 6 := ⟨RX0, TX0, 17, rfl, by decide, rfl, Or.inl (TBL_in (tm1 (List.mem_of_getElem? (i := 54) rfl)) rfl)⟩
theorem fl_X0_34 : FL RX0 34 0 7 := ⟨RX0, TX0, 17, rfl, by decide, rfl, Or.inl (TBL_in (tm1 (List.mem_of_getElem? (i := 57) rfl)) rfl)⟩
theorem fl_X0_37 : FL RX0 37 0 8 := ⟨RX0, TX0, 17, rfl, by decide, rfl, Or.inl (TBL_in (tm1 (List.mem_of_getElem? (i := 62) rfl)) rfl)⟩
theorem fl_X0_40 : FL RX0 40 0 9 := ⟨RX0, TX0, 17, rfl, by decide, rfl, Or.inl (TBL_in (tm1 (List.mem_of_getElem? (i := 66) rfl)) rfl)⟩
theorem fl_X0_43 : FL RX0 43 0 10 := ⟨RX0, TX0, 17, rfl, by decide, rfl, Or.inl (TBL_in (tm1 (List.mem_of_getElem? (i := 70) rfl)) rfl)⟩
theorem fl_X0_46 : FL RX0 46 0 11 := ⟨RX0, TX0, 17, rfl, by decide, rfl, Or.inl (TBL_in (tm1 (List.mem_of_getElem? (i := 75) rfl)) rfl)⟩
theorem fl_X0_49 : FL RX0 49 0 12 := ⟨RX0, TX0, 17, rfl, by decide, rfl, Or.inl (TBL_in (tm1 (List.mem_of_getElem? (i := 76) rfl)) rfl)⟩
theorem fp_X0_49 : FP RX0 49 0 12 .int := ⟨RX0, TX0, 17, rfl, by decide, rfl, ⟨rfl, by decide +kernel⟩, Or.inl (TBL_in (tm1 (List.mem_of_getElem? (i := 76) rfl)) rfl)⟩
theorem fl_X0_52 : FL RX0 52 0 13 := ⟨RX0, TX0, 17, rfl, by decide, rfl, Or.inl (TBL_in (tm1 (List.mem_of_getElem? (i := 79) rfl)) rfl)⟩
theorem fp_X0_52 : FP RX0 52 0 13 .int := ⟨RX0, TX0, 17, rfl, by decide, rfl, ⟨rfl, by decide +kernel⟩, Or.inl (TBL_in (tm1 (List.mem_of_getElem? (i := 79) rfl)) rfl)⟩
theorem fl_X0_55 : FL RX0 55 0 14 := ⟨RX0, TX0, 17, rfl, by decide, rfl, Or.inl (TBL_in (tm1 (List.mem_of_getElem? (i := 82) rfl)) rfl)⟩
theorem fl_X0_58 : FL RX0 58 0 15 := ⟨RX0, TX0, 17, rfl, by decide, rfl, Or.inl (TBL_in (tm1 (List.mem_of_getElem? (i := 83) rfl)) rfl)⟩
theorem fp_X0_58 : FP RX0 58 0 15 .int := ⟨RX0, TX0, 17, rfl, by decide, rfl, ⟨rfl, by decide +kernel⟩, Or.inl (TBL_in (tm1 (List.mem_of_getElem? (i := 83) rfl)) rfl)⟩
theorem fl_X0_61 : FL RX0 61 0 16 := ⟨RX0, TX0, 17, rfl, by decide, rfl, Or.inl (TBL_in (tm1 (List.mem_of_getElem? (i := 85) rfl)) rfl)⟩
theorem fp_X0_61 : FP RX0 61 0 16 .int := ⟨RX0, TX0, 17, rfl, by decide, rfl, ⟨rfl, by decide +kernel⟩, Or.inl (TBL_in (tm1 (List.mem_of_getElem? (i := 85) rfl)) rfl)⟩
theorem fl_X1_9 : FL RX1 9 1 2 := ⟨RX1, TX1, 4, rfl, by decide, rfl, Or.inl (TBL_in (tm1 (List.mem_of_getElem? (i := 203) rfl)) rfl)⟩
theorem fl_X1_15 : FL RX1 15 1 3 := ⟨RX1, TX1, 4, rfl, by decide, rfl, Or.inl (TBL_in (tm1 (List.mem_of_getElem? (i := 204) rfl)) rfl)⟩
theorem fl_X1_18 : FL RX1 18 1 0 := ⟨RX1, TX1, 4, rfl, by decide, rfl, Or.inl (TBL_in (tm1 (List.mem_of_getElem? (i := 201) rfl)) rfl)⟩
theorem fl_X1_22 : FL RX1 22 1 1 := ⟨RX1, TX1, 4, rfl, by decide, rfl, Or.inl (TBL_in (tm1 (List.mem_of_getElem? (i := 202) rfl)) rfl)⟩
theorem fl_X1_36 : FL RX1 36 0 6 := ⟨RX0, TX0, 17, rfl, by decide, rfl, Or.inr (NW_in (tm1 (List.mem_of_getElem? (i := 55) rfl)) rfl)⟩
theorem fl_X1_39 : FL RX1 39 0 7 := ⟨RX0, TX0, 17, rfl, by decide, rfl, Or.inr (NW_in (tm1 (List.mem_of_getElem? (i := 58) rfl)) rfl)⟩
theorem fl_X1_54 : FL RX1 54 0 5 := ⟨RX0, TX0, 17, rfl, by decide, rfl, Or.inr (NW_in (tm1 (List.mem_of_getElem? (i := 52) rfl)) rfl)⟩
theorem fp_X1_54 : FP RX1 54 0 5 .int := ⟨RX0, TX0, 17, rfl, by decide, rfl, ⟨rfl, by decide +kernel⟩, Or.inr (NW_in (tm1 (List.mem_of_getElem? (i := 52) rfl)) rfl)⟩
theorem fl_X1_58 : FL RX1 58 0 1 := ⟨RX0, TX0, 17, rfl, by decide, rfl, Or.inr (NW_in (tm1 (List.mem_of_getElem? (i := 37) rfl)) rfl)⟩
theorem fl_X1_61 : FL RX1 61 0 2 := ⟨RX0, TX0, 17, rfl, by decide, rfl, Or.inr (NW_in (tm1 (List.mem_of_getElem? (i := 41) rfl)) rfl)⟩
theorem fl_X1_64 : FL RX1 64 0 3 := ⟨RX0, TX0, 17, rfl, by decide, rfl, Or.inr (NW_in (tm1 (List.mem_of_getElem? (i := 45) rfl)) rfl)⟩
theorem fl_X1_67 : FL RX1 67 0 16 := ⟨RX0, TX0, 17, rfl, by decide, rfl, Or.inr (NW_in (tm1 (List.mem_of_getElem? (i := 86) rfl)) rfl)⟩
theorem fp_X1_67 : FP RX1 67 0 16 .int := ⟨RX0, TX0, 17, rfl, by decide, rfl, ⟨rfl, by decide +kernel⟩, Or.inr (NW_in (tm1 (List.mem_of_getElem? (i := 86) rfl)) rfl)⟩
theorem fl_X1_78 : FL RX1 78 3 2 := ⟨RX3, TX3, 7, rfl, by decide, rfl, Or.inr (NW_in (tm2 (List.mem_of_getElem? (i := 76) rfl)) rfl)⟩
theorem fl_X1_81 : FL RX1 81 3 3 := ⟨RX3, TX3, 7, rfl, by decide, rfl, Or.inr (NW_in (tm2 (List.mem_of_getElem? (i := 78) rfl)) rfl)⟩
theorem fl_X1_100 : FL RX1 100 3 0 := ⟨RX3, TX3, 7, rfl, by decide, rfl, Or.inr (NW_in (tm2 (List.mem_of_getElem? (i := 72) rfl)) rfl)⟩
theorem fl_X2_9 : FL RX2 9 2 0 := ⟨RX2, TX2, 13, rfl, by decide, rfl, Or.inl (TBL_in (tm1 (List.mem_of_getElem? (i := 151) rfl)) rfl)⟩
theorem fl_X2_15 : FL RX2 15 2 1 := ⟨RX2, TX2, 13, rfl, by decide, rfl, Or.inl (TBL_in (tm1 (List.mem_of_getElem? (i := 152) rfl)) rfl)⟩
theorem fp_X2_15 : FP RX2 15 2 1 .int := ⟨RX2, TX2, 13, rfl, by decide, rfl, ⟨rfl, by decide +kernel⟩, Or.inl (TBL_in (tm1 (List.mem_of_getElem? (i := 152) rfl)) rfl)⟩
theorem fl_X2_19 : FL RX2 19 2 2 := ⟨RX2, TX2, 13, rfl, by decide, rfl, Or.inl (TBL_in (tm1 (List.mem_of_getElem? (i := 154) rfl)) rfl)⟩
theorem fl_X2_22 : FL RX2 22 2 3 := ⟨RX2, TX2, 13, rfl, by decide, rfl, Or.inl (TBL_in (tm1 (List.mem_of_getElem? (i := 155) rfl)) rfl)⟩
theorem fl_X2_25 : FL RX2 25 2 4 := ⟨RX2, TX2, 13, rfl, by decide, rfl, Or.inl (TBL_in (tm1 (List.mem_of_getElem? (i := 156) rfl)) rfl)⟩
theorem fl_X2_28 : FL RX2 28 2 5 := ⟨RX2, TX2, 13, rfl, by decide, rfl, Or.inl (TBL_in (tm1 (List.mem_of_getElem? (i := 157) rfl)) rfl)⟩
theorem fp_X2_28 : FP RX2 28 2 5 .int := ⟨RX2, TX2, 13, rfl, by decide, rfl, ⟨rfl, by decide +kernel⟩, Or.inl (TBL_in (tm1 (List.mem_of_getElem? (i := 157) rfl)) rfl)⟩
theorem fl_X2_31 : FL RX2 31 2 6 := ⟨RX2, TX2, 13, rfl, by decide, rfl, Or.inl (TBL_in (tm1 (List.mem_of_getElem? (i := 158) rfl)) rfl)⟩
theorem fp_X2_31 : FP RX2 31 2 6 .int := ⟨RX2, TX2, 13, rfl, by decide, rfl, ⟨rfl, by decide +kernel⟩, Or.inl (TBL_in (tm1 (List.mem_of_getElem? (i := 158) rfl)) rfl)⟩
theorem fl_X2_34 : FL RX2 34 2 7 := ⟨RX2, TX2, 13, rfl, by decide, rfl, Or.inl (TBL_in (tm1 (List.mem_of_getElem? (i := 159) rfl)) rfl)⟩
theorem fp_X2_34 : FP RX2 34 2 7 .int := ⟨RX2, TX2, 13, rfl, by decide, rfl, ⟨rfl, by decide +kernel⟩, Or.inl (TBL_in (tm1 (List.mem_of_getElem? (i := 159) rfl)) rfl)⟩
theorem fl_X2_37 : FL RX2 37 2 8 := ⟨RX2, TX2, 13, rfl, by decide, rfl, Or.inl (TBL_in (tm1 (List.mem_of_getElem? (i := 160) rfl)) rfl)⟩
theorem fp_X2_37 : FP RX2 37 2 8 .int := ⟨RX2, TX2, 13, rfl, by decide, rfl, ⟨rfl, by decide +kernel⟩, Or.inl (TBL_in (tm1 (List.mem_of_getElem? (i := 160) rfl)) rfl)⟩
theorem fl_X2_40 : FL RX2 40 2 9 := ⟨RX2, TX2, 13, rfl, by decide, rfl, Or.inl (TBL_in (tm1 (List.mem_of_getElem? (i := 161) rfl)) rfl)⟩
theorem fp_X2_40 : FP RX2 40 2 9 .int := ⟨RX2, TX2, 13, rfl, by decide, rfl, ⟨rfl, by decide +kernel⟩, Or.inl (TBL_in (tm1 (List.mem_of_getElem? (i := 161) rfl)) rfl)⟩
theorem fl_X2_43 : FL RX2 43 2 10 := ⟨RX2, TX2, 13, rfl, by decide, rfl, Or.inl (TBL_in (tm1 (List.mem_of_getElem? (i := 162) rfl)) rfl)⟩
theorem fp_X2_43 : FP RX2 43 2 10 .boolean := ⟨RX2, TX2, 13, rfl, by decide, rfl, ⟨rfl, by decide +kernel⟩, Or.inl (TBL_in (tm1 (List.mem_of_getElem? (i := 162) rfl)) rfl)⟩
theorem fl_X2_47 : FL RX2 47 2 11 := ⟨RX2, TX2, 13, rfl, by decide, rfl, Or.inl (TBL_in (tm1 (List.mem_of_getElem? (i := 164) rfl)) rfl)⟩
theorem fp_X2_47 : FP RX2 47 2 11 .int := ⟨RX2, TX2, 13, rfl, by decide, rfl, ⟨rfl, by decide +kernel⟩, Or.inl (TBL_in (tm1 (List.mem_of_getElem? (i := 164) rfl)) rfl)⟩
theorem fl_X2_50 : FL RX2 50 2 12 := ⟨RX2, TX2, 13, rfl, by decide, rfl, Or.inl (TBL_in (tm1 (List.mem_of_getElem? (i := 166) rfl)) rfl)⟩
theorem fp_X2_50 : FP RX2 50 2 12 .int := ⟨RX2, TX2, 13, rfl, by decide, rfl, ⟨rfl, by decide +kernel⟩, Or.inl (TBL_in (tm1 (List.mem_of_getElem? (i := 166) rfl)) rfl)⟩
theorem fl_X2_158 : FL RX2 158 3 6 := ⟨RX3, TX3, 7, rfl, by decide, rfl, Or.inr (NW_in (tm2 (List.mem_of_getElem? (i := 82) rfl)) rfl)⟩
theorem fp_X2_158 : FP RX2 158 3 6 .int := ⟨RX3, TX3, 7, rfl, by decide, rfl, ⟨rfl, by decide +kernel⟩, Or.inr (NW_in (tm2 (List.mem_of_getElem? (i := 82) rfl)) rfl)⟩
theorem fl_X2_161 : FL RX2 161 3 1 := ⟨RX3, TX3, 7, rfl, by decide, rfl, Or.inr (NW_in (tm2 (List.mem_of_getElem? (i := 74) rfl)) rfl)⟩
theorem fp_X2_161 : FP RX2 161 3 1 .int := ⟨RX3, TX3, 7, rfl, by decide, rfl, ⟨rfl, by decide +kernel⟩, Or.inr (NW_in (tm2 (List.mem_of_getElem? (i := 74) rfl)) rfl)⟩
theorem fl_X3_9 : FL RX3 9 3 0 := ⟨RX3, TX3, 7, rfl, by decide, rfl, Or.inl (TBL_in (tm2 (List.mem_of_getElem? (i := 71) rfl)) rfl)⟩
theorem fl_X3_15 : FL RX3 15 3 1 := ⟨RX3, TX3, 7, rfl, by decide, rfl, Or.inl (TBL_in (tm2 (List.mem_of_getElem? (i := 73) rfl)) rfl)⟩
theorem fp_X3_15 : FP RX3 15 3 1 .int := ⟨RX3, TX3, 7, rfl, by decide, rfl, ⟨rfl, by decide +kernel⟩, Or.inl (TBL_in (tm2 (List.mem_of_getElem? (i := 73) rfl)) rfl)⟩
theorem fl_X3_19 : FL RX3 19 3 2 := ⟨RX3, TX3, 7, rfl, by decide, rfl, Or.inl (TBL_in (tm2 (List.mem_of_getElem? (i := 75) rfl)) rfl)⟩
theorem fl_X3_22 : FL RX3 22 3 3 := ⟨RX3, TX3, 7, rfl, by decide, rfl, Or.inl (TBL_in (tm2 (List.mem_of_getElem? (i := 77) rfl)) rfl)⟩
theorem fl_X3_25 : FL RX3 25 3 4 := ⟨RX3, TX3, 7, rfl, by decide, rfl, Or.inl (TBL_in (tm2 (List.mem_of_getElem? (i := 79) rfl)) rfl)⟩
theorem fl_X3_28 : FL RX3 28 3 5 := ⟨RX3, TX3, 7, rfl, by decide, rfl, Or.inl (TBL_in (tm2 (List.mem_of_getElem? (i := 80) rfl)) rfl)⟩
theorem fl_X3_31 : FL RX3 31 3 6 := ⟨RX3, TX3, 7, rfl, by decide, rfl, Or.inl (TBL_in (tm2 (List.mem_of_getElem? (i := 81) rfl)) rfl)⟩
theorem fp_X3_31 : FP RX3 31 3 6 .int := ⟨RX3, TX3, 7, rfl, by decide, rfl, ⟨rfl, by decide +kernel⟩, Or.inl (TBL_in (tm2 (List.mem_of_getElem? (i := 81) rfl)) rfl)⟩
theorem fl_X4_13 : FL RX4 13 4 0 := ⟨RX4, TX4, 3, rfl, by decide, rfl, Or.inl (TBL_in (tm1 (List.mem_of_getElem? (i := 132) rfl)) rfl)⟩
theorem fl_X4_16 : FL RX4 16 4 1 := ⟨RX4, TX4, 3, rfl, by decide, rfl, Or.inl (TBL_in (tm1 (List.mem_of_getElem? (i := 133) rfl)) rfl)⟩
theorem fp_X4_16 : FP RX4 16 4 1 .int := ⟨RX4, TX4, 3, rfl, by decide, rfl, ⟨rfl, by decide +kernel⟩, Or.inl (TBL_in (tm1 (List.mem_of_getElem? (i := 133) rfl)) rfl)⟩
theorem fl_X4_20 : FL RX4 20 4 2 := ⟨RX4, TX4, 3, rfl, by decide, rfl, Or.inl (TBL_in (tm1 (List.mem_of_getElem? (i := 135) rfl)) rfl)⟩
theorem fp_X4_20 : FP RX4 20 4 2 .int := ⟨RX4, TX4, 3, rfl, by decide, rfl, ⟨rfl, by decide +kernel⟩, Or.inl (TBL_in (tm1 (List.mem_of_getElem? (i := 135) rfl)) rfl)⟩
theorem fl_X4_29 : FL RX4 29 0 12 := ⟨RX0, TX0, 17, rfl, by decide, rfl, Or.inr (NW_in (tm1 (List.mem_of_getElem? (i := 77) rfl)) rfl)⟩
theorem fp_X4_29 : FP RX4 29 0 12 .int := ⟨RX0, TX0, 17, rfl, by decide, rfl, ⟨rfl, by decide +kernel⟩, Or.inr (NW_in (tm1 (List.mem_of_getElem? (i := 77) rfl)) rfl)⟩
theorem fl_X4_34 : FL RX4 34 0 13 := ⟨RX0, TX0, 17, rfl, by decide, rfl, Or.inr (NW_in (tm1 (List.mem_of_getElem? (i := 80) rfl)) rfl)⟩
theorem fp_X4_34 : FP RX4 34 0 13 .int := ⟨RX0, TX0, 17, rfl, by decide, rfl, ⟨rfl, by decide +kernel⟩, Or.inr (NW_in (tm1 (List.mem_of_getElem? (i := 80) rfl)) rfl)⟩
theorem fl_X4_41 : FL RX4 41 0 8 := ⟨RX0, TX0, 17, rfl, by decide, rfl, Or.inr (NW_in (tm1 (List.mem_of_getElem? (i := 64) rfl)) rfl)⟩
theorem fl_X4_45 : FL RX4 45 0 9 := ⟨RX0, TX0, 17, rfl, by decide, rfl, Or.inr (NW_in (tm1 (List.mem_of_getElem? (i := 68) rfl)) rfl)⟩
theorem fl_X4_48 : FL RX4 48 0 10 := ⟨RX0, TX0, 17, rfl, by decide, rfl, Or.inr (NW_in (tm1 (List.mem_of_getElem? (i := 72) rfl)) rfl)⟩
theorem fl_X4_51 : FL RX4 51 0 0 := ⟨RX0, TX0, 17, rfl, by decide, rfl, Or.inr (NW_in (tm1 (List.mem_of_getElem? (i := 32) rfl)) rfl)⟩
theorem fp_X4_51 : FP RX4 51 0 0 .int := ⟨RX0, TX0, 17, rfl, by decide, rfl, ⟨rfl, by decide +kernel⟩, Or.inr (NW_in (tm1 (List.mem_of_getElem? (i := 32) rfl)) rfl)⟩
theorem fl_X4_54 : FL RX4 54 0 2 := ⟨RX0, TX0, 17, rfl, by decide, rfl, Or.inr (NW_in (tm1 (List.mem_of_getElem? (i := 40) rfl)) rfl)⟩
theorem fl_X4_57 : FL RX4 57 0 3 := ⟨RX0, TX0, 17, rfl, by decide, rfl, Or.inr (NW_in (tm1 (List.mem_of_getElem? (i := 44) rfl)) rfl)⟩
theorem fl_X4_60 : FL RX4 60 0 4 := ⟨RX0, TX0, 17, rfl, by decide, rfl, Or.inr (NW_in (tm1 (List.mem_of_getElem? (i := 48) rfl)) rfl)⟩
theorem fl_X5_9 : FL RX5 9 5 2 := ⟨RX5, TX5, 7, rfl, by decide, rfl, Or.inl (TBL_in (tm2 (List.mem_of_getElem? (i := 20) rfl)) rfl)⟩
theorem fl_X5_15 : FL RX5 15 5 3 := ⟨RX5, TX5, 7, rfl, by decide, rfl, Or.inl (TBL_in (tm2 (List.mem_of_getElem? (i := 21) rfl)) rfl)⟩
theorem fl_X5_18 : FL RX5 18 5 4 := ⟨RX5, TX5, 7, rfl, by decide, rfl, Or.inl (TBL_in (tm2 (List.mem_of_getElem? (i := 22) rfl)) rfl)⟩
theorem fl_X5_21 : FL RX5 21 5 5 := ⟨RX5, TX5, 7, rfl, by decide, rfl, Or.inl (TBL_in (tm2 (List.mem_of_getElem? (i := 23) rfl)) rfl)⟩
theorem fl_X5_24 : FL RX5 24 5 6 := ⟨RX5, TX5, 7, rfl, by decide, rfl, Or.inl (TBL_in (tm2 (List.mem_of_getElem? (i := 24) rfl)) rfl)⟩
theorem fp_X5_24 : FP RX5 24 5 6 .int := ⟨RX5, TX5, 7, rfl, by decide, rfl, ⟨rfl, by decide +kernel⟩, Or.inl (TBL_in (tm2 (List.mem_of_getElem? (i := 24) rfl)) rfl)⟩
theorem fl_X5_28 : FL RX5 28 5 0 := ⟨RX5, TX5, 7, rfl, by decide, rfl, Or.inl (TBL_in (tm2 (List.mem_of_getElem? (i := 18) rfl)) rfl)⟩
theorem fl_X5_32 : FL RX5 32 5 1 := ⟨RX5, TX5, 7, rfl, by decide, rfl, Or.inl (TBL_in (tm2 (List.mem_of_getElem? (i := 19) rfl)) rfl)⟩
theorem fl_X5_50 : FL RX5 50 0 0 := ⟨RX0, TX0, 17, rfl, by decide, rfl, Or.inr (NW_in (tm1 (List.mem_of_getElem? (i := 34) rfl)) rfl)⟩
theorem fp_X5_50 : FP RX5 50 0 0 .int := ⟨RX0, TX0, 17, rfl, by decide, rfl, ⟨rfl, by decide +kernel⟩, Or.inr (NW_in (tm1 (List.mem_of_getElem? (i := 34) rfl)) rfl)⟩
theorem fl_X6_9 : FL RX6 9 6 2 := ⟨RX6, TX6, 9, rfl, by decide, rfl, Or.inl (TBL_in (tm1 (List.mem_of_getElem? (i := 222) rfl)) rfl)⟩
theorem fl_X6_15 : FL RX6 15 6 3 := ⟨RX6, TX6, 9, rfl, by decide, rfl, Or.inl (TBL_in (tm1 (List.mem_of_getElem? (i := 223) rfl)) rfl)⟩
theorem fl_X6_18 : FL RX6 18 6 4 := ⟨RX6, TX6, 9, rfl, by decide, rfl, Or.inl (TBL_in (tm1 (List.mem_of_getElem? (i := 224) rfl)) rfl)⟩
theorem fp_X6_18 : FP RX6 18 6 4 .int := ⟨RX6, TX6, 9, rfl, by decide, rfl, ⟨rfl, by decide +kernel⟩, Or.inl (TBL_in (tm1 (List.mem_of_getElem? (i := 224) rfl)) rfl)⟩
theorem fl_X6_22 : FL RX6 22 6 5 := ⟨RX6, TX6, 9, rfl, by decide, rfl, Or.inl (TBL_in (tm1 (List.mem_of_getElem? (i := 225) rfl)) rfl)⟩
theorem fp_X6_22 : FP RX6 22 6 5 .int := ⟨RX6, TX6, 9, rfl, by decide, rfl, ⟨rfl, by decide +kernel⟩, Or.inl (TBL_in (tm1 (List.mem_of_getElem? (i := 225) rfl)) rfl)⟩
theorem fl_X6_25 : FL RX6 25 6 6 := ⟨RX6, TX6, 9, rfl, by decide, rfl, Or.inl (TBL_in (tm1 (List.mem_of_getElem? (i := 227) rfl)) rfl)⟩
theorem fp_X6_25 : FP RX6 25 6 6 .int := ⟨RX6, TX6, 9, rfl, by decide, rfl, ⟨rfl, by decide +kernel⟩, Or.inl (TBL_in (tm1 (List.mem_of_getElem? (i := 227) rfl)) rfl)⟩
theorem fl_X6_28 : FL RX6 28 6 7 := ⟨RX6, TX6, 9, rfl, by decide, rfl, Or.inl (TBL_in (tm1 (List.mem_of_getElem? (i := 229) rfl)) rfl)⟩
theorem fp_X6_28 : FP RX6 28 6 7 .long := ⟨RX6, TX6, 9, rfl, by decide, rfl, ⟨rfl, by decide +kernel⟩, Or.inl (TBL_in (tm1 (List.mem_of_getElem? (i := 229) rfl)) rfl)⟩
theorem fl_X6_32 : FL RX6 32 6 8 := ⟨RX6, TX6, 9, rfl, by decide, rfl, Or.inl (TBL_in (tm1 (List.mem_of_getElem? (i := 231) rfl)) rfl)⟩
theorem fp_X6_32 : FP RX6 32 6 8 .long := ⟨RX6, TX6, 9, rfl, by decide, rfl, ⟨rfl, by decide +kernel⟩, Or.inl (TBL_in (tm1 (List.mem_of_getElem? (i := 231) rfl)) rfl)⟩
theorem fl_X6_35 : FL RX6 35 6 0 := ⟨RX6, TX6, 9, rfl, by decide, rfl, Or.inl (TBL_in (tm1 (List.mem_of_getElem? (i := 220) rfl)) rfl)⟩
theorem fl_X6_39 : FL RX6 39 6 1 := ⟨RX6, TX6, 9, rfl, by decide, rfl, Or.inl (TBL_in (tm1 (List.mem_of_getElem? (i := 221) rfl)) rfl)⟩
theorem fl_X6_49 : FL RX6 49 0 8 := ⟨RX0, TX0, 17, rfl, by decide, rfl, Or.inr (NW_in (tm1 (List.mem_of_getElem? (i := 63) rfl)) rfl)⟩
theorem fl_X6_56 : FL RX6 56 0 9 := ⟨RX0, TX0, 17, rfl, by decide, rfl, Or.inr (NW_in (tm1 (List.mem_of_getElem? (i := 67) rfl)) rfl)⟩
theorem fl_X6_62 : FL RX6 62 0 10 := ⟨RX0, TX0, 17, rfl, by decide, rfl, Or.inr (NW_in (tm1 (List.mem_of_getElem? (i := 71) rfl)) rfl)⟩
theorem fl_X6_65 : FL RX6 65 0 7 := ⟨RX0, TX0, 17, rfl, by decide, rfl, Or.inr (NW_in (tm1 (List.mem_of_getElem? (i := 59) rfl)) rfl)⟩
theorem fl_X7_9 : FL RX7 9 7 2 := ⟨RX7, TX7, 6, rfl, by decide, rfl, Or.inl (TBL_in (tm2 (List.mem_of_getElem? (i := 48) rfl)) rfl)⟩
theorem fl_X7_15 : FL RX7 15 7 3 := ⟨RX7, TX7, 6, rfl, by decide, rfl, Or.inl (TBL_in (tm2 (List.mem_of_getElem? (i := 49) rfl)) rfl)⟩
theorem fl_X7_18 : FL RX7 18 7 4 := ⟨RX7, TX7, 6, rfl, by decide, rfl, Or.inl (TBL_in (tm2 (List.mem_of_getElem? (i := 50) rfl)) rfl)⟩
theorem fl_X7_21 : FL RX7 21 7 5 := ⟨RX7, TX7, 6, rfl, by decide, rfl, Or.inl (TBL_in (tm2 (List.mem_of_getElem? (i := 51) rfl)) rfl)⟩
theorem fp_X7_21 : FP RX7 21 7 5 .int := ⟨RX7, TX7, 6, rfl, by decide, rfl, ⟨rfl, by decide +kernel⟩, Or.inl (TBL_in (tm2 (List.mem_of_getElem? (i := 51) rfl)) rfl)⟩
theorem fl_X7_25 : FL RX7 25 7 0 := ⟨RX7, TX7, 6, rfl, by decide, rfl, Or.inl (TBL_in (tm2 (List.mem_of_getElem? (i := 46) rfl)) rfl)⟩
theorem fl_X7_29 : FL RX7 29 7 1 := ⟨RX7, TX7, 6, rfl, by decide, rfl, Or.inl (TBL_in (tm2 (List.mem_of_getElem? (i := 47) rfl)) rfl)⟩
theorem fl_X7_39 : FL RX7 39 0 5 := ⟨RX0, TX0, 17, rfl, by decide, rfl, Or.inr (NW_in (tm1 (List.mem_of_getElem? (i := 51) rfl)) rfl)⟩
theorem fp_X7_39 : FP RX7 39 0 5 .int := ⟨RX0, TX0, 17, rfl, by decide, rfl, ⟨rfl, by decide +kernel⟩, Or.inr (NW_in (tm1 (List.mem_of_getElem? (i := 51) rfl)) rfl)⟩
theorem fl_X7_42 : FL RX7 42 0 0 := ⟨RX0, TX0, 17, rfl, by decide, rfl, Or.inr (NW_in (tm1 (List.mem_of_getElem? (i := 33) rfl)) rfl)⟩
theorem fp_X7_42 : FP RX7 42 0 0 .int := ⟨RX0, TX0, 17, rfl, by decide, rfl, ⟨rfl, by decide +kernel⟩, Or.inr (NW_in (tm1 (List.mem_of_getElem? (i := 33) rfl)) rfl)⟩
theorem fl_X7_53 : FL RX7 53 0 10 := ⟨RX0, TX0, 17, rfl, by decide, rfl, Or.inr (NW_in (tm1 (List.mem_of_getElem? (i := 73) rfl)) rfl)⟩
theorem fl_X7_56 : FL RX7 56 0 7 := ⟨RX0, TX0, 17, rfl, by decide, rfl, Or.inr (NW_in (tm1 (List.mem_of_getElem? (i := 60) rfl)) rfl)⟩
theorem fl_X8_12 : FL RX8 12 8 0 := ⟨RX8, TX8, 10, rfl, by decide, rfl, Or.inl (TBL_in (tm2 (List.mem_of_getElem? (i := 99) rfl)) rfl)⟩
theorem fl_X8_16 : FL RX8 16 8 1 := ⟨RX8, TX8, 10, rfl, by decide, rfl, Or.inl (TBL_in (tm2 (List.mem_of_getElem? (i := 100) rfl)) rfl)⟩
theorem fl_X8_22 : FL RX8 22 8 2 := ⟨RX8, TX8, 10, rfl, by decide, rfl, Or.inl (TBL_in (tm2 (List.mem_of_getElem? (i := 101) rfl)) rfl)⟩
theorem fl_X8_26 : FL RX8 26 8 3 := ⟨RX8, TX8, 10, rfl, by decide, rfl, Or.inl (TBL_in (tm2 (List.mem_of_getElem? (i := 102) rfl)) rfl)⟩
theorem fl_X8_31 : FL RX8 31 8 4 := ⟨RX8, TX8, 10, rfl, by decide, rfl, Or.inl (TBL_in (tm2 (List.mem_of_getElem? (i := 103) rfl)) rfl)⟩
theorem fl_X8_38 : FL RX8 38 8 5 := ⟨RX8, TX8, 10, rfl, by decide, rfl, Or.inl (TBL_in (tm2 (List.mem_of_getElem? (i := 104) rfl)) rfl)⟩
theorem fl_X8_47 : FL RX8 47 8 6 := ⟨RX8, TX8, 10, rfl, by decide, rfl, Or.inl (TBL_in (tm2 (List.mem_of_getElem? (i := 105) rfl)) rfl)⟩
theorem fl_X8_56 : FL RX8 56 8 7 := ⟨RX8, TX8, 10, rfl, by decide, rfl, Or.inl (TBL_in (tm2 (List.mem_of_getElem? (i := 106) rfl)) rfl)⟩
theorem fl_X8_63 : FL RX8 63 8 8 := ⟨RX8, TX8, 10, rfl, by decide, rfl, Or.inl (TBL_in (tm2 (List.mem_of_getElem? (i := 107) rfl)) rfl)⟩
theorem fl_X8_70 : FL RX8 70 8 9 := ⟨RX8, TX8, 10, rfl, by decide, rfl, Or.inl (TBL_in (tm2 (List.mem_of_getElem? (i := 108) rfl)) rfl)⟩
theorem fl_X8_82 : FL RX8 82 0 12 := ⟨RX0, TX0, 17, rfl, by decide, rfl, Or.inr (NW_in (tm1 (List.mem_of_getElem? (i := 78) rfl)) rfl)⟩
theorem fp_X8_82 : FP RX8 82 0 12 .int := ⟨RX0, TX0, 17, rfl, by decide, rfl, ⟨rfl, by decide +kernel⟩, Or.inr (NW_in (tm1 (List.mem_of_getElem? (i := 78) rfl)) rfl)⟩
theorem fl_X8_94 : FL RX8 94 0 10 := ⟨RX0, TX0, 17, rfl, by decide, rfl, Or.inr (NW_in (tm1 (List.mem_of_getElem? (i := 74) rfl)) rfl)⟩
theorem fl_X8_105 : FL RX8 105 0 2 := ⟨RX0, TX0, 17, rfl, by decide, rfl, Or.inr (NW_in (tm1 (List.mem_of_getElem? (i := 42) rfl)) rfl)⟩
theorem fl_X8_119 : FL RX8 119 0 8 := ⟨RX0, TX0, 17, rfl, by decide, rfl, Or.inr (NW_in (tm1 (List.mem_of_getElem? (i := 65) rfl)) rfl)⟩
theorem fl_X8_129 : FL RX8 129 0 9 := ⟨RX0, TX0, 17, rfl, by decide, rfl, Or.inr (NW_in (tm1 (List.mem_of_getElem? (i := 69) rfl)) rfl)⟩
theorem fl_X8_138 : FL RX8 138 0 4 := ⟨RX0, TX0, 17, rfl, by decide, rfl, Or.inr (NW_in (tm1 (List.mem_of_getElem? (i := 49) rfl)) rfl)⟩
theorem fl_X8_146 : FL RX8 146 0 3 := ⟨RX0, TX0, 17, rfl, by decide, rfl, Or.inr (NW_in (tm1 (List.mem_of_getElem? (i := 46) rfl)) rfl)⟩
theorem fl_X8_153 : FL RX8 153 0 7 := ⟨RX0, TX0, 17, rfl, by decide, rfl, Or.inr (NW_in (tm1 (List.mem_of_getElem? (i := 61) rfl)) rfl)⟩
theorem fl_X8_159 : FL RX8 159 0 0 := ⟨RX0, TX0, 17, rfl, by decide, rfl, Or.inr (NW_in (tm1 (List.mem_of_getElem? (i := 35) rfl)) rfl)⟩
theorem fp_X8_159 : FP RX8 159 0 0 .int := ⟨RX0, TX0, 17, rfl, by decide, rfl, ⟨rfl, by decide +kernel⟩, Or.inr (NW_in (tm1 (List.mem_of_getElem? (i := 35) rfl)) rfl)⟩
theorem fl_X8_170 : FL RX8 170 2 1 := ⟨RX2, TX2, 13, rfl, by decide, rfl, Or.inr (NW_in (tm1 (List.mem_of_getElem? (i := 153) rfl)) rfl)⟩
theorem fp_X8_170 : FP RX8 170 2 1 .int := ⟨RX2, TX2, 13, rfl, by decide, rfl, ⟨rfl, by decide +kernel⟩, Or.inr (NW_in (tm1 (List.mem_of_getElem? (i := 153) rfl)) rfl)⟩
theorem fl_X8_172 : FL RX8 172 0 15 := ⟨RX0, TX0, 17, rfl, by decide, rfl, Or.inr (NW_in (tm1 (List.mem_of_getElem? (i := 84) rfl)) rfl)⟩
theorem fp_X8_172 : FP RX8 172 0 15 .int := ⟨RX0, TX0, 17, rfl, by decide, rfl, ⟨rfl, by decide +kernel⟩, Or.inr (NW_in (tm1 (List.mem_of_getElem? (i := 84) rfl)) rfl)⟩
theorem fl_X8_179 : FL RX8 179 2 10 := ⟨RX2, TX2, 13, rfl, by decide, rfl, Or.inr (NW_in (tm1 (List.mem_of_getElem? (i := 163) rfl)) rfl)⟩
theorem fp_X8_179 : FP RX8 179 2 10 .boolean := ⟨RX2, TX2, 13, rfl, by decide, rfl, ⟨rfl, by decide +kernel⟩, Or.inr (NW_in (tm1 (List.mem_of_getElem? (i := 163) rfl)) rfl)⟩
theorem fl_X8_183 : FL RX8 183 2 11 := ⟨RX2, TX2, 13, rfl, by decide, rfl, Or.inr (NW_in (tm1 (List.mem_of_getElem? (i := 165) rfl)) rfl)⟩
theorem fp_X8_183 : FP RX8 183 2 11 .int := ⟨RX2, TX2, 13, rfl, by decide, rfl, ⟨rfl, by decide +kernel⟩, Or.inr (NW_in (tm1 (List.mem_of_getElem? (i := 165) rfl)) rfl)⟩
theorem fl_X8_186 : FL RX8 186 2 12 := ⟨RX2, TX2, 13, rfl, by decide, rfl, Or.inr (NW_in (tm1 (List.mem_of_getElem? (i := 167) rfl)) rfl)⟩
theorem fp_X8_186 : FP RX8 186 2 12 .int := ⟨RX2, TX2, 13, rfl, by decide, rfl, ⟨rfl, by decide +kernel⟩, Or.inr (NW_in (tm1 (List.mem_of_getElem? (i := 167) rfl)) rfl)⟩
theorem fl_X8_192 : FL RX8 192 0 16 := ⟨RX0, TX0, 17, rfl, by decide, rfl, Or.inr (NW_in (tm1 (List.mem_of_getElem? (i := 87) rfl)) rfl)⟩
theorem fp_X8_192 : FP RX8 192 0 16 .int := ⟨RX0, TX0, 17, rfl, by decide, rfl, ⟨rfl, by decide +kernel⟩, Or.inr (NW_in (tm1 (List.mem_of_getElem? (i := 87) rfl)) rfl)⟩
theorem fl_X8_195 : FL RX8 195 3 6 := ⟨RX3, TX3, 7, rfl, by decide, rfl, Or.inr (NW_in (tm2 (List.mem_of_getElem? (i := 83) rfl)) rfl)⟩
theorem fp_X8_195 : FP RX8 195 3 6 .int := ⟨RX3, TX3, 7, rfl, by decide, rfl, ⟨rfl, by decide +kernel⟩, Or.inr (NW_in (tm2 (List.mem_of_getElem? (i := 83) rfl)) rfl)⟩
theorem fl_X8_220 : FL RX8 220 4 1 := ⟨RX4, TX4, 3, rfl, by decide, rfl, Or.inr (NW_in (tm1 (List.mem_of_getElem? (i := 134) rfl)) rfl)⟩
theorem fp_X8_220 : FP RX8 220 4 1 .int := ⟨RX4, TX4, 3, rfl, by decide, rfl, ⟨rfl, by decide +kernel⟩, Or.inr (NW_in (tm1 (List.mem_of_getElem? (i := 134) rfl)) rfl)⟩
theorem fl_X8_223 : FL RX8 223 0 1 := ⟨RX0, TX0, 17, rfl, by decide, rfl, Or.inr (NW_in (tm1 (List.mem_of_getElem? (i := 38) rfl)) rfl)⟩
theorem fl_X8_226 : FL RX8 226 0 6 := ⟨RX0, TX0, 17, rfl, by decide, rfl, Or.inr (NW_in (tm1 (List.mem_of_getElem? (i := 56) rfl)) rfl)⟩
theorem fl_X8_229 : FL RX8 229 0 13 := ⟨RX0, TX0, 17, rfl, by decide, rfl, Or.inr (NW_in (tm1 (List.mem_of_getElem? (i := 81) rfl)) rfl)⟩
theorem fp_X8_229 : FP RX8 229 0 13 .int := ⟨RX0, TX0, 17, rfl, by decide, rfl, ⟨rfl, by decide +kernel⟩, Or.inr (NW_in (tm1 (List.mem_of_getElem? (i := 81) rfl)) rfl)⟩
theorem fl_X8_241 : FL RX8 241 6 5 := ⟨RX6, TX6, 9, rfl, by decide, rfl, Or.inr (NW_in (tm1 (List.mem_of_getElem? (i := 226) rfl)) rfl)⟩
theorem fp_X8_241 : FP RX8 241 6 5 .int := ⟨RX6, TX6, 9, rfl, by decide, rfl, ⟨rfl, by decide +kernel⟩, Or.inr (NW_in (tm1 (List.mem_of_getElem? (i := 226) rfl)) rfl)⟩
theorem fl_X8_244 : FL RX8 244 6 6 := ⟨RX6, TX6, 9, rfl, by decide, rfl, Or.inr (NW_in (tm1 (List.mem_of_getElem? (i := 228) rfl)) rfl)⟩
theorem fp_X8_244 : FP RX8 244 6 6 .int := ⟨RX6, TX6, 9, rfl, by decide, rfl, ⟨rfl, by decide +kernel⟩, Or.inr (NW_in (tm1 (List.mem_of_getElem? (i := 228) rfl)) rfl)⟩
theorem fl_X8_252 : FL RX8 252 6 8 := ⟨RX6, TX6, 9, rfl, by decide, rfl, Or.inr (NW_in (tm1 (List.mem_of_getElem? (i := 232) rfl)) rfl)⟩
theorem fp_X8_252 : FP RX8 252 6 8 .long := ⟨RX6, TX6, 9, rfl, by decide, rfl, ⟨rfl, by decide +kernel⟩, Or.inr (NW_in (tm1 (List.mem_of_getElem? (i := 232) rfl)) rfl)⟩
theorem fl_X8_256 : FL RX8 256 6 7 := ⟨RX6, TX6, 9, rfl, by decide, rfl, Or.inr (NW_in (tm1 (List.mem_of_getElem? (i := 230) rfl)) rfl)⟩
theorem fp_X8_256 : FP RX8 256 6 7 .long := ⟨RX6, TX6, 9, rfl, by decide, rfl, ⟨rfl, by decide +kernel⟩, Or.inr (NW_in (tm1 (List.mem_of_getElem? (i := 230) rfl)) rfl)⟩
theorem fl_X8_280 : FL RX8 280 7 5 := ⟨RX7, TX7, 6, rfl, by decide, rfl, Or.inr (NW_in (tm2 (List.mem_of_getElem? (i := 52) rfl)) rfl)⟩
theorem fp_X8_280 : FP RX8 280 7 5 .int := ⟨RX7, TX7, 6, rfl, by decide, rfl, ⟨rfl, by decide +kernel⟩, Or.inr (NW_in (tm2 (List.mem_of_getElem? (i := 52) rfl)) rfl)⟩
theorem fl_X8_305 : FL RX8 305 0 5 := ⟨RX0, TX0, 17, rfl, by decide, rfl, Or.inr (NW_in (tm1 (List.mem_of_getElem? (i := 53) rfl)) rfl)⟩
theorem fp_X8_305 : FP RX8 305 0 5 .int := ⟨RX0, TX0, 17, rfl, by decide, rfl, ⟨rfl, by decide +kernel⟩, Or.inr (NW_in (tm1 (List.mem_of_getElem? (i := 53) rfl)) rfl)⟩
theorem fl_X9_7 : FL RX9 7 9 0 := ⟨RX9, TX9, 49, rfl, by decide, rfl, Or.inl (TBL_in (tm4 (List.mem_of_getElem? (i := 233) rfl)) rfl)⟩
theorem fl_X9_13 : FL RX9 13 9 1 := ⟨RX9, TX9, 49, rfl, by decide, rfl, Or.inl (TBL_in (tm4 (List.mem_of_getElem? (i := 234) rfl)) rfl)⟩
theorem fl_X9_16 : FL RX9 16 9 2 := ⟨RX9, TX9, 49, rfl, by decide, rfl, Or.inl (TBL_in (tm4 (List.mem_of_getElem? (i := 235) rfl)) rfl)⟩
theorem fl_X9_20 : FL RX9 20 9 4 := ⟨RX9, TX9, 49, rfl, by decide, rfl, Or.inl (TBL_in (tm4 (List.mem_of_getElem? (i := 237) rfl)) rfl)⟩
theorem fp_X9_20 : FP RX9 20 9 4 .int := ⟨RX9, TX9, 49, rfl, by decide, rfl, ⟨rfl, by decide +kernel⟩, Or.inl (TBL_in (tm4 (List.mem_of_getElem? (i := 237) rfl)) rfl)⟩
theorem fl_X9_24 : FL RX9 24 9 5 := ⟨RX9, TX9, 49, rfl, by decide, rfl, Or.inl (TBL_in (tm4 (List.mem_of_getElem? (i := 238) rfl)) rfl)⟩
theorem fp_X9_24 : FP RX9 24 9 5 .int := ⟨RX9, TX9, 49, rfl, by decide, rfl, ⟨rfl, by decide +kernel⟩, Or.inl (TBL_in (tm4 (List.mem_of_getElem? (i := 238) rfl)) rfl)⟩
theorem fl_X9_27 : FL RX9 27 9 6 := ⟨RX9, TX9, 49, rfl, by decide, rfl, Or.inl (TBL_in (tm4 (List.mem_of_getElem? (i := 239) rfl)) rfl)⟩
theorem fl_X9_30 : FL RX9 30 9 7 := ⟨RX9, TX9, 49, rfl, by decide, rfl, Or.inl (TBL_in (tm5 (List.mem_of_getElem? (i := 0) rfl)) rfl)⟩
theorem fl_X9_33 : FL RX9 33 9 8 := ⟨RX9, TX9, 49, rfl, by decide, rfl, Or.inl (TBL_in (tm5 (List.mem_of_getElem? (i := 1) rfl)) rfl)⟩
theorem fl_X9_36 : FL RX9 36 9 9 := ⟨RX9, TX9, 49, rfl, by decide, rfl, Or.inl (TBL_in (tm5 (List.mem_of_getElem? (i := 2) rfl)) rfl)⟩
theorem fl_X9_39 : FL RX9 39 9 10 := ⟨RX9, TX9, 49, rfl, by decide, rfl, Or.inl (TBL_in (tm5 (List.mem_of_getElem? (i := 3) rfl)) rfl)⟩
theorem fl_X9_42 : FL RX9 42 9 11 := ⟨RX9, TX9, 49, rfl, by decide, rfl, Or.inl (TBL_in (tm5 (List.mem_of_getElem? (i := 4) rfl)) rfl)⟩
theorem fl_X9_45 : FL RX9 45 9 12 := ⟨RX9, TX9, 49, rfl, by decide, rfl, Or.inl (TBL_in (tm5 (List.mem_of_getElem? (i := 5) rfl)) rfl)⟩
theorem fl_X9_48 : FL RX9 48 9 13 := ⟨RX9, TX9, 49, rfl, by decide, rfl, Or.inl (TBL_in (tm5 (List.mem_of_getElem? (i := 6) rfl)) rfl)⟩
theorem fl_X9_51 : FL RX9 51 9 23 := ⟨RX9, TX9, 49, rfl, by decide, rfl, Or.inl (TBL_in (tm5 (List.mem_of_getElem? (i := 16) rfl)) rfl)⟩
theorem fl_X9_54 : FL RX9 54 9 25 := ⟨RX9, TX9, 49, rfl, by decide, rfl, Or.inl (TBL_in (tm5 (List.mem_of_getElem? (i := 18) rfl)) rfl)⟩
theorem fl_X9_57 : FL RX9 57 9 26 := ⟨RX9, TX9, 49, rfl, by decide, rfl, Or.inl (TBL_in (tm5 (List.mem_of_getElem? (i := 19) rfl)) rfl)⟩
theorem fl_X9_60 : FL RX9 60 9 30 := ⟨RX9, TX9, 49, rfl, by decide, rfl, Or.inl (TBL_in (tm5 (List.mem_of_getElem? (i := 23) rfl)) rfl)⟩
theorem fl_X9_63 : FL RX9 63 9 31 := ⟨RX9, TX9, 49, rfl, by decide, rfl, Or.inl (TBL_in (tm5 (List.mem_of_getElem? (i := 24) rfl)) rfl)⟩
theorem fl_X9_66 : FL RX9 66 9 32 := ⟨RX9, TX9, 49, rfl, by decide, rfl, Or.inl (TBL_in (tm5 (List.mem_of_getElem? (i := 25) rfl)) rfl)⟩
theorem fl_X9_69 : FL RX9 69 9 33 := ⟨RX9, TX9, 49, rfl, by decide, rfl, Or.inl (TBL_in (tm5 (List.mem_of_getElem? (i := 26) rfl)) rfl)⟩
theorem fl_X9_72 : FL RX9 72 9 34 := ⟨RX9, TX9, 49, rfl, by decide, rfl, Or.inl (TBL_in (tm5 (List.mem_of_getElem? (i := 27) rfl)) rfl)⟩
theorem fl_X9_75 : FL RX9 75 9 36 := ⟨RX9, TX9, 49, rfl, by decide, rfl, Or.inl (TBL_in (tm5 (List.mem_of_getElem? (i := 29) rfl)) rfl)⟩
theorem fl_X9_78 : FL RX9 78 9 37 := ⟨RX9, TX9, 49, rfl, by decide, rfl, Or.inl (TBL_in (tm5 (List.mem_of_getElem? (i := 30) rfl)) rfl)⟩
theorem fl_X9_81 : FL RX9 81 9 38 := ⟨RX9, TX9, 49, rfl, by decide, rfl, Or.inl (TBL_in (tm5 (List.mem_of_getElem? (i := 31) rfl)) rfl)⟩
theorem fl_X9_84 : FL RX9 84 9 39 := ⟨RX9, TX9, 49, rfl, by decide, rfl, Or.inl (TBL_in (tm5 (List.mem_of_getElem? (i := 32) rfl)) rfl)⟩
theorem fl_X9_88 : FL RX9 88 9 40 := ⟨RX9, TX9, 49, rfl, by decide, rfl, Or.inl (TBL_in (tm5 (List.mem_of_getElem? (i := 33) rfl)) rfl)⟩
theorem fl_X9_91 : FL RX9 91 9 41 := ⟨RX9, TX9, 49, rfl, by decide, rfl, Or.inl (TBL_in (tm5 (List.mem_of_getElem? (i := 34) rfl)) rfl)⟩
theorem fl_X9_94 : FL RX9 94 9 42 := ⟨RX9, TX9, 49, rfl, by decide, rfl, Or.inl (TBL_in (tm5 (List.mem_of_getElem? (i := 35) rfl)) rfl)⟩
theorem fl_X9_97 : FL RX9 97 9 43 := ⟨RX9, TX9, 49, rfl, by decide, rfl, Or.inl (TBL_in (tm5 (List.mem_of_getElem? (i := 36) rfl)) rfl)⟩
theorem fl_X9_100 : FL RX9 100 9 44 := ⟨RX9, TX9, 49, rfl, by decide, rfl, Or.inl (TBL_in (tm5 (List.mem_of_getElem? (i := 37) rfl)) rfl)⟩
theorem fl_X9_103 : FL RX9 103 9 45 := ⟨RX9, TX9, 49, rfl, by decide, rfl, Or.inl (TBL_in (tm5 (List.mem_of_getElem? (i := 38) rfl)) rfl)⟩
theorem fl_X9_106 : FL RX9 106 9 46 := ⟨RX9, TX9, 49, rfl, by decide, rfl, Or.inl (TBL_in (tm5 (List.mem_of_getElem? (i := 39) rfl)) rfl)⟩
theorem fl_X9_109 : FL RX9 109 9 47 := ⟨RX9, TX9, 49, rfl, by decide, rfl, Or.inl (TBL_in (tm5 (List.mem_of_getElem? (i := 40) rfl)) rfl)⟩
theorem fl_X9_112 : FL RX9 112 9 48 := ⟨RX9, TX9, 49, rfl, by decide, rfl, Or.inl (TBL_in (tm5 (List.mem_of_getElem? (i := 41) rfl)) rfl)⟩
theorem fl_X9_128 : FL RX9 128 9 3 := ⟨RX9, TX9, 49, rfl, by decide, rfl, Or.inl (TBL_in (tm4 (List.mem_of_getElem? (i := 236) rfl)) rfl)⟩
theorem fp_X9_128 : FP RX9 128 9 3 .int := ⟨RX9, TX9, 49, rfl, by decide, rfl, ⟨rfl, by decide +kernel⟩, Or.inl (TBL_in (tm4 (List.mem_of_getElem? (i := 236) rfl)) rfl)⟩
theorem fl_X9_171 : FL RX9 171 9 15 := ⟨RX9, TX9, 49, rfl, by decide, rfl, Or.inl (TBL_in (tm5 (List.mem_of_getElem? (i := 8) rfl)) rfl)⟩
theorem fp_X9_171 : FP RX9 171 9 15 .int := ⟨RX9, TX9, 49, rfl, by decide, rfl, ⟨rfl, by decide +kernel⟩, Or.inl (TBL_in (tm5 (List.mem_of_getElem? (i := 8) rfl)) rfl)⟩
theorem fl_X9_174 : FL RX9 174 9 14 := ⟨RX9, TX9, 49, rfl, by decide, rfl, Or.inl (TBL_in (tm5 (List.mem_of_getElem? (i := 7) rfl)) rfl)⟩
theorem fp_X9_174 : FP RX9 174 9 14 .int := ⟨RX9, TX9, 49, rfl, by decide, rfl, ⟨rfl, by decide +kernel⟩, Or.inl (TBL_in (tm5 (List.mem_of_getElem? (i := 7) rfl)) rfl)⟩
theorem fl_X9_177 : FL RX9 177 9 16 := ⟨RX9, TX9, 49, rfl, by decide, rfl, Or.inl (TBL_in (tm5 (List.mem_of_getElem? (i := 9) rfl)) rfl)⟩
theorem fp_X9_177 : FP RX9 177 9 16 .int := ⟨RX9, TX9, 49, rfl, by decide, rfl, ⟨rfl, by decide +kernel⟩, Or.inl (TBL_in (tm5 (List.mem_of_getElem? (i := 9) rfl)) rfl)⟩
theorem fl_X9_180 : FL RX9 180 9 17 := ⟨RX9, TX9, 49, rfl, by decide, rfl, Or.inl (TBL_in (tm5 (List.mem_of_getElem? (i := 10) rfl)) rfl)⟩
theorem fp_X9_180 : FP RX9 180 9 17 .int := ⟨RX9, TX9, 49, rfl, by decide, rfl, ⟨rfl, by decide +kernel⟩, Or.inl (TBL_in (tm5 (List.mem_of_getElem? (i := 10) rfl)) rfl)⟩
theorem fl_X9_193 : FL RX9 193 9 18 := ⟨RX9, TX9, 49, rfl, by decide, rfl, Or.inl (TBL_in (tm5 (List.mem_of_getElem? (i := 11) rfl)) rfl)⟩
theorem fp_X9_193 : FP RX9 193 9 18 .int := ⟨RX9, TX9, 49, rfl, by decide, rfl, ⟨rfl, by decide +kernel⟩, Or.inl (TBL_in (tm5 (List.mem_of_getElem? (i := 11) rfl)) rfl)⟩
theorem fl_X9_197 : FL RX9 197 9 19 := ⟨RX9, TX9, 49, rfl, by decide, rfl, Or.inl (TBL_in (tm5 (List.mem_of_getElem? (i := 12) rfl)) rfl)⟩
theorem fp_X9_197 : FP RX9 197 9 19 .int := ⟨RX9, TX9, 49, rfl, by decide, rfl, ⟨rfl, by decide +kernel⟩, Or.inl (TBL_in (tm5 (List.mem_of_getElem? (i := 12) rfl)) rfl)⟩
theorem fl_X9_200 : FL RX9 200 9 20 := ⟨RX9, TX9, 49, rfl, by decide, rfl, Or.inl (TBL_in (tm5 (List.mem_of_getElem? (i := 13) rfl)) rfl)⟩
theorem fp_X9_200 : FP RX9 200 9 20 .int := ⟨RX9, TX9, 49, rfl, by decide, rfl, ⟨rfl, by decide +kernel⟩, Or.inl (TBL_in (tm5 (List.mem_of_getElem? (i := 13) rfl)) rfl)⟩
theorem fl_X9_203 : FL RX9 203 9 35 := ⟨RX9, TX9, 49, rfl, by decide, rfl, Or.inl (TBL_in (tm5 (List.mem_of_getElem? (i := 28) rfl)) rfl)⟩
theorem fp_X9_203 : FP RX9 203 9 35 .int := ⟨RX9, TX9, 49, rfl, by decide, rfl, ⟨rfl, by decide +kernel⟩, Or.inl (TBL_in (tm5 (List.mem_of_getElem? (i := 28) rfl)) rfl)⟩
theorem fl_X9_206 : FL RX9 206 9 22 := ⟨RX9, TX9, 49, rfl, by decide, rfl, Or.inl (TBL_in (tm5 (List.mem_of_getElem? (i := 15) rfl)) rfl)⟩
theorem fp_X9_206 : FP RX9 206 9 22 .int := ⟨RX9, TX9, 49, rfl, by decide, rfl, ⟨rfl, by decide +kernel⟩, Or.inl (TBL_in (tm5 (List.mem_of_getElem? (i := 15) rfl)) rfl)⟩
theorem fl_X9_209 : FL RX9 209 9 21 := ⟨RX9, TX9, 49, rfl, by decide, rfl, Or.inl (TBL_in (tm5 (List.mem_of_getElem? (i := 14) rfl)) rfl)⟩
theorem fp_X9_209 : FP RX9 209 9 21 .int := ⟨RX9, TX9, 49, rfl, by decide, rfl, ⟨rfl, by decide +kernel⟩, Or.inl (TBL_in (tm5 (List.mem_of_getElem? (i := 14) rfl)) rfl)⟩
theorem fl_X9_221 : FL RX9 221 9 24 := ⟨RX9, TX9, 49, rfl, by decide, rfl, Or.inl (TBL_in (tm5 (List.mem_of_getElem? (i := 17) rfl)) rfl)⟩
theorem fp_X9_221 : FP RX9 221 9 24 .int := ⟨RX9, TX9, 49, rfl, by decide, rfl, ⟨rfl, by decide +kernel⟩, Or.inl (TBL_in (tm5 (List.mem_of_getElem? (i := 17) rfl)) rfl)⟩
theorem fl_X9_237 : FL RX9 237 9 29 := ⟨RX9, TX9, 49, rfl, by decide, rfl, Or.inl (TBL_in (tm5 (List.mem_of_getElem? (i := 22) rfl)) rfl)⟩
theorem fp_X9_237 : FP RX9 237 9 29 .int := ⟨RX9, TX9, 49, rfl, by decide, rfl, ⟨rfl, by decide +kernel⟩, Or.inl (TBL_in (tm5 (List.mem_of_getElem? (i := 22) rfl)) rfl)⟩
theorem fl_X9_250 : FL RX9 250 9 27 := ⟨RX9, TX9, 49, rfl, by decide, rfl, Or.inl (TBL_in (tm5 (List.mem_of_getElem? (i := 20) rfl)) rfl)⟩
theorem fp_X9_250 : FP RX9 250 9 27 .int := ⟨RX9, TX9, 49, rfl, by decide, rfl, ⟨rfl, by decide +kernel⟩, Or.inl (TBL_in (tm5 (List.mem_of_getElem? (i := 20) rfl)) rfl)⟩
theorem fl_X9_259 : FL RX9 259 9 28 := ⟨RX9, TX9, 49, rfl, by decide, rfl, Or.inl (TBL_in (tm5 (List.mem_of_getElem? (i := 21) rfl)) rfl)⟩
theorem fp_X9_259 : FP RX9 259 9 28 .int := ⟨RX9, TX9, 49, rfl, by decide, rfl, ⟨rfl, by decide +kernel⟩, Or.inl (TBL_in (tm5 (List.mem_of_getElem? (i := 21) rfl)) rfl)⟩
theorem cy_X0_isHouse : CY yX0_isHouse cX0_isHouse 2 (some .boolean) 1 := ⟨TBL_in (tm2 (List.mem_of_getElem? (i := 157) rfl)) rfl, TBL_in (tm1 (List.mem_of_getElem? (i := 2) rfl)) rfl, by decide, by decide, by decide +kernel⟩
theorem cv_X0_isHouse : CV yX0_isHouse := ⟨TBL_in (tm2 (List.mem_of_getElem? (i := 155) rfl)) rfl, TBL_in (tm2 (List.mem_of_getElem? (i := 156) rfl)) rfl⟩
theorem cy_X0_isCandle : CY yX0_isCandle cX0_isCandle 2 (some .boolean) 1 := ⟨TBL_in (tm2 (List.mem_of_getElem? (i := 165) rfl)) rfl, TBL_in (tm1 (List.mem_of_getElem? (i := 2) rfl)) rfl, by decide, by decide, by decide +kernel⟩
theorem cv_X0_isCandle : CV yX0_isCandle := ⟨TBL_in (tm2 (List.mem_of_getElem? (i := 163) rfl)) rfl, TBL_in (tm2 (List.mem_of_getElem? (i := 164) rfl)) rfl⟩
theorem cy_X0_isInch : CY yX0_isInch cX0_isInch 3 (some .boolean) 2 := ⟨TBL_in (tm2 (List.mem_of_getElem? (i := 161) rfl)) rfl, TBL_in (tm1 (List.mem_of_getElem? (i := 2) rfl)) rfl, by decide, by decide, by decide +kernel⟩
theorem cv_X0_isInch : CV yX0_isInch := ⟨TBL_in (tm2 (List.mem_of_getElem? (i := 159) rfl)) rfl, TBL_in (tm2 (List.mem_of_getElem? (i := 160) rfl)) rfl⟩
theorem cy_X0_isText : CY yX0_isText cX0_isText 2 (some .boolean) 1 := ⟨TBL_in (tm2 (List.mem_of_getElem? (i := 192) rfl)) rfl, TBL_in (tm1 (List.mem_of_getElem? (i := 2) rfl)) rfl, by decide, by decide, by decide +kernel⟩
theorem cv_X0_isText : CV yX0_isText := ⟨TBL_in (tm2 (List.mem_of_getElem? (i := 190) rfl)) rfl, TBL_in (tm2 (List.mem_of_getElem? (i := 191) rfl)) rfl⟩
theorem cy_X0_isSet : CY yX0_isSet cX0_isSet 2 (some .boolean) 1 := ⟨TBL_in (tm4 (List.mem_of_getElem? (i := 91) rfl)) rfl, TBL_in (tm1 (List.mem_of_getElem? (i := 2) rfl)) rfl, by decide, by decide, by decide +kernel⟩
theorem cv_X0_isSet : CV yX0_isSet := ⟨TBL_in (tm4 (List.mem_of_getElem? (i := 89) rfl)) rfl, TBL_in (tm4 (List.mem_of_getElem? (i := 90) rfl)) rfl⟩
theorem cy_X0_addHouse : CY yX0_addHouse cX0_addHouse 3 (some .int) 2 := ⟨TBL_in (tm2 (List.mem_of_getElem? (i := 137) rfl)) rfl, TBL_in (tm1 (List.mem_of_getElem? (i := 2) rfl)) rfl, by decide, by decide, by decide +kernel⟩
theorem cv_X0_addHouse : CV yX0_addHouse := ⟨TBL_in (tm2 (List.mem_of_getElem? (i := 135) rfl)) rfl, TBL_in (tm2 (List.mem_of_getElem? (i := 136) rfl)) rfl⟩
theorem cy_X0_addCandle : CY yX0_addCandle cX0_addCandle 4 (some .int) 2 := ⟨TBL_in (tm2 (List.mem_of_getElem? (i := 145) rfl)) rfl, TBL_in (tm1 (List.mem_of_getElem? (i := 2) rfl)) rfl, by decide, by decide, by decide +kernel⟩
theorem cv_X0_addCandle : CV yX0_addCandle := ⟨TBL_in (tm2 (List.mem_of_getElem? (i := 143) rfl)) rfl, TBL_in (tm2 (List.mem_of_getElem? (i := 144) rfl)) rfl⟩
theorem cy_X0_ownerOf : CY yX0_ownerOf cX0_ownerOf 3 (some .int) 2 := ⟨TBL_in (tm2 (List.mem_of_getElem? (i := 169) rfl)) rfl, TBL_in (tm1 (List.mem_of_getElem? (i := 2) rfl)) rfl, by decide, by decide, by decide +kernel⟩
theorem cv_X0_ownerOf : CV yX0_ownerOf := ⟨TBL_in (tm2 (List.mem_of_getElem? (i := 167) rfl)) rfl, TBL_in (tm2 (List.mem_of_getElem? (i := 168) rfl)) rfl⟩
theorem cy_X0_setOwner : CY yX0_setOwner cX0_setOwner 4 none 3 := ⟨TBL_in (tm2 (List.mem_of_getElem? (i := 231) rfl)) rfl, TBL_in (tm1 (List.mem_of_getElem? (i := 2) rfl)) rfl, by decide, by decide, by decide +kernel⟩
theorem cv_X0_setOwner : CV yX0_setOwner := ⟨TBL_in (tm2 (List.mem_of_getElem? (i := 229) rfl)) rfl, TBL_in (tm2 (List.mem_of_getElem? (i := 230) rfl)) rfl⟩
theorem cy_X0_addDrip : CY yX0_addDrip cX0_addDrip 7 none 5 := ⟨TBL_in (tm3 (List.mem_of_getElem? (i := 17) rfl)) rfl, TBL_in (tm1 (List.mem_of_getElem? (i := 2) rfl)) rfl, by decide, by decide, by decide +kernel⟩
theorem cv_X0_addDrip : CV yX0_addDrip := ⟨TBL_in (tm3 (List.mem_of_getElem? (i := 15) rfl)) rfl, TBL_in (tm3 (List.mem_of_getElem? (i := 16) rfl)) rfl⟩
theorem cy_X0_dripPart : CY yX0_dripPart cX0_dripPart 4 (some .int) 2 := ⟨TBL_in (tm4 (List.mem_of_getElem? (i := 42) rfl)) rfl, TBL_in (tm1 (List.mem_of_getElem? (i := 2) rfl)) rfl, by decide, by decide, by decide +kernel⟩
theorem cv_X0_dripPart : CV yX0_dripPart := ⟨TBL_in (tm4 (List.mem_of_getElem? (i := 40) rfl)) rfl, TBL_in (tm4 (List.mem_of_getElem? (i := 41) rfl)) rfl⟩
theorem cy_X0_draw : CY yX0_draw cX0_draw 3 (some .int) 1 := ⟨TBL_in (tm3 (List.mem_of_getElem? (i := 25) rfl)) rfl, TBL_in (tm1 (List.mem_of_getElem? (i := 2) rfl)) rfl, by decide, by decide, by decide +kernel⟩
theorem cv_X0_draw : CV yX0_draw := ⟨TBL_in (tm3 (List.mem_of_getElem? (i := 23) rfl)) rfl, TBL_in (tm3 (List.mem_of_getElem? (i := 24) rfl)) rfl⟩
theorem cy_X0_isOwnedIn : CY yX0_isOwnedIn cX0_isOwnedIn 5 (some .boolean) 3 := ⟨TBL_in (tm4 (List.mem_of_getElem? (i := 174) rfl)) rfl, TBL_in (tm1 (List.mem_of_getElem? (i := 2) rfl)) rfl, by decide, by decide, by decide +kernel⟩
theorem cv_X0_isOwnedIn : CV yX0_isOwnedIn := ⟨TBL_in (tm4 (List.mem_of_getElem? (i := 172) rfl)) rfl, TBL_in (tm4 (List.mem_of_getElem? (i := 173) rfl)) rfl⟩
theorem cy_X0_worthOf : CY yX0_worthOf cX0_worthOf 5 (some .int) 1 := ⟨TBL_in (tm4 (List.mem_of_getElem? (i := 170) rfl)) rfl, TBL_in (tm1 (List.mem_of_getElem? (i := 2) rfl)) rfl, by decide, by decide, by decide +kernel⟩
theorem cv_X0_worthOf : CV yX0_worthOf := ⟨TBL_in (tm4 (List.mem_of_getElem? (i := 168) rfl)) rfl, TBL_in (tm4 (List.mem_of_getElem? (i := 169) rfl)) rfl⟩
theorem cy_X0_freeInches : CY yX0_freeInches cX0_freeInches 4 (some .int) 1 := ⟨TBL_in (tm4 (List.mem_of_getElem? (i := 187) rfl)) rfl, TBL_in (tm1 (List.mem_of_getElem? (i := 2) rfl)) rfl, by decide, by decide, by decide +kernel⟩
theorem cv_X0_freeInches : CV yX0_freeInches := ⟨TBL_in (tm4 (List.mem_of_getElem? (i := 185) rfl)) rfl, TBL_in (tm4 (List.mem_of_getElem? (i := 186) rfl)) rfl⟩
theorem cy_X0_housesWith : CY yX0_housesWith cX0_housesWith 4 (some .int) 1 := ⟨TBL_in (tm4 (List.mem_of_getElem? (i := 195) rfl)) rfl, TBL_in (tm1 (List.mem_of_getElem? (i := 2) rfl)) rfl, by decide, by decide, by decide +kernel⟩
theorem cv_X0_housesWith : CV yX0_housesWith := ⟨TBL_in (tm4 (List.mem_of_getElem? (i := 193) rfl)) rfl, TBL_in (tm4 (List.mem_of_getElem? (i := 194) rfl)) rfl⟩
theorem cy_X0_candlesIn : CY yX0_candlesIn cX0_candlesIn 4 (some .int) 1 := ⟨TBL_in (tm4 (List.mem_of_getElem? (i := 222) rfl)) rfl, TBL_in (tm1 (List.mem_of_getElem? (i := 2) rfl)) rfl, by decide, by decide, by decide +kernel⟩
theorem cv_X0_candlesIn : CV yX0_candlesIn := ⟨TBL_in (tm4 (List.mem_of_getElem? (i := 220) rfl)) rfl, TBL_in (tm4 (List.mem_of_getElem? (i := 221) rfl)) rfl⟩
theorem cy_X0_copyFrom : CY yX0_copyFrom cX0_copyFrom 2 none 1 := ⟨TBL_in (tm4 (List.mem_of_getElem? (i := 203) rfl)) rfl, TBL_in (tm1 (List.mem_of_getElem? (i := 2) rfl)) rfl, by decide, by decide, by decide +kernel⟩
theorem cv_X0_copyFrom : CV yX0_copyFrom := ⟨TBL_in (tm4 (List.mem_of_getElem? (i := 201) rfl)) rfl, TBL_in (tm4 (List.mem_of_getElem? (i := 202) rfl)) rfl⟩
theorem cy_X0_copyRow : CY yX0_copyRow cX0_copyRow 3 none 2 := ⟨TBL_in (tm4 (List.mem_of_getElem? (i := 206) rfl)) rfl, TBL_in (tm1 (List.mem_of_getElem? (i := 2) rfl)) rfl, by decide, by decide, by decide +kernel⟩
theorem cs_X0_copyRow : Cond.static yX0_copyRow ∈ TBL := TBL_in (tm4 (List.mem_of_getElem? (i := 205) rfl)) rfl
theorem cy_X1_tell : CY yX1_tell cX1_tell 5 (some .int) 4 := ⟨TBL_in (tm2 (List.mem_of_getElem? (i := 174) rfl)) rfl, TBL_in (tm1 (List.mem_of_getElem? (i := 5) rfl)) rfl, by decide, by decide, by decide +kernel⟩
theorem cv_X1_tell : CV yX1_tell := ⟨TBL_in (tm2 (List.mem_of_getElem? (i := 172) rfl)) rfl, TBL_in (tm2 (List.mem_of_getElem? (i := 173) rfl)) rfl⟩
theorem cy_X1_tellNew : CY yX1_tellNew cX1_tellNew 6 (some .int) 5 := ⟨TBL_in (tm4 (List.mem_of_getElem? (i := 113) rfl)) rfl, TBL_in (tm1 (List.mem_of_getElem? (i := 5) rfl)) rfl, by decide, by decide, by decide +kernel⟩
theorem cv_X1_tellNew : CV yX1_tellNew := ⟨TBL_in (tm4 (List.mem_of_getElem? (i := 111) rfl)) rfl, TBL_in (tm4 (List.mem_of_getElem? (i := 112) rfl)) rfl⟩
theorem cy_X1_nameInch : CY yX1_nameInch cX1_nameInch 5 none 4 := ⟨TBL_in (tm2 (List.mem_of_getElem? (i := 180) rfl)) rfl, TBL_in (tm1 (List.mem_of_getElem? (i := 5) rfl)) rfl, by decide, by decide, by decide +kernel⟩
theorem cv_X1_nameInch : CV yX1_nameInch := ⟨TBL_in (tm2 (List.mem_of_getElem? (i := 179) rfl)) rfl, TBL_in (tm0 (List.mem_of_getElem? (i := 0) rfl)) rfl⟩
theorem cy_X1_nameHouse : CY yX1_nameHouse cX1_nameHouse 2 none 1 := ⟨TBL_in (tm2 (List.mem_of_getElem? (i := 184) rfl)) rfl, TBL_in (tm1 (List.mem_of_getElem? (i := 5) rfl)) rfl, by decide, by decide, by decide +kernel⟩
theorem cv_X1_nameHouse : CV yX1_nameHouse := ⟨TBL_in (tm2 (List.mem_of_getElem? (i := 183) rfl)) rfl, TBL_in (tm0 (List.mem_of_getElem? (i := 1) rfl)) rfl⟩
theorem cy_X1_answer : CY yX1_answer cX1_answer 7 (some .int) 1 := ⟨TBL_in (tm2 (List.mem_of_getElem? (i := 188) rfl)) rfl, TBL_in (tm1 (List.mem_of_getElem? (i := 5) rfl)) rfl, by decide, by decide, by decide +kernel⟩
theorem cv_X1_answer : CV yX1_answer := ⟨TBL_in (tm2 (List.mem_of_getElem? (i := 187) rfl)) rfl, TBL_in (tm0 (List.mem_of_getElem? (i := 2) rfl)) rfl⟩
theorem cy_X1_untold : CY yX1_untold cX1_untold 2 (some .int) 1 := ⟨TBL_in (tm2 (List.mem_of_getElem? (i := 215) rfl)) rfl, TBL_in (tm1 (List.mem_of_getElem? (i := 5) rfl)) rfl, by decide, by decide, by decide +kernel⟩
theorem cv_X1_untold : CV yX1_untold := ⟨TBL_in (tm2 (List.mem_of_getElem? (i := 214) rfl)) rfl, TBL_in (tm0 (List.mem_of_getElem? (i := 4) rfl)) rfl⟩
theorem cy_X1_reckon : CY yX1_reckon cX1_reckon 7 (some .int) 3 := ⟨TBL_in (tm2 (List.mem_of_getElem? (i := 200) rfl)) rfl, TBL_in (tm1 (List.mem_of_getElem? (i := 5) rfl)) rfl, by decide, by decide, by decide +kernel⟩
theorem cv_X1_reckon : CV yX1_reckon := ⟨TBL_in (tm2 (List.mem_of_getElem? (i := 199) rfl)) rfl, TBL_in (tm0 (List.mem_of_getElem? (i := 3) rfl)) rfl⟩
theorem cy_X1_combine : CY yX1_combine cX1_combine 5 (some .int) 3 := ⟨TBL_in (tm2 (List.mem_of_getElem? (i := 203) rfl)) rfl, TBL_in (tm1 (List.mem_of_getElem? (i := 5) rfl)) rfl, by decide, by decide, by decide +kernel⟩
theorem cs_X1_combine : Cond.static yX1_combine ∈ TBL := TBL_in (tm2 (List.mem_of_getElem? (i := 202) rfl)) rfl
theorem cy_X2_hasRoom : CY yX2_hasRoom cX2_hasRoom 1 (some .boolean) 0 := ⟨TBL_in (tm3 (List.mem_of_getElem? (i := 41) rfl)) rfl, TBL_in (tm1 (List.mem_of_getElem? (i := 4) rfl)) rfl, by decide, by decide, by decide +kernel⟩
theorem cv_X2_hasRoom : CV yX2_hasRoom := ⟨TBL_in (tm3 (List.mem_of_getElem? (i := 39) rfl)) rfl, TBL_in (tm3 (List.mem_of_getElem? (i := 40) rfl)) rfl⟩
theorem cy_X2_addFour : CY yX2_addFour cX2_addFour 3 none 1 := ⟨TBL_in (tm3 (List.mem_of_getElem? (i := 45) rfl)) rfl, TBL_in (tm1 (List.mem_of_getElem? (i := 4) rfl)) rfl, by decide, by decide, by decide +kernel⟩
theorem cv_X2_addFour : CV yX2_addFour := ⟨TBL_in (tm3 (List.mem_of_getElem? (i := 43) rfl)) rfl, TBL_in (tm3 (List.mem_of_getElem? (i := 44) rfl)) rfl⟩
theorem cy_X2_read : CY yX2_read cX2_read 4 (some .boolean) 1 := ⟨TBL_in (tm3 (List.mem_of_getElem? (i := 57) rfl)) rfl, TBL_in (tm1 (List.mem_of_getElem? (i := 4) rfl)) rfl, by decide, by decide, by decide +kernel⟩
theorem cv_X2_read : CV yX2_read := ⟨TBL_in (tm3 (List.mem_of_getElem? (i := 55) rfl)) rfl, TBL_in (tm3 (List.mem_of_getElem? (i := 56) rfl)) rfl⟩
theorem cy_X2_takeTokens : CY yX2_takeTokens cX2_takeTokens 4 none 0 := ⟨TBL_in (tm3 (List.mem_of_getElem? (i := 65) rfl)) rfl, TBL_in (tm1 (List.mem_of_getElem? (i := 4) rfl)) rfl, by decide, by decide, by decide +kernel⟩
theorem cv_X2_takeTokens : CV yX2_takeTokens := ⟨TBL_in (tm3 (List.mem_of_getElem? (i := 64) rfl)) rfl, TBL_in (tm0 (List.mem_of_getElem? (i := 9) rfl)) rfl⟩
theorem cy_X2_takeNumber : CY yX2_takeNumber cX2_takeNumber 4 (some .int) 1 := ⟨TBL_in (tm3 (List.mem_of_getElem? (i := 76) rfl)) rfl, TBL_in (tm1 (List.mem_of_getElem? (i := 4) rfl)) rfl, by decide, by decide, by decide +kernel⟩
theorem cv_X2_takeNumber : CV yX2_takeNumber := ⟨TBL_in (tm3 (List.mem_of_getElem? (i := 75) rfl)) rfl, TBL_in (tm0 (List.mem_of_getElem? (i := 11) rfl)) rfl⟩
theorem cy_X2_takeWord : CY yX2_takeWord cX2_takeWord 4 (some .int) 1 := ⟨TBL_in (tm3 (List.mem_of_getElem? (i := 88) rfl)) rfl, TBL_in (tm1 (List.mem_of_getElem? (i := 4) rfl)) rfl, by decide, by decide, by decide +kernel⟩
theorem cv_X2_takeWord : CV yX2_takeWord := ⟨TBL_in (tm3 (List.mem_of_getElem? (i := 87) rfl)) rfl, TBL_in (tm0 (List.mem_of_getElem? (i := 13) rfl)) rfl⟩
theorem cy_X2_addToken : CY yX2_addToken cX2_addToken 4 none 3 := ⟨TBL_in (tm3 (List.mem_of_getElem? (i := 81) rfl)) rfl, TBL_in (tm1 (List.mem_of_getElem? (i := 4) rfl)) rfl, by decide, by decide, by decide +kernel⟩
theorem cv_X2_addToken : CV yX2_addToken := ⟨TBL_in (tm3 (List.mem_of_getElem? (i := 80) rfl)) rfl, TBL_in (tm0 (List.mem_of_getElem? (i := 12) rfl)) rfl⟩
theorem cy_X2_clauseWord : CY yX2_clauseWord cX2_clauseWord 3 (some .int) 2 := ⟨TBL_in (tm3 (List.mem_of_getElem? (i := 92) rfl)) rfl, TBL_in (tm1 (List.mem_of_getElem? (i := 4) rfl)) rfl, by decide, by decide, by decide +kernel⟩
theorem cv_X2_clauseWord : CV yX2_clauseWord := ⟨TBL_in (tm3 (List.mem_of_getElem? (i := 91) rfl)) rfl, TBL_in (tm0 (List.mem_of_getElem? (i := 14) rfl)) rfl⟩
theorem cy_X2_nameWord : CY yX2_nameWord cX2_nameWord 3 (some .int) 2 := ⟨TBL_in (tm3 (List.mem_of_getElem? (i := 158) rfl)) rfl, TBL_in (tm1 (List.mem_of_getElem? (i := 4) rfl)) rfl, by decide, by decide, by decide +kernel⟩
theorem cv_X2_nameWord : CV yX2_nameWord := ⟨TBL_in (tm3 (List.mem_of_getElem? (i := 157) rfl)) rfl, TBL_in (tm0 (List.mem_of_getElem? (i := 16) rfl)) rfl⟩
theorem cy_X2_isWord : CY yX2_isWord cX2_isWord 5 (some .boolean) 3 := ⟨TBL_in (tm3 (List.mem_of_getElem? (i := 97) rfl)) rfl, TBL_in (tm1 (List.mem_of_getElem? (i := 4) rfl)) rfl, by decide, by decide, by decide +kernel⟩
theorem cv_X2_isWord : CV yX2_isWord := ⟨TBL_in (tm3 (List.mem_of_getElem? (i := 96) rfl)) rfl, TBL_in (tm0 (List.mem_of_getElem? (i := 15) rfl)) rfl⟩
theorem cy_X2_byteAt : CY yX2_byteAt cX2_byteAt 2 (some .int) 1 := ⟨TBL_in (tm3 (List.mem_of_getElem? (i := 69) rfl)) rfl, TBL_in (tm1 (List.mem_of_getElem? (i := 4) rfl)) rfl, by decide, by decide, by decide +kernel⟩
theorem cv_X2_byteAt : CV yX2_byteAt := ⟨TBL_in (tm3 (List.mem_of_getElem? (i := 68) rfl)) rfl, TBL_in (tm0 (List.mem_of_getElem? (i := 10) rfl)) rfl⟩
theorem cy_X2_isDigit : CY yX2_isDigit cX2_isDigit 1 (some .boolean) 1 := ⟨TBL_in (tm3 (List.mem_of_getElem? (i := 72) rfl)) rfl, TBL_in (tm1 (List.mem_of_getElem? (i := 4) rfl)) rfl, by decide, by decide, by decide +kernel⟩
theorem cs_X2_isDigit : Cond.static yX2_isDigit ∈ TBL := TBL_in (tm3 (List.mem_of_getElem? (i := 71) rfl)) rfl
theorem cy_X2_isLetter : CY yX2_isLetter cX2_isLetter 1 (some .boolean) 1 := ⟨TBL_in (tm3 (List.mem_of_getElem? (i := 84) rfl)) rfl, TBL_in (tm1 (List.mem_of_getElem? (i := 4) rfl)) rfl, by decide, by decide, by decide +kernel⟩
theorem cs_X2_isLetter : Cond.static yX2_isLetter ∈ TBL := TBL_in (tm3 (List.mem_of_getElem? (i := 83) rfl)) rfl
theorem cy_X2_isSign : CY yX2_isSign cX2_isSign 1 (some .boolean) 1 := ⟨TBL_in (tm3 (List.mem_of_getElem? (i := 169) rfl)) rfl, TBL_in (tm1 (List.mem_of_getElem? (i := 4) rfl)) rfl, by decide, by decide, by decide +kernel⟩
theorem cs_X2_isSign : Cond.static yX2_isSign ∈ TBL := TBL_in (tm3 (List.mem_of_getElem? (i := 168) rfl)) rfl
theorem cy_X2_advance : CY yX2_advance cX2_advance 2 none 0 := ⟨TBL_in (tm3 (List.mem_of_getElem? (i := 173) rfl)) rfl, TBL_in (tm1 (List.mem_of_getElem? (i := 4) rfl)) rfl, by decide, by decide, by decide +kernel⟩
theorem cv_X2_advance : CV yX2_advance := ⟨TBL_in (tm3 (List.mem_of_getElem? (i := 172) rfl)) rfl, TBL_in (tm0 (List.mem_of_getElem? (i := 17) rfl)) rfl⟩
theorem cy_X2_refuse : CY yX2_refuse cX2_refuse 2 (some .boolean) 1 := ⟨TBL_in (tm3 (List.mem_of_getElem? (i := 181) rfl)) rfl, TBL_in (tm1 (List.mem_of_getElem? (i := 4) rfl)) rfl, by decide, by decide, by decide +kernel⟩
theorem cv_X2_refuse : CV yX2_refuse := ⟨TBL_in (tm3 (List.mem_of_getElem? (i := 180) rfl)) rfl, TBL_in (tm0 (List.mem_of_getElem? (i := 19) rfl)) rfl⟩
theorem cy_X2_readClause : CY yX2_readClause cX2_readClause 5 (some .boolean) 1 := ⟨TBL_in (tm3 (List.mem_of_getElem? (i := 177) rfl)) rfl, TBL_in (tm1 (List.mem_of_getElem? (i := 4) rfl)) rfl, by decide, by decide, by decide +kernel⟩
theorem cv_X2_readClause : CV yX2_readClause := ⟨TBL_in (tm3 (List.mem_of_getElem? (i := 176) rfl)) rfl, TBL_in (tm0 (List.mem_of_getElem? (i := 18) rfl)) rfl⟩
theorem cy_X2_readDeed : CY yX2_readDeed cX2_readDeed 3 (some .boolean) 2 := ⟨TBL_in (tm3 (List.mem_of_getElem? (i := 210) rfl)) rfl, TBL_in (tm1 (List.mem_of_getElem? (i := 4) rfl)) rfl, by decide, by decide, by decide +kernel⟩
theorem cv_X2_readDeed : CV yX2_readDeed := ⟨TBL_in (tm3 (List.mem_of_getElem? (i := 209) rfl)) rfl, TBL_in (tm0 (List.mem_of_getElem? (i := 25) rfl)) rfl⟩
theorem cy_X2_readNumber : CY yX2_readNumber cX2_readNumber 5 (some .boolean) 4 := ⟨TBL_in (tm3 (List.mem_of_getElem? (i := 214) rfl)) rfl, TBL_in (tm1 (List.mem_of_getElem? (i := 4) rfl)) rfl, by decide, by decide, by decide +kernel⟩
theorem cv_X2_readNumber : CV yX2_readNumber := ⟨TBL_in (tm3 (List.mem_of_getElem? (i := 213) rfl)) rfl, TBL_in (tm0 (List.mem_of_getElem? (i := 26) rfl)) rfl⟩
theorem cy_X2_readWord : CY yX2_readWord cX2_readWord 2 (some .boolean) 1 := ⟨TBL_in (tm3 (List.mem_of_getElem? (i := 222) rfl)) rfl, TBL_in (tm1 (List.mem_of_getElem? (i := 4) rfl)) rfl, by decide, by decide, by decide +kernel⟩
theorem cv_X2_readWord : CV yX2_readWord := ⟨TBL_in (tm3 (List.mem_of_getElem? (i := 221) rfl)) rfl, TBL_in (tm0 (List.mem_of_getElem? (i := 27) rfl)) rfl⟩
theorem cy_X2_readSign : CY yX2_readSign cX2_readSign 2 (some .boolean) 1 := ⟨TBL_in (tm3 (List.mem_of_getElem? (i := 206) rfl)) rfl, TBL_in (tm1 (List.mem_of_getElem? (i := 4) rfl)) rfl, by decide, by decide, by decide +kernel⟩
theorem cv_X2_readSign : CV yX2_readSign := ⟨TBL_in (tm3 (List.mem_of_getElem? (i := 205) rfl)) rfl, TBL_in (tm0 (List.mem_of_getElem? (i := 24) rfl)) rfl⟩
theorem cy_X2_readSum : CY yX2_readSum cX2_readSum 5 (some .boolean) 2 := ⟨TBL_in (tm3 (List.mem_of_getElem? (i := 186) rfl)) rfl, TBL_in (tm1 (List.mem_of_getElem? (i := 4) rfl)) rfl, by decide, by decide, by decide +kernel⟩
theorem cv_X2_readSum : CV yX2_readSum := ⟨TBL_in (tm3 (List.mem_of_getElem? (i := 185) rfl)) rfl, TBL_in (tm0 (List.mem_of_getElem? (i := 20) rfl)) rfl⟩
theorem cy_X2_readProduct : CY yX2_readProduct cX2_readProduct 5 (some .boolean) 2 := ⟨TBL_in (tm3 (List.mem_of_getElem? (i := 190) rfl)) rfl, TBL_in (tm1 (List.mem_of_getElem? (i := 4) rfl)) rfl, by decide, by decide, by decide +kernel⟩
theorem cv_X2_readProduct : CV yX2_readProduct := ⟨TBL_in (tm3 (List.mem_of_getElem? (i := 189) rfl)) rfl, TBL_in (tm0 (List.mem_of_getElem? (i := 21) rfl)) rfl⟩
theorem cy_X2_readOne : CY yX2_readOne cX2_readOne 4 (some .boolean) 2 := ⟨TBL_in (tm3 (List.mem_of_getElem? (i := 194) rfl)) rfl, TBL_in (tm1 (List.mem_of_getElem? (i := 4) rfl)) rfl, by decide, by decide, by decide +kernel⟩
theorem cv_X2_readOne : CV yX2_readOne := ⟨TBL_in (tm3 (List.mem_of_getElem? (i := 193) rfl)) rfl, TBL_in (tm0 (List.mem_of_getElem? (i := 22) rfl)) rfl⟩
theorem cy_X2_readLeaf : CY yX2_readLeaf cX2_readLeaf 4 (some .boolean) 1 := ⟨TBL_in (tm3 (List.mem_of_getElem? (i := 198) rfl)) rfl, TBL_in (tm1 (List.mem_of_getElem? (i := 4) rfl)) rfl, by decide, by decide, by decide +kernel⟩
theorem cv_X2_readLeaf : CV yX2_readLeaf := ⟨TBL_in (tm3 (List.mem_of_getElem? (i := 197) rfl)) rfl, TBL_in (tm0 (List.mem_of_getElem? (i := 23) rfl)) rfl⟩
theorem cy_X3_clear : CY yX3_clear cX3_clear 2 none 0 := ⟨TBL_in (tm3 (List.mem_of_getElem? (i := 61) rfl)) rfl, TBL_in (tm1 (List.mem_of_getElem? (i := 9) rfl)) rfl, by decide, by decide, by decide +kernel⟩
theorem cv_X3_clear : CV yX3_clear := ⟨TBL_in (tm3 (List.mem_of_getElem? (i := 59) rfl)) rfl, TBL_in (tm3 (List.mem_of_getElem? (i := 60) rfl)) rfl⟩
theorem cy_X3_addCode : CY yX3_addCode cX3_addCode 2 none 1 := ⟨TBL_in (tm3 (List.mem_of_getElem? (i := 202) rfl)) rfl, TBL_in (tm1 (List.mem_of_getElem? (i := 9) rfl)) rfl, by decide, by decide, by decide +kernel⟩
theorem cv_X3_addCode : CV yX3_addCode := ⟨TBL_in (tm3 (List.mem_of_getElem? (i := 200) rfl)) rfl, TBL_in (tm3 (List.mem_of_getElem? (i := 201) rfl)) rfl⟩
theorem cy_X3_addClause : CY yX3_addClause cX3_addClause 3 none 2 := ⟨TBL_in (tm3 (List.mem_of_getElem? (i := 226) rfl)) rfl, TBL_in (tm1 (List.mem_of_getElem? (i := 9) rfl)) rfl, by decide, by decide, by decide +kernel⟩
theorem cv_X3_addClause : CV yX3_addClause := ⟨TBL_in (tm3 (List.mem_of_getElem? (i := 224) rfl)) rfl, TBL_in (tm3 (List.mem_of_getElem? (i := 225) rfl)) rfl⟩
theorem cy_X3_setNumber : CY yX3_setNumber cX3_setNumber 4 none 2 := ⟨TBL_in (tm3 (List.mem_of_getElem? (i := 218) rfl)) rfl, TBL_in (tm1 (List.mem_of_getElem? (i := 9) rfl)) rfl, by decide, by decide, by decide +kernel⟩
theorem cv_X3_setNumber : CV yX3_setNumber := ⟨TBL_in (tm3 (List.mem_of_getElem? (i := 216) rfl)) rfl, TBL_in (tm3 (List.mem_of_getElem? (i := 217) rfl)) rfl⟩
theorem cy_X3_has : CY yX3_has cX3_has 2 (some .boolean) 1 := ⟨TBL_in (tm2 (List.mem_of_getElem? (i := 196) rfl)) rfl, TBL_in (tm1 (List.mem_of_getElem? (i := 9) rfl)) rfl, by decide, by decide, by decide +kernel⟩
theorem cv_X3_has : CV yX3_has := ⟨TBL_in (tm2 (List.mem_of_getElem? (i := 194) rfl)) rfl, TBL_in (tm2 (List.mem_of_getElem? (i := 195) rfl)) rfl⟩
theorem cy_X3_kindOf : CY yX3_kindOf cX3_kindOf 2 (some .int) 1 := ⟨TBL_in (tm4 (List.mem_of_getElem? (i := 8) rfl)) rfl, TBL_in (tm1 (List.mem_of_getElem? (i := 9) rfl)) rfl, by decide, by decide, by decide +kernel⟩
theorem cv_X3_kindOf : CV yX3_kindOf := ⟨TBL_in (tm4 (List.mem_of_getElem? (i := 6) rfl)) rfl, TBL_in (tm4 (List.mem_of_getElem? (i := 7) rfl)) rfl⟩
theorem cy_X3_number : CY yX3_number cX3_number 4 (some .int) 2 := ⟨TBL_in (tm4 (List.mem_of_getElem? (i := 4) rfl)) rfl, TBL_in (tm1 (List.mem_of_getElem? (i := 9) rfl)) rfl, by decide, by decide, by decide +kernel⟩
theorem cv_X3_number : CV yX3_number := ⟨TBL_in (tm4 (List.mem_of_getElem? (i := 2) rfl)) rfl, TBL_in (tm4 (List.mem_of_getElem? (i := 3) rfl)) rfl⟩
theorem cy_X4_keep : CY yX4_keep cX4_keep 7 none 3 := ⟨TBL_in (tm2 (List.mem_of_getElem? (i := 225) rfl)) rfl, TBL_in (tm1 (List.mem_of_getElem? (i := 3) rfl)) rfl, by decide, by decide, by decide +kernel⟩
theorem cv_X4_keep : CV yX4_keep := ⟨TBL_in (tm2 (List.mem_of_getElem? (i := 223) rfl)) rfl, TBL_in (tm2 (List.mem_of_getElem? (i := 224) rfl)) rfl⟩
theorem cy_X4_takeBack : CY yX4_takeBack cX4_takeBack 6 (some .boolean) 1 := ⟨TBL_in (tm4 (List.mem_of_getElem? (i := 20) rfl)) rfl, TBL_in (tm1 (List.mem_of_getElem? (i := 3) rfl)) rfl, by decide, by decide, by decide +kernel⟩
theorem cv_X4_takeBack : CV yX4_takeBack := ⟨TBL_in (tm4 (List.mem_of_getElem? (i := 18) rfl)) rfl, TBL_in (tm4 (List.mem_of_getElem? (i := 19) rfl)) rfl⟩
theorem cy_X4_copyFrom : CY yX4_copyFrom cX4_copyFrom 4 none 1 := ⟨TBL_in (tm4 (List.mem_of_getElem? (i := 210) rfl)) rfl, TBL_in (tm1 (List.mem_of_getElem? (i := 3) rfl)) rfl, by decide, by decide, by decide +kernel⟩
theorem cv_X4_copyFrom : CV yX4_copyFrom := ⟨TBL_in (tm4 (List.mem_of_getElem? (i := 208) rfl)) rfl, TBL_in (tm4 (List.mem_of_getElem? (i := 209) rfl)) rfl⟩
theorem cy_X5_guestAt : CY yX5_guestAt cX5_guestAt 2 (some .int) 1 := ⟨TBL_in (tm4 (List.mem_of_getElem? (i := 135) rfl)) rfl, TBL_in (tm1 (List.mem_of_getElem? (i := 7) rfl)) rfl, by decide, by decide, by decide +kernel⟩
theorem cv_X5_guestAt : CV yX5_guestAt := ⟨TBL_in (tm4 (List.mem_of_getElem? (i := 133) rfl)) rfl, TBL_in (tm4 (List.mem_of_getElem? (i := 134) rfl)) rfl⟩
theorem cy_X5_seat : CY yX5_seat cX5_seat 5 none 2 := ⟨TBL_in (tm4 (List.mem_of_getElem? (i := 101) rfl)) rfl, TBL_in (tm1 (List.mem_of_getElem? (i := 7) rfl)) rfl, by decide, by decide, by decide +kernel⟩
theorem cv_X5_seat : CV yX5_seat := ⟨TBL_in (tm4 (List.mem_of_getElem? (i := 99) rfl)) rfl, TBL_in (tm4 (List.mem_of_getElem? (i := 100) rfl)) rfl⟩
theorem cy_X5_invite : CY yX5_invite cX5_invite 3 none 1 := ⟨TBL_in (tm4 (List.mem_of_getElem? (i := 105) rfl)) rfl, TBL_in (tm1 (List.mem_of_getElem? (i := 7) rfl)) rfl, by decide, by decide, by decide +kernel⟩
theorem cv_X5_invite : CV yX5_invite := ⟨TBL_in (tm4 (List.mem_of_getElem? (i := 104) rfl)) rfl, TBL_in (tm0 (List.mem_of_getElem? (i := 29) rfl)) rfl⟩
theorem cy_X5_keptBy : CY yX5_keptBy cX5_keptBy 4 (some .int) 3 := ⟨TBL_in (tm4 (List.mem_of_getElem? (i := 109) rfl)) rfl, TBL_in (tm1 (List.mem_of_getElem? (i := 7) rfl)) rfl, by decide, by decide, by decide +kernel⟩
theorem cv_X5_keptBy : CV yX5_keptBy := ⟨TBL_in (tm4 (List.mem_of_getElem? (i := 108) rfl)) rfl, TBL_in (tm0 (List.mem_of_getElem? (i := 30) rfl)) rfl⟩
theorem cy_X5_weigh : CY yX5_weigh cX5_weigh 3 none 0 := ⟨TBL_in (tm4 (List.mem_of_getElem? (i := 117) rfl)) rfl, TBL_in (tm1 (List.mem_of_getElem? (i := 7) rfl)) rfl, by decide, by decide, by decide +kernel⟩
theorem cv_X5_weigh : CV yX5_weigh := ⟨TBL_in (tm4 (List.mem_of_getElem? (i := 116) rfl)) rfl, TBL_in (tm0 (List.mem_of_getElem? (i := 31) rfl)) rfl⟩
theorem cy_X5_leading : CY yX5_leading cX5_leading 5 (some .int) 2 := ⟨TBL_in (tm4 (List.mem_of_getElem? (i := 121) rfl)) rfl, TBL_in (tm1 (List.mem_of_getElem? (i := 7) rfl)) rfl, by decide, by decide, by decide +kernel⟩
theorem cv_X5_leading : CV yX5_leading := ⟨TBL_in (tm4 (List.mem_of_getElem? (i := 120) rfl)) rfl, TBL_in (tm0 (List.mem_of_getElem? (i := 32) rfl)) rfl⟩
theorem cy_X5_choose : CY yX5_choose cX5_choose 6 none 0 := ⟨TBL_in (tm4 (List.mem_of_getElem? (i := 127) rfl)) rfl, TBL_in (tm1 (List.mem_of_getElem? (i := 7) rfl)) rfl, by decide, by decide, by decide +kernel⟩
theorem cv_X5_choose : CV yX5_choose := ⟨TBL_in (tm4 (List.mem_of_getElem? (i := 126) rfl)) rfl, TBL_in (tm0 (List.mem_of_getElem? (i := 33) rfl)) rfl⟩
theorem cy_X5_firstOf : CY yX5_firstOf cX5_firstOf 5 (some .int) 3 := ⟨TBL_in (tm4 (List.mem_of_getElem? (i := 131) rfl)) rfl, TBL_in (tm1 (List.mem_of_getElem? (i := 7) rfl)) rfl, by decide, by decide, by decide +kernel⟩
theorem cv_X5_firstOf : CV yX5_firstOf := ⟨TBL_in (tm4 (List.mem_of_getElem? (i := 130) rfl)) rfl, TBL_in (tm0 (List.mem_of_getElem? (i := 34) rfl)) rfl⟩
theorem cy_X6_plan : CY yX6_plan cX6_plan 6 (some .boolean) 1 := ⟨TBL_in (tm4 (List.mem_of_getElem? (i := 50) rfl)) rfl, TBL_in (tm1 (List.mem_of_getElem? (i := 6) rfl)) rfl, by decide, by decide, by decide +kernel⟩
theorem cv_X6_plan : CV yX6_plan := ⟨TBL_in (tm4 (List.mem_of_getElem? (i := 48) rfl)) rfl, TBL_in (tm4 (List.mem_of_getElem? (i := 49) rfl)) rfl⟩
theorem cy_X6_houseAt : CY yX6_houseAt cX6_houseAt 4 (some .int) 1 := ⟨TBL_in (tm4 (List.mem_of_getElem? (i := 58) rfl)) rfl, TBL_in (tm1 (List.mem_of_getElem? (i := 6) rfl)) rfl, by decide, by decide, by decide +kernel⟩
theorem cv_X6_houseAt : CV yX6_houseAt := ⟨TBL_in (tm4 (List.mem_of_getElem? (i := 56) rfl)) rfl, TBL_in (tm4 (List.mem_of_getElem? (i := 57) rfl)) rfl⟩
theorem cy_X6_reckonOdds : CY yX6_reckonOdds cX6_reckonOdds 3 none 1 := ⟨TBL_in (tm4 (List.mem_of_getElem? (i := 67) rfl)) rfl, TBL_in (tm1 (List.mem_of_getElem? (i := 6) rfl)) rfl, by decide, by decide, by decide +kernel⟩
theorem cv_X6_reckonOdds : CV yX6_reckonOdds := ⟨TBL_in (tm4 (List.mem_of_getElem? (i := 65) rfl)) rfl, TBL_in (tm4 (List.mem_of_getElem? (i := 66) rfl)) rfl⟩
theorem cy_X6_reckonBlame : CY yX6_reckonBlame cX6_reckonBlame 7 (some .boolean) 1 := ⟨TBL_in (tm4 (List.mem_of_getElem? (i := 83) rfl)) rfl, TBL_in (tm1 (List.mem_of_getElem? (i := 6) rfl)) rfl, by decide, by decide, by decide +kernel⟩
theorem cv_X6_reckonBlame : CV yX6_reckonBlame := ⟨TBL_in (tm4 (List.mem_of_getElem? (i := 81) rfl)) rfl, TBL_in (tm4 (List.mem_of_getElem? (i := 82) rfl)) rfl⟩
theorem cy_X6_shorten : CY yX6_shorten cX6_shorten 3 none 0 := ⟨TBL_in (tm4 (List.mem_of_getElem? (i := 72) rfl)) rfl, TBL_in (tm1 (List.mem_of_getElem? (i := 6) rfl)) rfl, by decide, by decide, by decide +kernel⟩
theorem cv_X6_shorten : CV yX6_shorten := ⟨TBL_in (tm4 (List.mem_of_getElem? (i := 71) rfl)) rfl, TBL_in (tm0 (List.mem_of_getElem? (i := 28) rfl)) rfl⟩
theorem cy_X6_commonDivisor : CY yX6_commonDivisor cX6_commonDivisor 11 (some .long) 2 := ⟨TBL_in (tm4 (List.mem_of_getElem? (i := 75) rfl)) rfl, TBL_in (tm1 (List.mem_of_getElem? (i := 6) rfl)) rfl, by decide, by decide, by decide +kernel⟩
theorem cs_X6_commonDivisor : Cond.static yX6_commonDivisor ∈ TBL := TBL_in (tm4 (List.mem_of_getElem? (i := 74) rfl)) rfl
theorem cy_X7_partnerOf : CY yX7_partnerOf cX7_partnerOf 2 (some .int) 1 := ⟨TBL_in (tm4 (List.mem_of_getElem? (i := 161) rfl)) rfl, TBL_in (tm1 (List.mem_of_getElem? (i := 8) rfl)) rfl, by decide, by decide, by decide +kernel⟩
theorem cv_X7_partnerOf : CV yX7_partnerOf := ⟨TBL_in (tm4 (List.mem_of_getElem? (i := 159) rfl)) rfl, TBL_in (tm4 (List.mem_of_getElem? (i := 160) rfl)) rfl⟩
theorem cy_X7_arrange : CY yX7_arrange cX7_arrange 2 (some .boolean) 0 := ⟨TBL_in (tm4 (List.mem_of_getElem? (i := 143) rfl)) rfl, TBL_in (tm1 (List.mem_of_getElem? (i := 8) rfl)) rfl, by decide, by decide, by decide +kernel⟩
theorem cv_X7_arrange : CV yX7_arrange := ⟨TBL_in (tm4 (List.mem_of_getElem? (i := 141) rfl)) rfl, TBL_in (tm4 (List.mem_of_getElem? (i := 142) rfl)) rfl⟩
theorem cy_X7_minutesLeft : CY yX7_minutesLeft cX7_minutesLeft 4 (some .int) 1 := ⟨TBL_in (tm4 (List.mem_of_getElem? (i := 147) rfl)) rfl, TBL_in (tm1 (List.mem_of_getElem? (i := 8) rfl)) rfl, by decide, by decide, by decide +kernel⟩
theorem cv_X7_minutesLeft : CV yX7_minutesLeft := ⟨TBL_in (tm4 (List.mem_of_getElem? (i := 146) rfl)) rfl, TBL_in (tm0 (List.mem_of_getElem? (i := 35) rfl)) rfl⟩
theorem cy_X7_marryFrom : CY yX7_marryFrom cX7_marryFrom 5 none 2 := ⟨TBL_in (tm4 (List.mem_of_getElem? (i := 152) rfl)) rfl, TBL_in (tm1 (List.mem_of_getElem? (i := 8) rfl)) rfl, by decide, by decide, by decide +kernel⟩
theorem cv_X7_marryFrom : CV yX7_marryFrom := ⟨TBL_in (tm4 (List.mem_of_getElem? (i := 151) rfl)) rfl, TBL_in (tm0 (List.mem_of_getElem? (i := 36) rfl)) rfl⟩
theorem cy_X7_keepIfBetter : CY yX7_keepIfBetter cX7_keepIfBetter 3 none 1 := ⟨TBL_in (tm4 (List.mem_of_getElem? (i := 156) rfl)) rfl, TBL_in (tm1 (List.mem_of_getElem? (i := 8) rfl)) rfl, by decide, by decide, by decide +kernel⟩
theorem cv_X7_keepIfBetter : CV yX7_keepIfBetter := ⟨TBL_in (tm4 (List.mem_of_getElem? (i := 155) rfl)) rfl, TBL_in (tm0 (List.mem_of_getElem? (i := 37) rfl)) rfl⟩
theorem cy_X8_house : CY yX8_house cX8_house 3 (some .int) 2 := ⟨TBL_in (tm2 (List.mem_of_getElem? (i := 133) rfl)) rfl, TBL_in (tm1 (List.mem_of_getElem? (i := 1) rfl)) rfl, by decide, by decide, by decide +kernel⟩
theorem cv_X8_house : CV yX8_house := ⟨TBL_in (tm2 (List.mem_of_getElem? (i := 131) rfl)) rfl, TBL_in (tm2 (List.mem_of_getElem? (i := 132) rfl)) rfl⟩
theorem cy_X8_candle : CY yX8_candle cX8_candle 3 (some .int) 2 := ⟨TBL_in (tm2 (List.mem_of_getElem? (i := 141) rfl)) rfl, TBL_in (tm1 (List.mem_of_getElem? (i := 1) rfl)) rfl, by decide, by decide, by decide +kernel⟩
theorem cv_X8_candle : CV yX8_candle := ⟨TBL_in (tm2 (List.mem_of_getElem? (i := 139) rfl)) rfl, TBL_in (tm2 (List.mem_of_getElem? (i := 140) rfl)) rfl⟩
theorem cy_X8_seed : CY yX8_seed cX8_seed 2 (some .boolean) 1 := ⟨TBL_in (tm2 (List.mem_of_getElem? (i := 149) rfl)) rfl, TBL_in (tm1 (List.mem_of_getElem? (i := 1) rfl)) rfl, by decide, by decide, by decide +kernel⟩
theorem cv_X8_seed : CV yX8_seed := ⟨TBL_in (tm2 (List.mem_of_getElem? (i := 147) rfl)) rfl, TBL_in (tm2 (List.mem_of_getElem? (i := 148) rfl)) rfl⟩
theorem cy_X8_buy : CY yX8_buy cX8_buy 5 (some .int) 3 := ⟨TBL_in (tm2 (List.mem_of_getElem? (i := 153) rfl)) rfl, TBL_in (tm1 (List.mem_of_getElem? (i := 1) rfl)) rfl, by decide, by decide, by decide +kernel⟩
theorem cv_X8_buy : CV yX8_buy := ⟨TBL_in (tm2 (List.mem_of_getElem? (i := 151) rfl)) rfl, TBL_in (tm2 (List.mem_of_getElem? (i := 152) rfl)) rfl⟩
theorem cy_X8_light : CY yX8_light cX8_light 2 (some .int) 1 := ⟨TBL_in (tm2 (List.mem_of_getElem? (i := 235) rfl)) rfl, TBL_in (tm1 (List.mem_of_getElem? (i := 1) rfl)) rfl, by decide, by decide, by decide +kernel⟩
theorem cv_X8_light : CV yX8_light := ⟨TBL_in (tm2 (List.mem_of_getElem? (i := 233) rfl)) rfl, TBL_in (tm2 (List.mem_of_getElem? (i := 234) rfl)) rfl⟩
theorem cy_X8_lightFirst : CY yX8_lightFirst cX8_lightFirst 3 (some .int) 1 := ⟨TBL_in (tm3 (List.mem_of_getElem? (i := 0) rfl)) rfl, TBL_in (tm1 (List.mem_of_getElem? (i := 1) rfl)) rfl, by decide, by decide, by decide +kernel⟩
theorem cv_X8_lightFirst : CV yX8_lightFirst := ⟨TBL_in (tm2 (List.mem_of_getElem? (i := 239) rfl)) rfl, TBL_in (tm0 (List.mem_of_getElem? (i := 5) rfl)) rfl⟩
theorem cy_X8_lightAgain : CY yX8_lightAgain cX8_lightAgain 3 (some .int) 1 := ⟨TBL_in (tm3 (List.mem_of_getElem? (i := 4) rfl)) rfl, TBL_in (tm1 (List.mem_of_getElem? (i := 1) rfl)) rfl, by decide, by decide, by decide +kernel⟩
theorem cv_X8_lightAgain : CV yX8_lightAgain := ⟨TBL_in (tm3 (List.mem_of_getElem? (i := 3) rfl)) rfl, TBL_in (tm0 (List.mem_of_getElem? (i := 6) rfl)) rfl⟩
theorem cy_X8_burn : CY yX8_burn cX8_burn 4 (some .int) 1 := ⟨TBL_in (tm3 (List.mem_of_getElem? (i := 8) rfl)) rfl, TBL_in (tm1 (List.mem_of_getElem? (i := 1) rfl)) rfl, by decide, by decide, by decide +kernel⟩
theorem cv_X8_burn : CV yX8_burn := ⟨TBL_in (tm3 (List.mem_of_getElem? (i := 6) rfl)) rfl, TBL_in (tm3 (List.mem_of_getElem? (i := 7) rfl)) rfl⟩
theorem cy_X8_burnInch : CY yX8_burnInch cX8_burnInch 7 none 3 := ⟨TBL_in (tm3 (List.mem_of_getElem? (i := 12) rfl)) rfl, TBL_in (tm1 (List.mem_of_getElem? (i := 1) rfl)) rfl, by decide, by decide, by decide +kernel⟩
theorem cv_X8_burnInch : CV yX8_burnInch := ⟨TBL_in (tm3 (List.mem_of_getElem? (i := 11) rfl)) rfl, TBL_in (tm0 (List.mem_of_getElem? (i := 7) rfl)) rfl⟩
theorem cy_X8_passOn : CY yX8_passOn cX8_passOn 5 none 3 := ⟨TBL_in (tm3 (List.mem_of_getElem? (i := 21) rfl)) rfl, TBL_in (tm1 (List.mem_of_getElem? (i := 1) rfl)) rfl, by decide, by decide, by decide +kernel⟩
theorem cv_X8_passOn : CV yX8_passOn := ⟨TBL_in (tm3 (List.mem_of_getElem? (i := 20) rfl)) rfl, TBL_in (tm0 (List.mem_of_getElem? (i := 8) rfl)) rfl⟩
theorem cy_X8_repay : CY yX8_repay cX8_repay 3 (some .int) 2 := ⟨TBL_in (tm3 (List.mem_of_getElem? (i := 29) rfl)) rfl, TBL_in (tm1 (List.mem_of_getElem? (i := 1) rfl)) rfl, by decide, by decide, by decide +kernel⟩
theorem cv_X8_repay : CV yX8_repay := ⟨TBL_in (tm3 (List.mem_of_getElem? (i := 27) rfl)) rfl, TBL_in (tm3 (List.mem_of_getElem? (i := 28) rfl)) rfl⟩
theorem cy_X8_moths : CY yX8_moths cX8_moths 5 (some .int) 1 := ⟨TBL_in (tm3 (List.mem_of_getElem? (i := 33) rfl)) rfl, TBL_in (tm1 (List.mem_of_getElem? (i := 1) rfl)) rfl, by decide, by decide, by decide +kernel⟩
theorem cv_X8_moths : CV yX8_moths := ⟨TBL_in (tm3 (List.mem_of_getElem? (i := 31) rfl)) rfl, TBL_in (tm3 (List.mem_of_getElem? (i := 32) rfl)) rfl⟩
theorem cy_X8_feed : CY yX8_feed cX8_feed 6 (some .int) 5 := ⟨TBL_in (tm3 (List.mem_of_getElem? (i := 37) rfl)) rfl, TBL_in (tm1 (List.mem_of_getElem? (i := 1) rfl)) rfl, by decide, by decide, by decide +kernel⟩
theorem cv_X8_feed : CV yX8_feed := ⟨TBL_in (tm3 (List.mem_of_getElem? (i := 35) rfl)) rfl, TBL_in (tm3 (List.mem_of_getElem? (i := 36) rfl)) rfl⟩
theorem cy_X8_end : CY yX8_end cX8_end 2 (some .int) 1 := ⟨TBL_in (tm3 (List.mem_of_getElem? (i := 49) rfl)) rfl, TBL_in (tm1 (List.mem_of_getElem? (i := 1) rfl)) rfl, by decide, by decide, by decide +kernel⟩
theorem cv_X8_end : CV yX8_end := ⟨TBL_in (tm3 (List.mem_of_getElem? (i := 47) rfl)) rfl, TBL_in (tm3 (List.mem_of_getElem? (i := 48) rfl)) rfl⟩
theorem cy_X8_text : CY yX8_text cX8_text 3 (some .int) 0 := ⟨TBL_in (tm3 (List.mem_of_getElem? (i := 53) rfl)) rfl, TBL_in (tm1 (List.mem_of_getElem? (i := 1) rfl)) rfl, by decide, by decide, by decide +kernel⟩
theorem cv_X8_text : CV yX8_text := ⟨TBL_in (tm3 (List.mem_of_getElem? (i := 51) rfl)) rfl, TBL_in (tm3 (List.mem_of_getElem? (i := 52) rfl)) rfl⟩
theorem cy_X8_fault : CY yX8_fault cX8_fault 2 (some .int) 1 := ⟨TBL_in (tm3 (List.mem_of_getElem? (i := 231) rfl)) rfl, TBL_in (tm1 (List.mem_of_getElem? (i := 1) rfl)) rfl, by decide, by decide, by decide +kernel⟩
theorem cv_X8_fault : CV yX8_fault := ⟨TBL_in (tm3 (List.mem_of_getElem? (i := 229) rfl)) rfl, TBL_in (tm3 (List.mem_of_getElem? (i := 230) rfl)) rfl⟩
theorem cy_X8_by : CY yX8_by cX8_by 2 (some .boolean) 1 := ⟨TBL_in (tm3 (List.mem_of_getElem? (i := 235) rfl)) rfl, TBL_in (tm1 (List.mem_of_getElem? (i := 1) rfl)) rfl, by decide, by decide, by decide +kernel⟩
theorem cv_X8_by : CV yX8_by := ⟨TBL_in (tm3 (List.mem_of_getElem? (i := 233) rfl)) rfl, TBL_in (tm3 (List.mem_of_getElem? (i := 234) rfl)) rfl⟩
theorem cy_X8_played : CY yX8_played cX8_played 6 (some .int) 1 := ⟨TBL_in (tm4 (List.mem_of_getElem? (i := 0) rfl)) rfl, TBL_in (tm1 (List.mem_of_getElem? (i := 1) rfl)) rfl, by decide, by decide, by decide +kernel⟩
theorem cv_X8_played : CV yX8_played := ⟨TBL_in (tm3 (List.mem_of_getElem? (i := 238) rfl)) rfl, TBL_in (tm3 (List.mem_of_getElem? (i := 239) rfl)) rfl⟩
theorem cy_X8_undo : CY yX8_undo cX8_undo 1 (some .int) 0 := ⟨TBL_in (tm4 (List.mem_of_getElem? (i := 16) rfl)) rfl, TBL_in (tm1 (List.mem_of_getElem? (i := 1) rfl)) rfl, by decide, by decide, by decide +kernel⟩
theorem cv_X8_undo : CV yX8_undo := ⟨TBL_in (tm4 (List.mem_of_getElem? (i := 14) rfl)) rfl, TBL_in (tm4 (List.mem_of_getElem? (i := 15) rfl)) rfl⟩
theorem cy_X8_houseOf : CY yX8_houseOf cX8_houseOf 3 (some .int) 2 := ⟨TBL_in (tm4 (List.mem_of_getElem? (i := 26) rfl)) rfl, TBL_in (tm1 (List.mem_of_getElem? (i := 1) rfl)) rfl, by decide, by decide, by decide +kernel⟩
theorem cv_X8_houseOf : CV yX8_houseOf := ⟨TBL_in (tm4 (List.mem_of_getElem? (i := 24) rfl)) rfl, TBL_in (tm4 (List.mem_of_getElem? (i := 25) rfl)) rfl⟩
theorem cy_X8_candleOf : CY yX8_candleOf cX8_candleOf 3 (some .int) 2 := ⟨TBL_in (tm4 (List.mem_of_getElem? (i := 30) rfl)) rfl, TBL_in (tm1 (List.mem_of_getElem? (i := 1) rfl)) rfl, by decide, by decide, by decide +kernel⟩
theorem cv_X8_candleOf : CV yX8_candleOf := ⟨TBL_in (tm4 (List.mem_of_getElem? (i := 28) rfl)) rfl, TBL_in (tm4 (List.mem_of_getElem? (i := 29) rfl)) rfl⟩
theorem cy_X8_says : CY yX8_says cX8_says 5 (some .int) 4 := ⟨TBL_in (tm4 (List.mem_of_getElem? (i := 34) rfl)) rfl, TBL_in (tm1 (List.mem_of_getElem? (i := 1) rfl)) rfl, by decide, by decide, by decide +kernel⟩
theorem cv_X8_says : CV yX8_says := ⟨TBL_in (tm4 (List.mem_of_getElem? (i := 32) rfl)) rfl, TBL_in (tm4 (List.mem_of_getElem? (i := 33) rfl)) rfl⟩
theorem cy_X8_drip : CY yX8_drip cX8_drip 3 (some .int) 2 := ⟨TBL_in (tm4 (List.mem_of_getElem? (i := 38) rfl)) rfl, TBL_in (tm1 (List.mem_of_getElem? (i := 1) rfl)) rfl, by decide, by decide, by decide +kernel⟩
theorem cv_X8_drip : CV yX8_drip := ⟨TBL_in (tm4 (List.mem_of_getElem? (i := 36) rfl)) rfl, TBL_in (tm4 (List.mem_of_getElem? (i := 37) rfl)) rfl⟩
theorem cy_X8_whose : CY yX8_whose cX8_whose 3 (some .int) 2 := ⟨TBL_in (tm4 (List.mem_of_getElem? (i := 46) rfl)) rfl, TBL_in (tm1 (List.mem_of_getElem? (i := 1) rfl)) rfl, by decide, by decide, by decide +kernel⟩
theorem cv_X8_whose : CV yX8_whose := ⟨TBL_in (tm4 (List.mem_of_getElem? (i := 44) rfl)) rfl, TBL_in (tm4 (List.mem_of_getElem? (i := 45) rfl)) rfl⟩
theorem cy_X8_odds : CY yX8_odds cX8_odds 4 (some .long) 3 := ⟨TBL_in (tm4 (List.mem_of_getElem? (i := 62) rfl)) rfl, TBL_in (tm1 (List.mem_of_getElem? (i := 1) rfl)) rfl, by decide, by decide, by decide +kernel⟩
theorem cv_X8_odds : CV yX8_odds := ⟨TBL_in (tm4 (List.mem_of_getElem? (i := 60) rfl)) rfl, TBL_in (tm4 (List.mem_of_getElem? (i := 61) rfl)) rfl⟩
theorem cy_X8_blame : CY yX8_blame cX8_blame 4 (some .long) 3 := ⟨TBL_in (tm4 (List.mem_of_getElem? (i := 79) rfl)) rfl, TBL_in (tm1 (List.mem_of_getElem? (i := 1) rfl)) rfl, by decide, by decide, by decide +kernel⟩
theorem cv_X8_blame : CV yX8_blame := ⟨TBL_in (tm4 (List.mem_of_getElem? (i := 77) rfl)) rfl, TBL_in (tm4 (List.mem_of_getElem? (i := 78) rfl)) rfl⟩
theorem cy_X8_supper : CY yX8_supper cX8_supper 5 (some .int) 3 := ⟨TBL_in (tm4 (List.mem_of_getElem? (i := 87) rfl)) rfl, TBL_in (tm1 (List.mem_of_getElem? (i := 1) rfl)) rfl, by decide, by decide, by decide +kernel⟩
theorem cv_X8_supper : CV yX8_supper := ⟨TBL_in (tm4 (List.mem_of_getElem? (i := 85) rfl)) rfl, TBL_in (tm4 (List.mem_of_getElem? (i := 86) rfl)) rfl⟩
theorem cy_X8_married : CY yX8_married cX8_married 2 (some .int) 1 := ⟨TBL_in (tm4 (List.mem_of_getElem? (i := 139) rfl)) rfl, TBL_in (tm1 (List.mem_of_getElem? (i := 1) rfl)) rfl, by decide, by decide, by decide +kernel⟩
theorem cv_X8_married : CV yX8_married := ⟨TBL_in (tm4 (List.mem_of_getElem? (i := 137) rfl)) rfl, TBL_in (tm4 (List.mem_of_getElem? (i := 138) rfl)) rfl⟩
theorem cy_X8_worth : CY yX8_worth cX8_worth 2 (some .int) 1 := ⟨TBL_in (tm4 (List.mem_of_getElem? (i := 166) rfl)) rfl, TBL_in (tm1 (List.mem_of_getElem? (i := 1) rfl)) rfl, by decide, by decide, by decide +kernel⟩
theorem cv_X8_worth : CV yX8_worth := ⟨TBL_in (tm4 (List.mem_of_getElem? (i := 164) rfl)) rfl, TBL_in (tm4 (List.mem_of_getElem? (i := 165) rfl)) rfl⟩
theorem cy_X8_club : CY yX8_club cX8_club 6 (some .int) 1 := ⟨TBL_in (tm4 (List.mem_of_getElem? (i := 179) rfl)) rfl, TBL_in (tm1 (List.mem_of_getElem? (i := 1) rfl)) rfl, by decide, by decide, by decide +kernel⟩
theorem cv_X8_club : CV yX8_club := ⟨TBL_in (tm4 (List.mem_of_getElem? (i := 177) rfl)) rfl, TBL_in (tm4 (List.mem_of_getElem? (i := 178) rfl)) rfl⟩
theorem cy_X8_settles : CY yX8_settles cX8_settles 9 (some .int) 3 := ⟨TBL_in (tm4 (List.mem_of_getElem? (i := 183) rfl)) rfl, TBL_in (tm1 (List.mem_of_getElem? (i := 1) rfl)) rfl, by decide, by decide, by decide +kernel⟩
theorem cv_X8_settles : CV yX8_settles := ⟨TBL_in (tm4 (List.mem_of_getElem? (i := 181) rfl)) rfl, TBL_in (tm4 (List.mem_of_getElem? (i := 182) rfl)) rfl⟩
theorem cy_X8_turnOf : CY yX8_turnOf cX8_turnOf 4 (some .int) 2 := ⟨TBL_in (tm4 (List.mem_of_getElem? (i := 191) rfl)) rfl, TBL_in (tm1 (List.mem_of_getElem? (i := 1) rfl)) rfl, by decide, by decide, by decide +kernel⟩
theorem cv_X8_turnOf : CV yX8_turnOf := ⟨TBL_in (tm4 (List.mem_of_getElem? (i := 190) rfl)) rfl, TBL_in (tm0 (List.mem_of_getElem? (i := 38) rfl)) rfl⟩
theorem cy_X8_image : CY yX8_image cX8_image 1 (some .int) 0 := ⟨TBL_in (tm4 (List.mem_of_getElem? (i := 199) rfl)) rfl, TBL_in (tm1 (List.mem_of_getElem? (i := 1) rfl)) rfl, by decide, by decide, by decide +kernel⟩
theorem cv_X8_image : CV yX8_image := ⟨TBL_in (tm4 (List.mem_of_getElem? (i := 197) rfl)) rfl, TBL_in (tm4 (List.mem_of_getElem? (i := 198) rfl)) rfl⟩
theorem cy_X8_back : CY yX8_back cX8_back 1 (some .int) 0 := ⟨TBL_in (tm4 (List.mem_of_getElem? (i := 214) rfl)) rfl, TBL_in (tm1 (List.mem_of_getElem? (i := 1) rfl)) rfl, by decide, by decide, by decide +kernel⟩
theorem cv_X8_back : CV yX8_back := ⟨TBL_in (tm4 (List.mem_of_getElem? (i := 212) rfl)) rfl, TBL_in (tm4 (List.mem_of_getElem? (i := 213) rfl)) rfl⟩
theorem cy_X8_about : CY yX8_about cX8_about 2 (some .int) 1 := ⟨TBL_in (tm4 (List.mem_of_getElem? (i := 218) rfl)) rfl, TBL_in (tm1 (List.mem_of_getElem? (i := 1) rfl)) rfl, by decide, by decide, by decide +kernel⟩
theorem cv_X8_about : CV yX8_about := ⟨TBL_in (tm4 (List.mem_of_getElem? (i := 216) rfl)) rfl, TBL_in (tm4 (List.mem_of_getElem? (i := 217) rfl)) rfl⟩
theorem cy_X9_in : CY yX9_in cX9_in 3 (some .boolean) 3 := ⟨TBL_in (tm5 (List.mem_of_getElem? (i := 149) rfl)) rfl, TBL_in (tm1 (List.mem_of_getElem? (i := 10) rfl)) rfl, by decide, by decide, by decide +kernel⟩
theorem cs_X9_in : Cond.static yX9_in ∈ TBL := TBL_in (tm5 (List.mem_of_getElem? (i := 148) rfl)) rfl
theorem cy_X9_copies : CY yX9_copies cX9_copies 3 none 1 := ⟨TBL_in (tm4 (List.mem_of_getElem? (i := 232) rfl)) rfl, TBL_in (tm1 (List.mem_of_getElem? (i := 10) rfl)) rfl, by decide, by decide, by decide +kernel⟩
theorem cv_X9_copies : CV yX9_copies := ⟨TBL_in (tm4 (List.mem_of_getElem? (i := 231) rfl)) rfl, TBL_in (tm0 (List.mem_of_getElem? (i := 39) rfl)) rfl⟩
theorem cy_X9_isHouse : CY yX9_isHouse cX9_isHouse 2 (some .boolean) 1 := ⟨TBL_in (tm6 (List.mem_of_getElem? (i := 58) rfl)) rfl, TBL_in (tm1 (List.mem_of_getElem? (i := 10) rfl)) rfl, by decide, by decide, by decide +kernel⟩
theorem cv_X9_isHouse : CV yX9_isHouse := ⟨TBL_in (tm6 (List.mem_of_getElem? (i := 57) rfl)) rfl, TBL_in (tm0 (List.mem_of_getElem? (i := 60) rfl)) rfl⟩
theorem cy_X9_isCandle : CY yX9_isCandle cX9_isCandle 2 (some .boolean) 1 := ⟨TBL_in (tm6 (List.mem_of_getElem? (i := 62) rfl)) rfl, TBL_in (tm1 (List.mem_of_getElem? (i := 10) rfl)) rfl, by decide, by decide, by decide +kernel⟩
theorem cv_X9_isCandle : CV yX9_isCandle := ⟨TBL_in (tm6 (List.mem_of_getElem? (i := 61) rfl)) rfl, TBL_in (tm0 (List.mem_of_getElem? (i := 61) rfl)) rfl⟩
theorem cy_X9_thickOf : CY yX9_thickOf cX9_thickOf 2 (some .int) 1 := ⟨TBL_in (tm6 (List.mem_of_getElem? (i := 74) rfl)) rfl, TBL_in (tm1 (List.mem_of_getElem? (i := 10) rfl)) rfl, by decide, by decide, by decide +kernel⟩
theorem cv_X9_thickOf : CV yX9_thickOf := ⟨TBL_in (tm6 (List.mem_of_getElem? (i := 73) rfl)) rfl, TBL_in (tm0 (List.mem_of_getElem? (i := 64) rfl)) rfl⟩
theorem cy_X9_inchesOf : CY yX9_inchesOf cX9_inchesOf 2 (some .int) 1 := ⟨TBL_in (tm6 (List.mem_of_getElem? (i := 66) rfl)) rfl, TBL_in (tm1 (List.mem_of_getElem? (i := 10) rfl)) rfl, by decide, by decide, by decide +kernel⟩
theorem cv_X9_inchesOf : CV yX9_inchesOf := ⟨TBL_in (tm6 (List.mem_of_getElem? (i := 65) rfl)) rfl, TBL_in (tm0 (List.mem_of_getElem? (i := 62) rfl)) rfl⟩
theorem cy_X9_ofCandle : CY yX9_ofCandle cX9_ofCandle 3 (some .int) 2 := ⟨TBL_in (tm6 (List.mem_of_getElem? (i := 105) rfl)) rfl, TBL_in (tm1 (List.mem_of_getElem? (i := 10) rfl)) rfl, by decide, by decide, by decide +kernel⟩
theorem cv_X9_ofCandle : CV yX9_ofCandle := ⟨TBL_in (tm6 (List.mem_of_getElem? (i := 104) rfl)) rfl, TBL_in (tm0 (List.mem_of_getElem? (i := 68) rfl)) rfl⟩
theorem cy_X9_puts : CY yX9_puts cX9_puts 4 none 3 := ⟨TBL_in (tm6 (List.mem_of_getElem? (i := 117) rfl)) rfl, TBL_in (tm1 (List.mem_of_getElem? (i := 10) rfl)) rfl, by decide, by decide, by decide +kernel⟩
theorem cv_X9_puts : CV yX9_puts := ⟨TBL_in (tm6 (List.mem_of_getElem? (i := 116) rfl)) rfl, TBL_in (tm0 (List.mem_of_getElem? (i := 71) rfl)) rfl⟩
theorem cy_X9_ownerOf : CY yX9_ownerOf cX9_ownerOf 3 (some .int) 2 := ⟨TBL_in (tm6 (List.mem_of_getElem? (i := 109) rfl)) rfl, TBL_in (tm1 (List.mem_of_getElem? (i := 10) rfl)) rfl, by decide, by decide, by decide +kernel⟩
theorem cv_X9_ownerOf : CV yX9_ownerOf := ⟨TBL_in (tm6 (List.mem_of_getElem? (i := 108) rfl)) rfl, TBL_in (tm0 (List.mem_of_getElem? (i := 69) rfl)) rfl⟩
theorem cy_X9_house : CY yX9_house cX9_house 5 (some .int) 2 := ⟨TBL_in (tm5 (List.mem_of_getElem? (i := 146) rfl)) rfl, TBL_in (tm1 (List.mem_of_getElem? (i := 10) rfl)) rfl, by decide, by decide, by decide +kernel⟩
theorem cv_X9_house : CV yX9_house := ⟨TBL_in (tm5 (List.mem_of_getElem? (i := 144) rfl)) rfl, TBL_in (tm5 (List.mem_of_getElem? (i := 145) rfl)) rfl⟩
theorem cy_X9_tellsCandle : CY yX9_tellsCandle cX9_tellsCandle 5 none 2 := ⟨TBL_in (tm5 (List.mem_of_getElem? (i := 157) rfl)) rfl, TBL_in (tm1 (List.mem_of_getElem? (i := 10) rfl)) rfl, by decide, by decide, by decide +kernel⟩
theorem cv_X9_tellsCandle : CV yX9_tellsCandle := ⟨TBL_in (tm5 (List.mem_of_getElem? (i := 156) rfl)) rfl, TBL_in (tm0 (List.mem_of_getElem? (i := 40) rfl)) rfl⟩
theorem cy_X9_candle : CY yX9_candle cX9_candle 5 (some .int) 2 := ⟨TBL_in (tm5 (List.mem_of_getElem? (i := 153) rfl)) rfl, TBL_in (tm1 (List.mem_of_getElem? (i := 10) rfl)) rfl, by decide, by decide, by decide +kernel⟩
theorem cv_X9_candle : CV yX9_candle := ⟨TBL_in (tm5 (List.mem_of_getElem? (i := 151) rfl)) rfl, TBL_in (tm5 (List.mem_of_getElem? (i := 152) rfl)) rfl⟩
theorem cy_X9_seed : CY yX9_seed cX9_seed 2 (some .boolean) 1 := ⟨TBL_in (tm5 (List.mem_of_getElem? (i := 161) rfl)) rfl, TBL_in (tm1 (List.mem_of_getElem? (i := 10) rfl)) rfl, by decide, by decide, by decide +kernel⟩
theorem cv_X9_seed : CV yX9_seed := ⟨TBL_in (tm5 (List.mem_of_getElem? (i := 159) rfl)) rfl, TBL_in (tm5 (List.mem_of_getElem? (i := 160) rfl)) rfl⟩
theorem cy_X9_keepsStep : CY yX9_keepsStep cX9_keepsStep 2 none 0 := ⟨TBL_in (tm6 (List.mem_of_getElem? (i := 113) rfl)) rfl, TBL_in (tm1 (List.mem_of_getElem? (i := 10) rfl)) rfl, by decide, by decide, by decide +kernel⟩
theorem cv_X9_keepsStep : CV yX9_keepsStep := ⟨TBL_in (tm6 (List.mem_of_getElem? (i := 112) rfl)) rfl, TBL_in (tm0 (List.mem_of_getElem? (i := 70) rfl)) rfl⟩
theorem cy_X9_undo : CY yX9_undo cX9_undo 2 (some .int) 0 := ⟨TBL_in (tm5 (List.mem_of_getElem? (i := 165) rfl)) rfl, TBL_in (tm1 (List.mem_of_getElem? (i := 10) rfl)) rfl, by decide, by decide, by decide +kernel⟩
theorem cv_X9_undo : CV yX9_undo := ⟨TBL_in (tm5 (List.mem_of_getElem? (i := 163) rfl)) rfl, TBL_in (tm5 (List.mem_of_getElem? (i := 164) rfl)) rfl⟩
theorem cy_X9_draw : CY yX9_draw cX9_draw 3 (some .int) 1 := ⟨TBL_in (tm6 (List.mem_of_getElem? (i := 132) rfl)) rfl, TBL_in (tm1 (List.mem_of_getElem? (i := 10) rfl)) rfl, by decide, by decide, by decide +kernel⟩
theorem cv_X9_draw : CV yX9_draw := ⟨TBL_in (tm6 (List.mem_of_getElem? (i := 131) rfl)) rfl, TBL_in (tm0 (List.mem_of_getElem? (i := 72) rfl)) rfl⟩
theorem cy_X9_put : CY yX9_put cX9_put 3 none 1 := ⟨TBL_in (tm5 (List.mem_of_getElem? (i := 173) rfl)) rfl, TBL_in (tm1 (List.mem_of_getElem? (i := 10) rfl)) rfl, by decide, by decide, by decide +kernel⟩
theorem cv_X9_put : CV yX9_put := ⟨TBL_in (tm5 (List.mem_of_getElem? (i := 172) rfl)) rfl, TBL_in (tm0 (List.mem_of_getElem? (i := 41) rfl)) rfl⟩
theorem cy_X9_feed : CY yX9_feed cX9_feed 6 (some .int) 5 := ⟨TBL_in (tm5 (List.mem_of_getElem? (i := 169) rfl)) rfl, TBL_in (tm1 (List.mem_of_getElem? (i := 10) rfl)) rfl, by decide, by decide, by decide +kernel⟩
theorem cv_X9_feed : CV yX9_feed := ⟨TBL_in (tm5 (List.mem_of_getElem? (i := 167) rfl)) rfl, TBL_in (tm5 (List.mem_of_getElem? (i := 168) rfl)) rfl⟩
theorem cy_X9_end : CY yX9_end cX9_end 2 (some .int) 1 := ⟨TBL_in (tm5 (List.mem_of_getElem? (i := 177) rfl)) rfl, TBL_in (tm1 (List.mem_of_getElem? (i := 10) rfl)) rfl, by decide, by decide, by decide +kernel⟩
theorem cv_X9_end : CV yX9_end := ⟨TBL_in (tm5 (List.mem_of_getElem? (i := 175) rfl)) rfl, TBL_in (tm5 (List.mem_of_getElem? (i := 176) rfl)) rfl⟩
theorem cy_X9_isLetter : CY yX9_isLetter cX9_isLetter 1 (some .boolean) 1 := ⟨TBL_in (tm5 (List.mem_of_getElem? (i := 188) rfl)) rfl, TBL_in (tm1 (List.mem_of_getElem? (i := 10) rfl)) rfl, by decide, by decide, by decide +kernel⟩
theorem cs_X9_isLetter : Cond.static yX9_isLetter ∈ TBL := TBL_in (tm5 (List.mem_of_getElem? (i := 187) rfl)) rfl
theorem cy_X9_wordOf : CY yX9_wordOf cX9_wordOf 2 (some .int) 1 := ⟨TBL_in (tm5 (List.mem_of_getElem? (i := 192) rfl)) rfl, TBL_in (tm1 (List.mem_of_getElem? (i := 10) rfl)) rfl, by decide, by decide, by decide +kernel⟩
theorem cs_X9_wordOf : Cond.static yX9_wordOf ∈ TBL := TBL_in (tm5 (List.mem_of_getElem? (i := 191) rfl)) rfl
theorem cy_X9_next : CY yX9_next cX9_next 5 none 0 := ⟨TBL_in (tm5 (List.mem_of_getElem? (i := 185) rfl)) rfl, TBL_in (tm1 (List.mem_of_getElem? (i := 10) rfl)) rfl, by decide, by decide, by decide +kernel⟩
theorem cv_X9_next : CV yX9_next := ⟨TBL_in (tm5 (List.mem_of_getElem? (i := 184) rfl)) rfl, TBL_in (tm0 (List.mem_of_getElem? (i := 42) rfl)) rfl⟩
theorem cy_X9_isSign : CY yX9_isSign cX9_isSign 2 (some .boolean) 1 := ⟨TBL_in (tm5 (List.mem_of_getElem? (i := 235) rfl)) rfl, TBL_in (tm1 (List.mem_of_getElem? (i := 10) rfl)) rfl, by decide, by decide, by decide +kernel⟩
theorem cv_X9_isSign : CV yX9_isSign := ⟨TBL_in (tm5 (List.mem_of_getElem? (i := 234) rfl)) rfl, TBL_in (tm0 (List.mem_of_getElem? (i := 48) rfl)) rfl⟩
theorem cy_X9_isWord : CY yX9_isWord cX9_isWord 2 (some .boolean) 1 := ⟨TBL_in (tm6 (List.mem_of_getElem? (i := 42) rfl)) rfl, TBL_in (tm1 (List.mem_of_getElem? (i := 10) rfl)) rfl, by decide, by decide, by decide +kernel⟩
theorem cv_X9_isWord : CV yX9_isWord := ⟨TBL_in (tm6 (List.mem_of_getElem? (i := 41) rfl)) rfl, TBL_in (tm0 (List.mem_of_getElem? (i := 59) rfl)) rfl⟩
theorem cy_X9_errs : CY yX9_errs cX9_errs 2 none 1 := ⟨TBL_in (tm5 (List.mem_of_getElem? (i := 219) rfl)) rfl, TBL_in (tm1 (List.mem_of_getElem? (i := 10) rfl)) rfl, by decide, by decide, by decide +kernel⟩
theorem cv_X9_errs : CV yX9_errs := ⟨TBL_in (tm5 (List.mem_of_getElem? (i := 218) rfl)) rfl, TBL_in (tm0 (List.mem_of_getElem? (i := 44) rfl)) rfl⟩
theorem cy_X9_emits : CY yX9_emits cX9_emits 3 none 2 := ⟨TBL_in (tm5 (List.mem_of_getElem? (i := 223) rfl)) rfl, TBL_in (tm1 (List.mem_of_getElem? (i := 10) rfl)) rfl, by decide, by decide, by decide +kernel⟩
theorem cv_X9_emits : CV yX9_emits := ⟨TBL_in (tm5 (List.mem_of_getElem? (i := 222) rfl)) rfl, TBL_in (tm0 (List.mem_of_getElem? (i := 45) rfl)) rfl⟩
theorem cy_X9_opensFrame : CY yX9_opensFrame cX9_opensFrame 2 none 1 := ⟨TBL_in (tm6 (List.mem_of_getElem? (i := 3) rfl)) rfl, TBL_in (tm1 (List.mem_of_getElem? (i := 10) rfl)) rfl, by decide, by decide, by decide +kernel⟩
theorem cv_X9_opensFrame : CV yX9_opensFrame := ⟨TBL_in (tm6 (List.mem_of_getElem? (i := 2) rfl)) rfl, TBL_in (tm0 (List.mem_of_getElem? (i := 50) rfl)) rfl⟩
theorem cy_X9_top : CY yX9_top cX9_top 1 (some .int) 0 := ⟨TBL_in (tm5 (List.mem_of_getElem? (i := 231) rfl)) rfl, TBL_in (tm1 (List.mem_of_getElem? (i := 10) rfl)) rfl, by decide, by decide, by decide +kernel⟩
theorem cv_X9_top : CV yX9_top := ⟨TBL_in (tm5 (List.mem_of_getElem? (i := 230) rfl)) rfl, TBL_in (tm0 (List.mem_of_getElem? (i := 47) rfl)) rfl⟩
theorem cy_X9_opensSign : CY yX9_opensSign cX9_opensSign 2 (some .boolean) 1 := ⟨TBL_in (tm5 (List.mem_of_getElem? (i := 239) rfl)) rfl, TBL_in (tm1 (List.mem_of_getElem? (i := 10) rfl)) rfl, by decide, by decide, by decide +kernel⟩
theorem cv_X9_opensSign : CV yX9_opensSign := ⟨TBL_in (tm5 (List.mem_of_getElem? (i := 238) rfl)) rfl, TBL_in (tm0 (List.mem_of_getElem? (i := 49) rfl)) rfl⟩
theorem cy_X9_rank : CY yX9_rank cX9_rank 1 (some .int) 1 := ⟨TBL_in (tm6 (List.mem_of_getElem? (i := 14) rfl)) rfl, TBL_in (tm1 (List.mem_of_getElem? (i := 10) rfl)) rfl, by decide, by decide, by decide +kernel⟩
theorem cs_X9_rank : Cond.static yX9_rank ∈ TBL := TBL_in (tm6 (List.mem_of_getElem? (i := 13) rfl)) rfl
theorem cy_X9_works : CY yX9_works cX9_works 2 none 1 := ⟨TBL_in (tm6 (List.mem_of_getElem? (i := 18) rfl)) rfl, TBL_in (tm1 (List.mem_of_getElem? (i := 10) rfl)) rfl, by decide, by decide, by decide +kernel⟩
theorem cv_X9_works : CV yX9_works := ⟨TBL_in (tm6 (List.mem_of_getElem? (i := 17) rfl)) rfl, TBL_in (tm0 (List.mem_of_getElem? (i := 53) rfl)) rfl⟩
theorem cy_X9_waitsFor : CY yX9_waitsFor cX9_waitsFor 2 none 1 := ⟨TBL_in (tm6 (List.mem_of_getElem? (i := 11) rfl)) rfl, TBL_in (tm1 (List.mem_of_getElem? (i := 10) rfl)) rfl, by decide, by decide, by decide +kernel⟩
theorem cv_X9_waitsFor : CV yX9_waitsFor := ⟨TBL_in (tm6 (List.mem_of_getElem? (i := 10) rfl)) rfl, TBL_in (tm0 (List.mem_of_getElem? (i := 52) rfl)) rfl⟩
theorem cy_X9_begins : CY yX9_begins cX9_begins 2 none 0 := ⟨TBL_in (tm5 (List.mem_of_getElem? (i := 215) rfl)) rfl, TBL_in (tm1 (List.mem_of_getElem? (i := 10) rfl)) rfl, by decide, by decide, by decide +kernel⟩
theorem cv_X9_begins : CV yX9_begins := ⟨TBL_in (tm5 (List.mem_of_getElem? (i := 214) rfl)) rfl, TBL_in (tm0 (List.mem_of_getElem? (i := 43) rfl)) rfl⟩
theorem cy_X9_oneIsOver : CY yX9_oneIsOver cX9_oneIsOver 1 none 0 := ⟨TBL_in (tm5 (List.mem_of_getElem? (i := 227) rfl)) rfl, TBL_in (tm1 (List.mem_of_getElem? (i := 10) rfl)) rfl, by decide, by decide, by decide +kernel⟩
theorem cv_X9_oneIsOver : CV yX9_oneIsOver := ⟨TBL_in (tm5 (List.mem_of_getElem? (i := 226) rfl)) rfl, TBL_in (tm0 (List.mem_of_getElem? (i := 46) rfl)) rfl⟩
theorem cy_X9_goesOn : CY yX9_goesOn cX9_goesOn 2 none 0 := ⟨TBL_in (tm6 (List.mem_of_getElem? (i := 7) rfl)) rfl, TBL_in (tm1 (List.mem_of_getElem? (i := 10) rfl)) rfl, by decide, by decide, by decide +kernel⟩
theorem cv_X9_goesOn : CV yX9_goesOn := ⟨TBL_in (tm6 (List.mem_of_getElem? (i := 6) rfl)) rfl, TBL_in (tm0 (List.mem_of_getElem? (i := 51) rfl)) rfl⟩
theorem cy_X9_clauseIsOver : CY yX9_clauseIsOver cX9_clauseIsOver 1 none 0 := ⟨TBL_in (tm6 (List.mem_of_getElem? (i := 22) rfl)) rfl, TBL_in (tm1 (List.mem_of_getElem? (i := 10) rfl)) rfl, by decide, by decide, by decide +kernel⟩
theorem cv_X9_clauseIsOver : CV yX9_clauseIsOver := ⟨TBL_in (tm6 (List.mem_of_getElem? (i := 21) rfl)) rfl, TBL_in (tm0 (List.mem_of_getElem? (i := 54) rfl)) rfl⟩
theorem cy_X9_number : CY yX9_number cX9_number 4 (some .int) 2 := ⟨TBL_in (tm6 (List.mem_of_getElem? (i := 34) rfl)) rfl, TBL_in (tm1 (List.mem_of_getElem? (i := 10) rfl)) rfl, by decide, by decide, by decide +kernel⟩
theorem cv_X9_number : CV yX9_number := ⟨TBL_in (tm6 (List.mem_of_getElem? (i := 33) rfl)) rfl, TBL_in (tm0 (List.mem_of_getElem? (i := 57) rfl)) rfl⟩
theorem cy_X9_wasTold : CY yX9_wasTold cX9_wasTold 4 (some .boolean) 1 := ⟨TBL_in (tm6 (List.mem_of_getElem? (i := 30) rfl)) rfl, TBL_in (tm1 (List.mem_of_getElem? (i := 10) rfl)) rfl, by decide, by decide, by decide +kernel⟩
theorem cv_X9_wasTold : CV yX9_wasTold := ⟨TBL_in (tm6 (List.mem_of_getElem? (i := 29) rfl)) rfl, TBL_in (tm0 (List.mem_of_getElem? (i := 56) rfl)) rfl⟩
theorem cy_X9_wants : CY yX9_wants cX9_wants 2 none 1 := ⟨TBL_in (tm6 (List.mem_of_getElem? (i := 38) rfl)) rfl, TBL_in (tm1 (List.mem_of_getElem? (i := 10) rfl)) rfl, by decide, by decide, by decide +kernel⟩
theorem cv_X9_wants : CV yX9_wants := ⟨TBL_in (tm6 (List.mem_of_getElem? (i := 37) rfl)) rfl, TBL_in (tm0 (List.mem_of_getElem? (i := 58) rfl)) rfl⟩
theorem cy_X9_clause : CY yX9_clause cX9_clause 1 none 0 := ⟨TBL_in (tm6 (List.mem_of_getElem? (i := 26) rfl)) rfl, TBL_in (tm1 (List.mem_of_getElem? (i := 10) rfl)) rfl, by decide, by decide, by decide +kernel⟩
theorem cv_X9_clause : CV yX9_clause := ⟨TBL_in (tm6 (List.mem_of_getElem? (i := 25) rfl)) rfl, TBL_in (tm0 (List.mem_of_getElem? (i := 55) rfl)) rfl⟩
theorem cy_X9_text : CY yX9_text cX9_text 3 (some .int) 0 := ⟨TBL_in (tm5 (List.mem_of_getElem? (i := 181) rfl)) rfl, TBL_in (tm1 (List.mem_of_getElem? (i := 10) rfl)) rfl, by decide, by decide, by decide +kernel⟩
theorem cv_X9_text : CV yX9_text := ⟨TBL_in (tm5 (List.mem_of_getElem? (i := 179) rfl)) rfl, TBL_in (tm5 (List.mem_of_getElem? (i := 180) rfl)) rfl⟩
theorem cy_X9_fault : CY yX9_fault cX9_fault 2 (some .int) 1 := ⟨TBL_in (tm6 (List.mem_of_getElem? (i := 46) rfl)) rfl, TBL_in (tm1 (List.mem_of_getElem? (i := 10) rfl)) rfl, by decide, by decide, by decide +kernel⟩
theorem cv_X9_fault : CV yX9_fault := ⟨TBL_in (tm6 (List.mem_of_getElem? (i := 44) rfl)) rfl, TBL_in (tm6 (List.mem_of_getElem? (i := 45) rfl)) rfl⟩
theorem cy_X9_by : CY yX9_by cX9_by 2 (some .boolean) 1 := ⟨TBL_in (tm6 (List.mem_of_getElem? (i := 50) rfl)) rfl, TBL_in (tm1 (List.mem_of_getElem? (i := 10) rfl)) rfl, by decide, by decide, by decide +kernel⟩
theorem cv_X9_by : CV yX9_by := ⟨TBL_in (tm6 (List.mem_of_getElem? (i := 48) rfl)) rfl, TBL_in (tm6 (List.mem_of_getElem? (i := 49) rfl)) rfl⟩
theorem cy_X9_bound : CY yX9_bound cX9_bound 2 (some .long) 1 := ⟨TBL_in (tm6 (List.mem_of_getElem? (i := 92) rfl)) rfl, TBL_in (tm1 (List.mem_of_getElem? (i := 10) rfl)) rfl, by decide, by decide, by decide +kernel⟩
theorem cs_X9_bound : Cond.static yX9_bound ∈ TBL := TBL_in (tm6 (List.mem_of_getElem? (i := 91) rfl)) rfl
theorem cy_X9_worked : CY yX9_worked cX9_worked 5 (some .long) 3 := ⟨TBL_in (tm6 (List.mem_of_getElem? (i := 89) rfl)) rfl, TBL_in (tm1 (List.mem_of_getElem? (i := 10) rfl)) rfl, by decide, by decide, by decide +kernel⟩
theorem cs_X9_worked : Cond.static yX9_worked ∈ TBL := TBL_in (tm6 (List.mem_of_getElem? (i := 88) rfl)) rfl
theorem cy_X9_saysOf : CY yX9_saysOf cX9_saysOf 5 (some .long) 1 := ⟨TBL_in (tm6 (List.mem_of_getElem? (i := 86) rfl)) rfl, TBL_in (tm1 (List.mem_of_getElem? (i := 10) rfl)) rfl, by decide, by decide, by decide +kernel⟩
theorem cv_X9_saysOf : CV yX9_saysOf := ⟨TBL_in (tm6 (List.mem_of_getElem? (i := 85) rfl)) rfl, TBL_in (tm0 (List.mem_of_getElem? (i := 67) rfl)) rfl⟩
theorem cy_X9_ordersOf : CY yX9_ordersOf cX9_ordersOf 5 (some .int) 1 := ⟨TBL_in (tm6 (List.mem_of_getElem? (i := 82) rfl)) rfl, TBL_in (tm1 (List.mem_of_getElem? (i := 10) rfl)) rfl, by decide, by decide, by decide +kernel⟩
theorem cv_X9_ordersOf : CV yX9_ordersOf := ⟨TBL_in (tm6 (List.mem_of_getElem? (i := 81) rfl)) rfl, TBL_in (tm0 (List.mem_of_getElem? (i := 66) rfl)) rfl⟩
theorem cy_X9_held : CY yX9_held cX9_held 4 (some .int) 3 := ⟨TBL_in (tm6 (List.mem_of_getElem? (i := 97) rfl)) rfl, TBL_in (tm1 (List.mem_of_getElem? (i := 10) rfl)) rfl, by decide, by decide, by decide +kernel⟩
theorem cs_X9_held : Cond.static yX9_held ∈ TBL := TBL_in (tm6 (List.mem_of_getElem? (i := 96) rfl)) rfl
theorem cy_X9_lawOf : CY yX9_lawOf cX9_lawOf 8 (some .int) 6 := ⟨TBL_in (tm6 (List.mem_of_getElem? (i := 78) rfl)) rfl, TBL_in (tm1 (List.mem_of_getElem? (i := 10) rfl)) rfl, by decide, by decide, by decide +kernel⟩
theorem cv_X9_lawOf : CV yX9_lawOf := ⟨TBL_in (tm6 (List.mem_of_getElem? (i := 77) rfl)) rfl, TBL_in (tm0 (List.mem_of_getElem? (i := 65) rfl)) rfl⟩
theorem cy_X9_lawFor : CY yX9_lawFor cX9_lawFor 5 (some .int) 4 := ⟨TBL_in (tm6 (List.mem_of_getElem? (i := 70) rfl)) rfl, TBL_in (tm1 (List.mem_of_getElem? (i := 10) rfl)) rfl, by decide, by decide, by decide +kernel⟩
theorem cv_X9_lawFor : CV yX9_lawFor := ⟨TBL_in (tm6 (List.mem_of_getElem? (i := 69) rfl)) rfl, TBL_in (tm0 (List.mem_of_getElem? (i := 63) rfl)) rfl⟩
theorem cy_X9_says : CY yX9_says cX9_says 5 (some .int) 4 := ⟨TBL_in (tm6 (List.mem_of_getElem? (i := 54) rfl)) rfl, TBL_in (tm1 (List.mem_of_getElem? (i := 10) rfl)) rfl, by decide, by decide, by decide +kernel⟩
theorem cv_X9_says : CV yX9_says := ⟨TBL_in (tm6 (List.mem_of_getElem? (i := 52) rfl)) rfl, TBL_in (tm6 (List.mem_of_getElem? (i := 53) rfl)) rfl⟩
theorem cy_X9_buy : CY yX9_buy cX9_buy 5 (some .int) 3 := ⟨TBL_in (tm6 (List.mem_of_getElem? (i := 101) rfl)) rfl, TBL_in (tm1 (List.mem_of_getElem? (i := 10) rfl)) rfl, by decide, by decide, by decide +kernel⟩
theorem cv_X9_buy : CV yX9_buy := ⟨TBL_in (tm6 (List.mem_of_getElem? (i := 99) rfl)) rfl, TBL_in (tm6 (List.mem_of_getElem? (i := 100) rfl)) rfl⟩
theorem cy_X9_light : CY yX9_light cX9_light 4 (some .int) 1 := ⟨TBL_in (tm6 (List.mem_of_getElem? (i := 121) rfl)) rfl, TBL_in (tm1 (List.mem_of_getElem? (i := 10) rfl)) rfl, by decide, by decide, by decide +kernel⟩
theorem cv_X9_light : CV yX9_light := ⟨TBL_in (tm6 (List.mem_of_getElem? (i := 119) rfl)) rfl, TBL_in (tm6 (List.mem_of_getElem? (i := 120) rfl)) rfl⟩
theorem cy_X9_least : CY yX9_least cX9_least 2 (some .int) 2 := ⟨TBL_in (tm6 (List.mem_of_getElem? (i := 128) rfl)) rfl, TBL_in (tm1 (List.mem_of_getElem? (i := 10) rfl)) rfl, by decide, by decide, by decide +kernel⟩
theorem cs_X9_least : Cond.static yX9_least ∈ TBL := TBL_in (tm6 (List.mem_of_getElem? (i := 127) rfl)) rfl
theorem cy_X9_burn : CY yX9_burn cX9_burn 10 (some .int) 1 := ⟨TBL_in (tm6 (List.mem_of_getElem? (i := 125) rfl)) rfl, TBL_in (tm1 (List.mem_of_getElem? (i := 10) rfl)) rfl, by decide, by decide, by decide +kernel⟩
theorem cv_X9_burn : CV yX9_burn := ⟨TBL_in (tm6 (List.mem_of_getElem? (i := 123) rfl)) rfl, TBL_in (tm6 (List.mem_of_getElem? (i := 124) rfl)) rfl⟩
theorem cy_X9_repay : CY yX9_repay cX9_repay 3 (some .int) 2 := ⟨TBL_in (tm6 (List.mem_of_getElem? (i := 136) rfl)) rfl, TBL_in (tm1 (List.mem_of_getElem? (i := 10) rfl)) rfl, by decide, by decide, by decide +kernel⟩
theorem cv_X9_repay : CV yX9_repay := ⟨TBL_in (tm6 (List.mem_of_getElem? (i := 134) rfl)) rfl, TBL_in (tm6 (List.mem_of_getElem? (i := 135) rfl)) rfl⟩
theorem cy_X9_moths : CY yX9_moths cX9_moths 5 (some .int) 1 := ⟨TBL_in (tm6 (List.mem_of_getElem? (i := 140) rfl)) rfl, TBL_in (tm1 (List.mem_of_getElem? (i := 10) rfl)) rfl, by decide, by decide, by decide +kernel⟩
theorem cv_X9_moths : CV yX9_moths := ⟨TBL_in (tm6 (List.mem_of_getElem? (i := 138) rfl)) rfl, TBL_in (tm6 (List.mem_of_getElem? (i := 139) rfl)) rfl⟩
theorem cy_X9_played : CY yX9_played cX9_played 5 (some .int) 1 := ⟨TBL_in (tm6 (List.mem_of_getElem? (i := 144) rfl)) rfl, TBL_in (tm1 (List.mem_of_getElem? (i := 10) rfl)) rfl, by decide, by decide, by decide +kernel⟩
theorem cv_X9_played : CV yX9_played := ⟨TBL_in (tm6 (List.mem_of_getElem? (i := 142) rfl)) rfl, TBL_in (tm6 (List.mem_of_getElem? (i := 143) rfl)) rfl⟩
theorem cy_X9_houseOf : CY yX9_houseOf cX9_houseOf 3 (some .int) 2 := ⟨TBL_in (tm6 (List.mem_of_getElem? (i := 152) rfl)) rfl, TBL_in (tm1 (List.mem_of_getElem? (i := 10) rfl)) rfl, by decide, by decide, by decide +kernel⟩
theorem cv_X9_houseOf : CV yX9_houseOf := ⟨TBL_in (tm6 (List.mem_of_getElem? (i := 150) rfl)) rfl, TBL_in (tm6 (List.mem_of_getElem? (i := 151) rfl)) rfl⟩
theorem cy_X9_candleOf : CY yX9_candleOf cX9_candleOf 3 (some .int) 2 := ⟨TBL_in (tm6 (List.mem_of_getElem? (i := 156) rfl)) rfl, TBL_in (tm1 (List.mem_of_getElem? (i := 10) rfl)) rfl, by decide, by decide, by decide +kernel⟩
theorem cv_X9_candleOf : CV yX9_candleOf := ⟨TBL_in (tm6 (List.mem_of_getElem? (i := 154) rfl)) rfl, TBL_in (tm6 (List.mem_of_getElem? (i := 155) rfl)) rfl⟩
theorem cy_X9_drip : CY yX9_drip cX9_drip 3 (some .int) 2 := ⟨TBL_in (tm6 (List.mem_of_getElem? (i := 160) rfl)) rfl, TBL_in (tm1 (List.mem_of_getElem? (i := 10) rfl)) rfl, by decide, by decide, by decide +kernel⟩
theorem cv_X9_drip : CV yX9_drip := ⟨TBL_in (tm6 (List.mem_of_getElem? (i := 158) rfl)) rfl, TBL_in (tm6 (List.mem_of_getElem? (i := 159) rfl)) rfl⟩
theorem cy_X9_hasWay : CY yX9_hasWay cX9_hasWay 2 (some .boolean) 1 := ⟨TBL_in (tm6 (List.mem_of_getElem? (i := 168) rfl)) rfl, TBL_in (tm1 (List.mem_of_getElem? (i := 10) rfl)) rfl, by decide, by decide, by decide +kernel⟩
theorem cv_X9_hasWay : CV yX9_hasWay := ⟨TBL_in (tm6 (List.mem_of_getElem? (i := 167) rfl)) rfl, TBL_in (tm0 (List.mem_of_getElem? (i := 73) rfl)) rfl⟩
theorem cy_X9_laysWay : CY yX9_laysWay cX9_laysWay 6 none 1 := ⟨TBL_in (tm6 (List.mem_of_getElem? (i := 172) rfl)) rfl, TBL_in (tm1 (List.mem_of_getElem? (i := 10) rfl)) rfl, by decide, by decide, by decide +kernel⟩
theorem cv_X9_laysWay : CV yX9_laysWay := ⟨TBL_in (tm6 (List.mem_of_getElem? (i := 171) rfl)) rfl, TBL_in (tm0 (List.mem_of_getElem? (i := 74) rfl)) rfl⟩
theorem cy_X9_whose : CY yX9_whose cX9_whose 5 (some .int) 2 := ⟨TBL_in (tm6 (List.mem_of_getElem? (i := 164) rfl)) rfl, TBL_in (tm1 (List.mem_of_getElem? (i := 10) rfl)) rfl, by decide, by decide, by decide +kernel⟩
theorem cv_X9_whose : CV yX9_whose := ⟨TBL_in (tm6 (List.mem_of_getElem? (i := 162) rfl)) rfl, TBL_in (tm6 (List.mem_of_getElem? (i := 163) rfl)) rfl⟩
theorem cy_X9_common : CY yX9_common cX9_common 10 (some .long) 2 := ⟨TBL_in (tm6 (List.mem_of_getElem? (i := 184) rfl)) rfl, TBL_in (tm1 (List.mem_of_getElem? (i := 10) rfl)) rfl, by decide, by decide, by decide +kernel⟩
theorem cs_X9_common : Cond.static yX9_common ∈ TBL := TBL_in (tm6 (List.mem_of_getElem? (i := 183) rfl)) rfl
theorem cy_X9_inLowest : CY yX9_inLowest cX9_inLowest 7 (some .long) 3 := ⟨TBL_in (tm6 (List.mem_of_getElem? (i := 181) rfl)) rfl, TBL_in (tm1 (List.mem_of_getElem? (i := 10) rfl)) rfl, by decide, by decide, by decide +kernel⟩
theorem cs_X9_inLowest : Cond.static yX9_inLowest ∈ TBL := TBL_in (tm6 (List.mem_of_getElem? (i := 180) rfl)) rfl
theorem cy_X9_odds : CY yX9_odds cX9_odds 9 (some .long) 3 := ⟨TBL_in (tm6 (List.mem_of_getElem? (i := 176) rfl)) rfl, TBL_in (tm1 (List.mem_of_getElem? (i := 10) rfl)) rfl, by decide, by decide, by decide +kernel⟩
theorem cv_X9_odds : CV yX9_odds := ⟨TBL_in (tm6 (List.mem_of_getElem? (i := 174) rfl)) rfl, TBL_in (tm6 (List.mem_of_getElem? (i := 175) rfl)) rfl⟩
theorem cy_X9_blame : CY yX9_blame cX9_blame 11 (some .long) 3 := ⟨TBL_in (tm6 (List.mem_of_getElem? (i := 188) rfl)) rfl, TBL_in (tm1 (List.mem_of_getElem? (i := 10) rfl)) rfl, by decide, by decide, by decide +kernel⟩
theorem cv_X9_blame : CV yX9_blame := ⟨TBL_in (tm6 (List.mem_of_getElem? (i := 186) rfl)) rfl, TBL_in (tm6 (List.mem_of_getElem? (i := 187) rfl)) rfl⟩
theorem cy_X9_rows : CY yX9_rows cX9_rows 3 (some .int) 1 := ⟨TBL_in (tm6 (List.mem_of_getElem? (i := 195) rfl)) rfl, TBL_in (tm1 (List.mem_of_getElem? (i := 10) rfl)) rfl, by decide, by decide, by decide +kernel⟩
theorem cs_X9_rows : Cond.static yX9_rows ∈ TBL := TBL_in (tm6 (List.mem_of_getElem? (i := 194) rfl)) rfl
theorem cy_X9_laysOrder : CY yX9_laysOrder cX9_laysOrder 8 none 2 := ⟨TBL_in (tm6 (List.mem_of_getElem? (i := 199) rfl)) rfl, TBL_in (tm1 (List.mem_of_getElem? (i := 10) rfl)) rfl, by decide, by decide, by decide +kernel⟩
theorem cv_X9_laysOrder : CV yX9_laysOrder := ⟨TBL_in (tm6 (List.mem_of_getElem? (i := 198) rfl)) rfl, TBL_in (tm0 (List.mem_of_getElem? (i := 75) rfl)) rfl⟩
theorem cy_X9_supper : CY yX9_supper cX9_supper 9 (some .int) 3 := ⟨TBL_in (tm6 (List.mem_of_getElem? (i := 192) rfl)) rfl, TBL_in (tm1 (List.mem_of_getElem? (i := 10) rfl)) rfl, by decide, by decide, by decide +kernel⟩
theorem cv_X9_supper : CV yX9_supper := ⟨TBL_in (tm6 (List.mem_of_getElem? (i := 190) rfl)) rfl, TBL_in (tm6 (List.mem_of_getElem? (i := 191) rfl)) rfl⟩
theorem cy_X9_laysMinutes : CY yX9_laysMinutes cX9_laysMinutes 3 none 0 := ⟨TBL_in (tm6 (List.mem_of_getElem? (i := 207) rfl)) rfl, TBL_in (tm1 (List.mem_of_getElem? (i := 10) rfl)) rfl, by decide, by decide, by decide +kernel⟩
theorem cv_X9_laysMinutes : CV yX9_laysMinutes := ⟨TBL_in (tm6 (List.mem_of_getElem? (i := 206) rfl)) rfl, TBL_in (tm0 (List.mem_of_getElem? (i := 76) rfl)) rfl⟩
theorem cy_X9_laysMates : CY yX9_laysMates cX9_laysMates 10 none 3 := ⟨TBL_in (tm6 (List.mem_of_getElem? (i := 211) rfl)) rfl, TBL_in (tm1 (List.mem_of_getElem? (i := 10) rfl)) rfl, by decide, by decide, by decide +kernel⟩
theorem cv_X9_laysMates : CV yX9_laysMates := ⟨TBL_in (tm6 (List.mem_of_getElem? (i := 210) rfl)) rfl, TBL_in (tm0 (List.mem_of_getElem? (i := 77) rfl)) rfl⟩
theorem cy_X9_married : CY yX9_married cX9_married 9 (some .int) 1 := ⟨TBL_in (tm6 (List.mem_of_getElem? (i := 203) rfl)) rfl, TBL_in (tm1 (List.mem_of_getElem? (i := 10) rfl)) rfl, by decide, by decide, by decide +kernel⟩
theorem cv_X9_married : CV yX9_married := ⟨TBL_in (tm6 (List.mem_of_getElem? (i := 201) rfl)) rfl, TBL_in (tm6 (List.mem_of_getElem? (i := 202) rfl)) rfl⟩
theorem cy_X9_worthOf : CY yX9_worthOf cX9_worthOf 7 (some .int) 1 := ⟨TBL_in (tm6 (List.mem_of_getElem? (i := 219) rfl)) rfl, TBL_in (tm1 (List.mem_of_getElem? (i := 10) rfl)) rfl, by decide, by decide, by decide +kernel⟩
theorem cv_X9_worthOf : CV yX9_worthOf := ⟨TBL_in (tm6 (List.mem_of_getElem? (i := 218) rfl)) rfl, TBL_in (tm0 (List.mem_of_getElem? (i := 78) rfl)) rfl⟩
theorem cy_X9_worth : CY yX9_worth cX9_worth 2 (some .int) 1 := ⟨TBL_in (tm6 (List.mem_of_getElem? (i := 215) rfl)) rfl, TBL_in (tm1 (List.mem_of_getElem? (i := 10) rfl)) rfl, by decide, by decide, by decide +kernel⟩
theorem cv_X9_worth : CV yX9_worth := ⟨TBL_in (tm6 (List.mem_of_getElem? (i := 213) rfl)) rfl, TBL_in (tm6 (List.mem_of_getElem? (i := 214) rfl)) rfl⟩
theorem cy_X9_club : CY yX9_club cX9_club 7 (some .int) 1 := ⟨TBL_in (tm6 (List.mem_of_getElem? (i := 223) rfl)) rfl, TBL_in (tm1 (List.mem_of_getElem? (i := 10) rfl)) rfl, by decide, by decide, by decide +kernel⟩
theorem cv_X9_club : CV yX9_club := ⟨TBL_in (tm6 (List.mem_of_getElem? (i := 221) rfl)) rfl, TBL_in (tm6 (List.mem_of_getElem? (i := 222) rfl)) rfl⟩
theorem cy_X9_settles : CY yX9_settles cX9_settles 9 (some .int) 3 := ⟨TBL_in (tm6 (List.mem_of_getElem? (i := 227) rfl)) rfl, TBL_in (tm1 (List.mem_of_getElem? (i := 10) rfl)) rfl, by decide, by decide, by decide +kernel⟩
theorem cv_X9_settles : CV yX9_settles := ⟨TBL_in (tm6 (List.mem_of_getElem? (i := 225) rfl)) rfl, TBL_in (tm6 (List.mem_of_getElem? (i := 226) rfl)) rfl⟩
theorem cy_X9_image : CY yX9_image cX9_image 1 (some .int) 0 := ⟨TBL_in (tm6 (List.mem_of_getElem? (i := 231) rfl)) rfl, TBL_in (tm1 (List.mem_of_getElem? (i := 10) rfl)) rfl, by decide, by decide, by decide +kernel⟩
theorem cv_X9_image : CV yX9_image := ⟨TBL_in (tm6 (List.mem_of_getElem? (i := 229) rfl)) rfl, TBL_in (tm6 (List.mem_of_getElem? (i := 230) rfl)) rfl⟩
theorem cy_X9_back : CY yX9_back cX9_back 1 (some .int) 0 := ⟨TBL_in (tm6 (List.mem_of_getElem? (i := 235) rfl)) rfl, TBL_in (tm1 (List.mem_of_getElem? (i := 10) rfl)) rfl, by decide, by decide, by decide +kernel⟩
theorem cv_X9_back : CV yX9_back := ⟨TBL_in (tm6 (List.mem_of_getElem? (i := 233) rfl)) rfl, TBL_in (tm6 (List.mem_of_getElem? (i := 234) rfl)) rfl⟩
theorem cy_X9_about : CY yX9_about cX9_about 4 (some .int) 1 := ⟨TBL_in (tm6 (List.mem_of_getElem? (i := 239) rfl)) rfl, TBL_in (tm1 (List.mem_of_getElem? (i := 10) rfl)) rfl, by decide, by decide, by decide +kernel⟩
theorem cv_X9_about : CV yX9_about := ⟨TBL_in (tm6 (List.mem_of_getElem? (i := 237) rfl)) rfl, TBL_in (tm6 (List.mem_of_getElem? (i := 238) rfl)) rfl⟩
theorem cy_J6_bitCount_0f7a4 : CY yJ6_bitCount_0f7a4 cJ6_bitCount_0f7a4 1 (some .int) 1 := ⟨TBL_in (tm4 (List.mem_of_getElem? (i := 94) rfl)) rfl, TBL_in (tm1 (List.mem_of_getElem? (i := 16) rfl)) rfl, by decide, by decide, by decide +kernel⟩
theorem cs_J6_bitCount_0f7a4 : Cond.static yJ6_bitCount_0f7a4 ∈ TBL := TBL_in (tm4 (List.mem_of_getElem? (i := 93) rfl)) rfl
theorem ml_L_13 : Cond.methodLink RL 13 yX8_house ∈ TBL := TBL_in (tm2 (List.mem_of_getElem? (i := 130) rfl)) rfl
theorem ml_L_17 : Cond.methodLink RL 17 yX9_house ∈ TBL := TBL_in (tm5 (List.mem_of_getElem? (i := 143) rfl)) rfl
theorem ml_L_18 : Cond.methodLink RL 18 yX8_candle ∈ TBL := TBL_in (tm2 (List.mem_of_getElem? (i := 138) rfl)) rfl
theorem ml_L_21 : Cond.methodLink RL 21 yX9_candle ∈ TBL := TBL_in (tm5 (List.mem_of_getElem? (i := 150) rfl)) rfl
theorem ml_L_22 : Cond.methodLink RL 22 yX8_seed ∈ TBL := TBL_in (tm2 (List.mem_of_getElem? (i := 146) rfl)) rfl
theorem ml_L_26 : Cond.methodLink RL 26 yX9_seed ∈ TBL := TBL_in (tm5 (List.mem_of_getElem? (i := 158) rfl)) rfl
theorem ml_L_27 : Cond.methodLink RL 27 yX8_buy ∈ TBL := TBL_in (tm2 (List.mem_of_getElem? (i := 150) rfl)) rfl
theorem ml_L_31 : Cond.methodLink RL 31 yX9_buy ∈ TBL := TBL_in (tm6 (List.mem_of_getElem? (i := 98) rfl)) rfl
theorem ml_L_32 : Cond.methodLink RL 32 yX8_light ∈ TBL := TBL_in (tm2 (List.mem_of_getElem? (i := 232) rfl)) rfl
theorem ml_L_36 : Cond.methodLink RL 36 yX9_light ∈ TBL := TBL_in (tm6 (List.mem_of_getElem? (i := 118) rfl)) rfl
theorem ml_L_37 : Cond.methodLink RL 37 yX8_burn ∈ TBL := TBL_in (tm3 (List.mem_of_getElem? (i := 5) rfl)) rfl
theorem ml_L_40 : Cond.methodLink RL 40 yX9_burn ∈ TBL := TBL_in (tm6 (List.mem_of_getElem? (i := 122) rfl)) rfl
theorem ml_L_41 : Cond.methodLink RL 41 yX8_repay ∈ TBL := TBL_in (tm3 (List.mem_of_getElem? (i := 26) rfl)) rfl
theorem ml_L_44 : Cond.methodLink RL 44 yX9_repay ∈ TBL := TBL_in (tm6 (List.mem_of_getElem? (i := 133) rfl)) rfl
theorem ml_L_45 : Cond.methodLink RL 45 yX8_moths ∈ TBL := TBL_in (tm3 (List.mem_of_getElem? (i := 30) rfl)) rfl
theorem ml_L_48 : Cond.methodLink RL 48 yX9_moths ∈ TBL := TBL_in (tm6 (List.mem_of_getElem? (i := 137) rfl)) rfl
theorem ml_L_49 : Cond.methodLink RL 49 yX8_feed ∈ TBL := TBL_in (tm3 (List.mem_of_getElem? (i := 34) rfl)) rfl
theorem ml_L_53 : Cond.methodLink RL 53 yX9_feed ∈ TBL := TBL_in (tm5 (List.mem_of_getElem? (i := 166) rfl)) rfl
theorem ml_L_54 : Cond.methodLink RL 54 yX8_end ∈ TBL := TBL_in (tm3 (List.mem_of_getElem? (i := 46) rfl)) rfl
theorem ml_L_57 : Cond.methodLink RL 57 yX9_end ∈ TBL := TBL_in (tm5 (List.mem_of_getElem? (i := 174) rfl)) rfl
theorem ml_L_58 : Cond.methodLink RL 58 yX8_text ∈ TBL := TBL_in (tm3 (List.mem_of_getElem? (i := 50) rfl)) rfl
theorem ml_L_62 : Cond.methodLink RL 62 yX9_text ∈ TBL := TBL_in (tm5 (List.mem_of_getElem? (i := 178) rfl)) rfl
theorem ml_L_63 : Cond.methodLink RL 63 yX8_fault ∈ TBL := TBL_in (tm3 (List.mem_of_getElem? (i := 228) rfl)) rfl
theorem ml_L_66 : Cond.methodLink RL 66 yX9_fault ∈ TBL := TBL_in (tm6 (List.mem_of_getElem? (i := 43) rfl)) rfl
theorem ml_L_67 : Cond.methodLink RL 67 yX8_by ∈ TBL := TBL_in (tm3 (List.mem_of_getElem? (i := 232) rfl)) rfl
theorem ml_L_70 : Cond.methodLink RL 70 yX9_by ∈ TBL := TBL_in (tm6 (List.mem_of_getElem? (i := 47) rfl)) rfl
theorem ml_L_71 : Cond.methodLink RL 71 yX8_played ∈ TBL := TBL_in (tm3 (List.mem_of_getElem? (i := 237) rfl)) rfl
theorem ml_L_74 : Cond.methodLink RL 74 yX9_played ∈ TBL := TBL_in (tm6 (List.mem_of_getElem? (i := 141) rfl)) rfl
theorem ml_L_75 : Cond.methodLink RL 75 yX8_undo ∈ TBL := TBL_in (tm4 (List.mem_of_getElem? (i := 13) rfl)) rfl
theorem ml_L_78 : Cond.methodLink RL 78 yX9_undo ∈ TBL := TBL_in (tm5 (List.mem_of_getElem? (i := 162) rfl)) rfl
theorem ml_L_79 : Cond.methodLink RL 79 yX8_houseOf ∈ TBL := TBL_in (tm4 (List.mem_of_getElem? (i := 23) rfl)) rfl
theorem ml_L_82 : Cond.methodLink RL 82 yX9_houseOf ∈ TBL := TBL_in (tm6 (List.mem_of_getElem? (i := 149) rfl)) rfl
theorem ml_L_83 : Cond.methodLink RL 83 yX8_candleOf ∈ TBL := TBL_in (tm4 (List.mem_of_getElem? (i := 27) rfl)) rfl
theorem ml_L_86 : Cond.methodLink RL 86 yX9_candleOf ∈ TBL := TBL_in (tm6 (List.mem_of_getElem? (i := 153) rfl)) rfl
theorem ml_L_87 : Cond.methodLink RL 87 yX8_says ∈ TBL := TBL_in (tm4 (List.mem_of_getElem? (i := 31) rfl)) rfl
theorem ml_L_91 : Cond.methodLink RL 91 yX9_says ∈ TBL := TBL_in (tm6 (List.mem_of_getElem? (i := 51) rfl)) rfl
theorem ml_L_92 : Cond.methodLink RL 92 yX8_drip ∈ TBL := TBL_in (tm4 (List.mem_of_getElem? (i := 35) rfl)) rfl
theorem ml_L_95 : Cond.methodLink RL 95 yX9_drip ∈ TBL := TBL_in (tm6 (List.mem_of_getElem? (i := 157) rfl)) rfl
theorem ml_L_96 : Cond.methodLink RL 96 yX8_whose ∈ TBL := TBL_in (tm4 (List.mem_of_getElem? (i := 43) rfl)) rfl
theorem ml_L_99 : Cond.methodLink RL 99 yX9_whose ∈ TBL := TBL_in (tm6 (List.mem_of_getElem? (i := 161) rfl)) rfl
theorem ml_L_100 : Cond.methodLink RL 100 yX8_odds ∈ TBL := TBL_in (tm4 (List.mem_of_getElem? (i := 59) rfl)) rfl
theorem ml_L_104 : Cond.methodLink RL 104 yX9_odds ∈ TBL := TBL_in (tm6 (List.mem_of_getElem? (i := 173) rfl)) rfl
theorem ml_L_105 : Cond.methodLink RL 105 yX8_blame ∈ TBL := TBL_in (tm4 (List.mem_of_getElem? (i := 76) rfl)) rfl
theorem ml_L_108 : Cond.methodLink RL 108 yX9_blame ∈ TBL := TBL_in (tm6 (List.mem_of_getElem? (i := 185) rfl)) rfl
theorem ml_L_109 : Cond.methodLink RL 109 yX8_supper ∈ TBL := TBL_in (tm4 (List.mem_of_getElem? (i := 84) rfl)) rfl
theorem ml_L_112 : Cond.methodLink RL 112 yX9_supper ∈ TBL := TBL_in (tm6 (List.mem_of_getElem? (i := 189) rfl)) rfl
theorem ml_L_113 : Cond.methodLink RL 113 yX8_married ∈ TBL := TBL_in (tm4 (List.mem_of_getElem? (i := 136) rfl)) rfl
theorem ml_L_116 : Cond.methodLink RL 116 yX9_married ∈ TBL := TBL_in (tm6 (List.mem_of_getElem? (i := 200) rfl)) rfl
theorem ml_L_117 : Cond.methodLink RL 117 yX8_worth ∈ TBL := TBL_in (tm4 (List.mem_of_getElem? (i := 163) rfl)) rfl
theorem ml_L_120 : Cond.methodLink RL 120 yX9_worth ∈ TBL := TBL_in (tm6 (List.mem_of_getElem? (i := 212) rfl)) rfl
theorem ml_L_121 : Cond.methodLink RL 121 yX8_club ∈ TBL := TBL_in (tm4 (List.mem_of_getElem? (i := 176) rfl)) rfl
theorem ml_L_124 : Cond.methodLink RL 124 yX9_club ∈ TBL := TBL_in (tm6 (List.mem_of_getElem? (i := 220) rfl)) rfl
theorem ml_L_125 : Cond.methodLink RL 125 yX8_settles ∈ TBL := TBL_in (tm4 (List.mem_of_getElem? (i := 180) rfl)) rfl
theorem ml_L_128 : Cond.methodLink RL 128 yX9_settles ∈ TBL := TBL_in (tm6 (List.mem_of_getElem? (i := 224) rfl)) rfl
theorem ml_L_129 : Cond.methodLink RL 129 yX8_image ∈ TBL := TBL_in (tm4 (List.mem_of_getElem? (i := 196) rfl)) rfl
theorem ml_L_132 : Cond.methodLink RL 132 yX9_image ∈ TBL := TBL_in (tm6 (List.mem_of_getElem? (i := 228) rfl)) rfl
theorem ml_L_133 : Cond.methodLink RL 133 yX8_back ∈ TBL := TBL_in (tm4 (List.mem_of_getElem? (i := 211) rfl)) rfl
theorem ml_L_136 : Cond.methodLink RL 136 yX9_back ∈ TBL := TBL_in (tm6 (List.mem_of_getElem? (i := 232) rfl)) rfl
theorem ml_L_137 : Cond.methodLink RL 137 yX8_about ∈ TBL := TBL_in (tm4 (List.mem_of_getElem? (i := 215) rfl)) rfl
theorem ml_L_140 : Cond.methodLink RL 140 yX9_about ∈ TBL := TBL_in (tm6 (List.mem_of_getElem? (i := 236) rfl)) rfl
theorem ml_X0_64 : Cond.methodLink RX0 64 yX0_isCandle ∈ TBL := TBL_in (tm2 (List.mem_of_getElem? (i := 162) rfl)) rfl
theorem ml_X0_68 : Cond.methodLink RX0 68 yX0_isInch ∈ TBL := TBL_in (tm2 (List.mem_of_getElem? (i := 170) rfl)) rfl
theorem ml_X0_72 : Cond.methodLink RX0 72 yX0_ownerOf ∈ TBL := TBL_in (tm4 (List.mem_of_getElem? (i := 175) rfl)) rfl
theorem ml_X0_76 : Cond.methodLink RX0 76 yX0_isOwnedIn ∈ TBL := TBL_in (tm4 (List.mem_of_getElem? (i := 171) rfl)) rfl
theorem ml_X0_80 : Cond.methodLink RX0 80 yX0_copyRow ∈ TBL := TBL_in (tm4 (List.mem_of_getElem? (i := 204) rfl)) rfl
theorem ml_X1_26 : Cond.methodLink RX1 26 yX0_isHouse ∈ TBL := TBL_in (tm2 (List.mem_of_getElem? (i := 175) rfl)) rfl
theorem ml_X1_32 : Cond.methodLink RX1 32 yX0_isInch ∈ TBL := TBL_in (tm2 (List.mem_of_getElem? (i := 176) rfl)) rfl
theorem ml_X1_42 : Cond.methodLink RX1 42 yX1_nameInch ∈ TBL := TBL_in (tm2 (List.mem_of_getElem? (i := 177) rfl)) rfl
theorem ml_X1_46 : Cond.methodLink RX1 46 yX1_nameHouse ∈ TBL := TBL_in (tm2 (List.mem_of_getElem? (i := 181) rfl)) rfl
theorem ml_X1_50 : Cond.methodLink RX1 50 yX1_answer ∈ TBL := TBL_in (tm2 (List.mem_of_getElem? (i := 185) rfl)) rfl
theorem ml_X1_70 : Cond.methodLink RX1 70 yX0_isText ∈ TBL := TBL_in (tm2 (List.mem_of_getElem? (i := 189) rfl)) rfl
theorem ml_X1_73 : Cond.methodLink RX1 73 yX3_has ∈ TBL := TBL_in (tm2 (List.mem_of_getElem? (i := 193) rfl)) rfl
theorem ml_X1_84 : Cond.methodLink RX1 84 yX1_reckon ∈ TBL := TBL_in (tm2 (List.mem_of_getElem? (i := 197) rfl)) rfl
theorem ml_X1_88 : Cond.methodLink RX1 88 yX1_untold ∈ TBL := TBL_in (tm2 (List.mem_of_getElem? (i := 212) rfl)) rfl
theorem ml_X1_91 : Cond.methodLink RX1 91 yJ9_min_7cf53 ∈ TBL := TBL_in (tm2 (List.mem_of_getElem? (i := 216) rfl)) rfl
theorem ml_X1_97 : Cond.methodLink RX1 97 yJ9_max_7cf53 ∈ TBL := TBL_in (tm2 (List.mem_of_getElem? (i := 219) rfl)) rfl
theorem ml_X1_103 : Cond.methodLink RX1 103 yX1_combine ∈ TBL := TBL_in (tm2 (List.mem_of_getElem? (i := 201) rfl)) rfl
theorem ml_X1_111 : Cond.methodLink RX1 111 yJ9_min_f86c9 ∈ TBL := TBL_in (tm2 (List.mem_of_getElem? (i := 206) rfl)) rfl
theorem ml_X1_114 : Cond.methodLink RX1 114 yJ9_max_f86c9 ∈ TBL := TBL_in (tm2 (List.mem_of_getElem? (i := 209) rfl)) rfl
theorem ml_X2_53 : Cond.methodLink RX2 53 yX3_clear ∈ TBL := TBL_in (tm3 (List.mem_of_getElem? (i := 58) rfl)) rfl
theorem ml_X2_58 : Cond.methodLink RX2 58 yX2_takeTokens ∈ TBL := TBL_in (tm3 (List.mem_of_getElem? (i := 62) rfl)) rfl
theorem ml_X2_61 : Cond.methodLink RX2 61 yX2_advance ∈ TBL := TBL_in (tm3 (List.mem_of_getElem? (i := 170) rfl)) rfl
theorem ml_X2_64 : Cond.methodLink RX2 64 yX2_readClause ∈ TBL := TBL_in (tm3 (List.mem_of_getElem? (i := 174) rfl)) rfl
theorem ml_X2_68 : Cond.methodLink RX2 68 yX2_byteAt ∈ TBL := TBL_in (tm3 (List.mem_of_getElem? (i := 66) rfl)) rfl
theorem ml_X2_72 : Cond.methodLink RX2 72 yX2_isDigit ∈ TBL := TBL_in (tm3 (List.mem_of_getElem? (i := 70) rfl)) rfl
theorem ml_X2_76 : Cond.methodLink RX2 76 yX2_takeNumber ∈ TBL := TBL_in (tm3 (List.mem_of_getElem? (i := 73) rfl)) rfl
theorem ml_X2_79 : Cond.methodLink RX2 79 yX2_isLetter ∈ TBL := TBL_in (tm3 (List.mem_of_getElem? (i := 82) rfl)) rfl
theorem ml_X2_82 : Cond.methodLink RX2 82 yX2_takeWord ∈ TBL := TBL_in (tm3 (List.mem_of_getElem? (i := 85) rfl)) rfl
theorem ml_X2_85 : Cond.methodLink RX2 85 yX2_isSign ∈ TBL := TBL_in (tm3 (List.mem_of_getElem? (i := 167) rfl)) rfl
theorem ml_X2_88 : Cond.methodLink RX2 88 yX2_addToken ∈ TBL := TBL_in (tm3 (List.mem_of_getElem? (i := 78) rfl)) rfl
theorem ml_X2_92 : Cond.methodLink RX2 92 yJ9_min_7cf53 ∈ TBL := TBL_in (tm3 (List.mem_of_getElem? (i := 77) rfl)) rfl
theorem ml_X2_98 : Cond.methodLink RX2 98 yX2_clauseWord ∈ TBL := TBL_in (tm3 (List.mem_of_getElem? (i := 89) rfl)) rfl
theorem ml_X2_101 : Cond.methodLink RX2 101 yX2_nameWord ∈ TBL := TBL_in (tm3 (List.mem_of_getElem? (i := 155) rfl)) rfl
theorem ml_X2_106 : Cond.methodLink RX2 106 yX2_isWord ∈ TBL := TBL_in (tm3 (List.mem_of_getElem? (i := 94) rfl)) rfl
theorem ml_X2_143 : Cond.methodLink RX2 143 yJ0_length_8abf5 ∈ TBL := TBL_in (tm3 (List.mem_of_getElem? (i := 98) rfl)) rfl
theorem ml_X2_148 : Cond.methodLink RX2 148 yJ0_charAt_5068e ∈ TBL := TBL_in (tm3 (List.mem_of_getElem? (i := 108) rfl)) rfl
theorem ml_X2_152 : Cond.methodLink RX2 152 yX2_refuse ∈ TBL := TBL_in (tm3 (List.mem_of_getElem? (i := 178) rfl)) rfl
theorem ml_X2_155 : Cond.methodLink RX2 155 yX3_has ∈ TBL := TBL_in (tm3 (List.mem_of_getElem? (i := 182) rfl)) rfl
theorem ml_X2_164 : Cond.methodLink RX2 164 yX2_readSum ∈ TBL := TBL_in (tm3 (List.mem_of_getElem? (i := 183) rfl)) rfl
theorem ml_X2_168 : Cond.methodLink RX2 168 yX2_readDeed ∈ TBL := TBL_in (tm3 (List.mem_of_getElem? (i := 207) rfl)) rfl
theorem ml_X2_171 : Cond.methodLink RX2 171 yX2_readSign ∈ TBL := TBL_in (tm3 (List.mem_of_getElem? (i := 203) rfl)) rfl
theorem ml_X2_174 : Cond.methodLink RX2 174 yX3_addClause ∈ TBL := TBL_in (tm3 (List.mem_of_getElem? (i := 223) rfl)) rfl
theorem ml_X2_178 : Cond.methodLink RX2 178 yX2_readNumber ∈ TBL := TBL_in (tm3 (List.mem_of_getElem? (i := 211) rfl)) rfl
theorem ml_X2_182 : Cond.methodLink RX2 182 yX2_readWord ∈ TBL := TBL_in (tm3 (List.mem_of_getElem? (i := 219) rfl)) rfl
theorem ml_X2_185 : Cond.methodLink RX2 185 yX3_setNumber ∈ TBL := TBL_in (tm3 (List.mem_of_getElem? (i := 215) rfl)) rfl
theorem ml_X2_188 : Cond.methodLink RX2 188 yX2_readProduct ∈ TBL := TBL_in (tm3 (List.mem_of_getElem? (i := 187) rfl)) rfl
theorem ml_X2_191 : Cond.methodLink RX2 191 yX3_addCode ∈ TBL := TBL_in (tm3 (List.mem_of_getElem? (i := 199) rfl)) rfl
theorem ml_X2_195 : Cond.methodLink RX2 195 yX2_readOne ∈ TBL := TBL_in (tm3 (List.mem_of_getElem? (i := 191) rfl)) rfl
theorem ml_X2_198 : Cond.methodLink RX2 198 yX2_readLeaf ∈ TBL := TBL_in (tm3 (List.mem_of_getElem? (i := 195) rfl)) rfl
theorem ml_X4_23 : Cond.methodLink RX4 23 yJ9_min_7cf53 ∈ TBL := TBL_in (tm2 (List.mem_of_getElem? (i := 226) rfl)) rfl
theorem ml_X4_37 : Cond.methodLink RX4 37 yX0_isCandle ∈ TBL := TBL_in (tm2 (List.mem_of_getElem? (i := 227) rfl)) rfl
theorem ml_X4_63 : Cond.methodLink RX4 63 yX0_setOwner ∈ TBL := TBL_in (tm4 (List.mem_of_getElem? (i := 21) rfl)) rfl
theorem ml_X4_67 : Cond.methodLink RX4 67 yX0_isHouse ∈ TBL := TBL_in (tm4 (List.mem_of_getElem? (i := 22) rfl)) rfl
theorem ml_X5_36 : Cond.methodLink RX5 36 yX5_invite ∈ TBL := TBL_in (tm4 (List.mem_of_getElem? (i := 102) rfl)) rfl
theorem ml_X5_40 : Cond.methodLink RX5 40 yX5_keptBy ∈ TBL := TBL_in (tm4 (List.mem_of_getElem? (i := 106) rfl)) rfl
theorem ml_X5_44 : Cond.methodLink RX5 44 yX5_weigh ∈ TBL := TBL_in (tm4 (List.mem_of_getElem? (i := 114) rfl)) rfl
theorem ml_X5_47 : Cond.methodLink RX5 47 yX5_choose ∈ TBL := TBL_in (tm4 (List.mem_of_getElem? (i := 124) rfl)) rfl
theorem ml_X5_55 : Cond.methodLink RX5 55 yX1_tellNew ∈ TBL := TBL_in (tm4 (List.mem_of_getElem? (i := 110) rfl)) rfl
theorem ml_X5_61 : Cond.methodLink RX5 61 yX5_leading ∈ TBL := TBL_in (tm4 (List.mem_of_getElem? (i := 118) rfl)) rfl
theorem ml_X5_65 : Cond.methodLink RX5 65 yJ9_max_7cf53 ∈ TBL := TBL_in (tm4 (List.mem_of_getElem? (i := 123) rfl)) rfl
theorem ml_X5_70 : Cond.methodLink RX5 70 yJ6_bitCount_0f7a4 ∈ TBL := TBL_in (tm4 (List.mem_of_getElem? (i := 122) rfl)) rfl
theorem ml_X5_76 : Cond.methodLink RX5 76 yX5_firstOf ∈ TBL := TBL_in (tm4 (List.mem_of_getElem? (i := 128) rfl)) rfl
theorem ml_X6_43 : Cond.methodLink RX6 43 yX0_isCandle ∈ TBL := TBL_in (tm4 (List.mem_of_getElem? (i := 51) rfl)) rfl
theorem ml_X6_52 : Cond.methodLink RX6 52 yX0_ownerOf ∈ TBL := TBL_in (tm4 (List.mem_of_getElem? (i := 52) rfl)) rfl
theorem ml_X6_59 : Cond.methodLink RX6 59 yX0_isHouse ∈ TBL := TBL_in (tm4 (List.mem_of_getElem? (i := 53) rfl)) rfl
theorem ml_X6_68 : Cond.methodLink RX6 68 yX1_tell ∈ TBL := TBL_in (tm4 (List.mem_of_getElem? (i := 54) rfl)) rfl
theorem ml_X6_76 : Cond.methodLink RX6 76 yX6_shorten ∈ TBL := TBL_in (tm4 (List.mem_of_getElem? (i := 69) rfl)) rfl
theorem ml_X6_79 : Cond.methodLink RX6 79 yX6_commonDivisor ∈ TBL := TBL_in (tm4 (List.mem_of_getElem? (i := 73) rfl)) rfl
theorem ml_X7_33 : Cond.methodLink RX7 33 yX0_isCandle ∈ TBL := TBL_in (tm4 (List.mem_of_getElem? (i := 162) rfl)) rfl
theorem ml_X7_45 : Cond.methodLink RX7 45 yX7_minutesLeft ∈ TBL := TBL_in (tm4 (List.mem_of_getElem? (i := 144) rfl)) rfl
theorem ml_X7_49 : Cond.methodLink RX7 49 yX7_marryFrom ∈ TBL := TBL_in (tm4 (List.mem_of_getElem? (i := 149) rfl)) rfl
theorem ml_X7_59 : Cond.methodLink RX7 59 yX1_tell ∈ TBL := TBL_in (tm4 (List.mem_of_getElem? (i := 148) rfl)) rfl
theorem ml_X7_65 : Cond.methodLink RX7 65 yX7_keepIfBetter ∈ TBL := TBL_in (tm4 (List.mem_of_getElem? (i := 153) rfl)) rfl
theorem ml_X7_69 : Cond.methodLink RX7 69 yJ9_max_7cf53 ∈ TBL := TBL_in (tm4 (List.mem_of_getElem? (i := 157) rfl)) rfl
theorem ml_X8_75 : Cond.methodLink RX8 75 yX0_addHouse ∈ TBL := TBL_in (tm2 (List.mem_of_getElem? (i := 134) rfl)) rfl
theorem ml_X8_79 : Cond.methodLink RX8 79 yX0_addCandle ∈ TBL := TBL_in (tm2 (List.mem_of_getElem? (i := 142) rfl)) rfl
theorem ml_X8_86 : Cond.methodLink RX8 86 yX0_isHouse ∈ TBL := TBL_in (tm2 (List.mem_of_getElem? (i := 154) rfl)) rfl
theorem ml_X8_90 : Cond.methodLink RX8 90 yX0_isInch ∈ TBL := TBL_in (tm2 (List.mem_of_getElem? (i := 158) rfl)) rfl
theorem ml_X8_98 : Cond.methodLink RX8 98 yX0_ownerOf ∈ TBL := TBL_in (tm2 (List.mem_of_getElem? (i := 166) rfl)) rfl
theorem ml_X8_101 : Cond.methodLink RX8 101 yX1_tell ∈ TBL := TBL_in (tm2 (List.mem_of_getElem? (i := 171) rfl)) rfl
theorem ml_X8_108 : Cond.methodLink RX8 108 yX4_keep ∈ TBL := TBL_in (tm2 (List.mem_of_getElem? (i := 222) rfl)) rfl
theorem ml_X8_112 : Cond.methodLink RX8 112 yX0_setOwner ∈ TBL := TBL_in (tm2 (List.mem_of_getElem? (i := 228) rfl)) rfl
theorem ml_X8_116 : Cond.methodLink RX8 116 yX0_isCandle ∈ TBL := TBL_in (tm2 (List.mem_of_getElem? (i := 236) rfl)) rfl
theorem ml_X8_122 : Cond.methodLink RX8 122 yX8_lightFirst ∈ TBL := TBL_in (tm2 (List.mem_of_getElem? (i := 237) rfl)) rfl
theorem ml_X8_126 : Cond.methodLink RX8 126 yX8_lightAgain ∈ TBL := TBL_in (tm3 (List.mem_of_getElem? (i := 1) rfl)) rfl
theorem ml_X8_132 : Cond.methodLink RX8 132 yX8_burnInch ∈ TBL := TBL_in (tm3 (List.mem_of_getElem? (i := 9) rfl)) rfl
theorem ml_X8_135 : Cond.methodLink RX8 135 yX8_passOn ∈ TBL := TBL_in (tm3 (List.mem_of_getElem? (i := 18) rfl)) rfl
theorem ml_X8_141 : Cond.methodLink RX8 141 yJ9_min_7cf53 ∈ TBL := TBL_in (tm3 (List.mem_of_getElem? (i := 13) rfl)) rfl
theorem ml_X8_149 : Cond.methodLink RX8 149 yX0_addDrip ∈ TBL := TBL_in (tm3 (List.mem_of_getElem? (i := 14) rfl)) rfl
theorem ml_X8_156 : Cond.methodLink RX8 156 yX0_draw ∈ TBL := TBL_in (tm3 (List.mem_of_getElem? (i := 22) rfl)) rfl
theorem ml_X8_162 : Cond.methodLink RX8 162 yX2_hasRoom ∈ TBL := TBL_in (tm3 (List.mem_of_getElem? (i := 38) rfl)) rfl
theorem ml_X8_166 : Cond.methodLink RX8 166 yX2_addFour ∈ TBL := TBL_in (tm3 (List.mem_of_getElem? (i := 42) rfl)) rfl
theorem ml_X8_175 : Cond.methodLink RX8 175 yX2_read ∈ TBL := TBL_in (tm3 (List.mem_of_getElem? (i := 54) rfl)) rfl
theorem ml_X8_189 : Cond.methodLink RX8 189 yX0_isText ∈ TBL := TBL_in (tm3 (List.mem_of_getElem? (i := 236) rfl)) rfl
theorem ml_X8_198 : Cond.methodLink RX8 198 yX3_number ∈ TBL := TBL_in (tm4 (List.mem_of_getElem? (i := 1) rfl)) rfl
theorem ml_X8_201 : Cond.methodLink RX8 201 yX3_kindOf ∈ TBL := TBL_in (tm4 (List.mem_of_getElem? (i := 5) rfl)) rfl
theorem ml_X8_204 : Cond.methodLink RX8 204 yX8_buy ∈ TBL := TBL_in (tm4 (List.mem_of_getElem? (i := 9) rfl)) rfl
theorem ml_X8_208 : Cond.methodLink RX8 208 yX8_light ∈ TBL := TBL_in (tm4 (List.mem_of_getElem? (i := 10) rfl)) rfl
theorem ml_X8_210 : Cond.methodLink RX8 210 yX8_burn ∈ TBL := TBL_in (tm4 (List.mem_of_getElem? (i := 11) rfl)) rfl
theorem ml_X8_213 : Cond.methodLink RX8 213 yX8_moths ∈ TBL := TBL_in (tm4 (List.mem_of_getElem? (i := 12) rfl)) rfl
theorem ml_X8_216 : Cond.methodLink RX8 216 yX4_takeBack ∈ TBL := TBL_in (tm4 (List.mem_of_getElem? (i := 17) rfl)) rfl
theorem ml_X8_232 : Cond.methodLink RX8 232 yX0_dripPart ∈ TBL := TBL_in (tm4 (List.mem_of_getElem? (i := 39) rfl)) rfl
theorem ml_X8_235 : Cond.methodLink RX8 235 yX6_plan ∈ TBL := TBL_in (tm4 (List.mem_of_getElem? (i := 47) rfl)) rfl
theorem ml_X8_238 : Cond.methodLink RX8 238 yX6_houseAt ∈ TBL := TBL_in (tm4 (List.mem_of_getElem? (i := 55) rfl)) rfl
theorem ml_X8_249 : Cond.methodLink RX8 249 yX6_reckonOdds ∈ TBL := TBL_in (tm4 (List.mem_of_getElem? (i := 64) rfl)) rfl
theorem ml_X8_259 : Cond.methodLink RX8 259 yX6_reckonBlame ∈ TBL := TBL_in (tm4 (List.mem_of_getElem? (i := 80) rfl)) rfl
theorem ml_X8_262 : Cond.methodLink RX8 262 yX0_isSet ∈ TBL := TBL_in (tm4 (List.mem_of_getElem? (i := 88) rfl)) rfl
theorem ml_X8_265 : Cond.methodLink RX8 265 yJ6_bitCount_0f7a4 ∈ TBL := TBL_in (tm4 (List.mem_of_getElem? (i := 92) rfl)) rfl
theorem ml_X8_270 : Cond.methodLink RX8 270 yX5_seat ∈ TBL := TBL_in (tm4 (List.mem_of_getElem? (i := 98) rfl)) rfl
theorem ml_X8_274 : Cond.methodLink RX8 274 yX5_guestAt ∈ TBL := TBL_in (tm4 (List.mem_of_getElem? (i := 132) rfl)) rfl
theorem ml_X8_277 : Cond.methodLink RX8 277 yX7_arrange ∈ TBL := TBL_in (tm4 (List.mem_of_getElem? (i := 140) rfl)) rfl
theorem ml_X8_283 : Cond.methodLink RX8 283 yX7_partnerOf ∈ TBL := TBL_in (tm4 (List.mem_of_getElem? (i := 158) rfl)) rfl
theorem ml_X8_286 : Cond.methodLink RX8 286 yX0_worthOf ∈ TBL := TBL_in (tm4 (List.mem_of_getElem? (i := 167) rfl)) rfl
theorem ml_X8_289 : Cond.methodLink RX8 289 yX0_freeInches ∈ TBL := TBL_in (tm4 (List.mem_of_getElem? (i := 184) rfl)) rfl
theorem ml_X8_292 : Cond.methodLink RX8 292 yX8_turnOf ∈ TBL := TBL_in (tm4 (List.mem_of_getElem? (i := 188) rfl)) rfl
theorem ml_X8_295 : Cond.methodLink RX8 295 yX0_housesWith ∈ TBL := TBL_in (tm4 (List.mem_of_getElem? (i := 192) rfl)) rfl
theorem ml_X8_298 : Cond.methodLink RX8 298 yX0_copyFrom ∈ TBL := TBL_in (tm4 (List.mem_of_getElem? (i := 200) rfl)) rfl
theorem ml_X8_302 : Cond.methodLink RX8 302 yX4_copyFrom ∈ TBL := TBL_in (tm4 (List.mem_of_getElem? (i := 207) rfl)) rfl
theorem ml_X8_308 : Cond.methodLink RX8 308 yX0_candlesIn ∈ TBL := TBL_in (tm4 (List.mem_of_getElem? (i := 219) rfl)) rfl
theorem ml_X9_116 : Cond.methodLink RX9 116 yX9_copies ∈ TBL := TBL_in (tm4 (List.mem_of_getElem? (i := 229) rfl)) rfl
theorem ml_X9_120 : Cond.methodLink RX9 120 yX9_in ∈ TBL := TBL_in (tm5 (List.mem_of_getElem? (i := 147) rfl)) rfl
theorem ml_X9_124 : Cond.methodLink RX9 124 yX9_tellsCandle ∈ TBL := TBL_in (tm5 (List.mem_of_getElem? (i := 154) rfl)) rfl
theorem ml_X9_131 : Cond.methodLink RX9 131 yX9_put ∈ TBL := TBL_in (tm5 (List.mem_of_getElem? (i := 170) rfl)) rfl
theorem ml_X9_183 : Cond.methodLink RX9 183 yX9_isLetter ∈ TBL := TBL_in (tm5 (List.mem_of_getElem? (i := 186) rfl)) rfl
theorem ml_X9_189 : Cond.methodLink RX9 189 yX9_wordOf ∈ TBL := TBL_in (tm5 (List.mem_of_getElem? (i := 190) rfl)) rfl
theorem ml_X9_212 : Cond.methodLink RX9 212 yX9_errs ∈ TBL := TBL_in (tm5 (List.mem_of_getElem? (i := 216) rfl)) rfl
theorem ml_X9_215 : Cond.methodLink RX9 215 yX9_opensFrame ∈ TBL := TBL_in (tm6 (List.mem_of_getElem? (i := 0) rfl)) rfl
theorem ml_X9_218 : Cond.methodLink RX9 218 yX9_next ∈ TBL := TBL_in (tm5 (List.mem_of_getElem? (i := 182) rfl)) rfl
theorem ml_X9_224 : Cond.methodLink RX9 224 yX9_rank ∈ TBL := TBL_in (tm6 (List.mem_of_getElem? (i := 12) rfl)) rfl
theorem ml_X9_228 : Cond.methodLink RX9 228 yX9_emits ∈ TBL := TBL_in (tm5 (List.mem_of_getElem? (i := 220) rfl)) rfl
theorem ml_X9_231 : Cond.methodLink RX9 231 yX9_works ∈ TBL := TBL_in (tm6 (List.mem_of_getElem? (i := 15) rfl)) rfl
theorem ml_X9_234 : Cond.methodLink RX9 234 yX9_oneIsOver ∈ TBL := TBL_in (tm5 (List.mem_of_getElem? (i := 224) rfl)) rfl
theorem ml_X9_240 : Cond.methodLink RX9 240 yX9_isSign ∈ TBL := TBL_in (tm5 (List.mem_of_getElem? (i := 232) rfl)) rfl
theorem ml_X9_243 : Cond.methodLink RX9 243 yX9_opensSign ∈ TBL := TBL_in (tm5 (List.mem_of_getElem? (i := 236) rfl)) rfl
theorem ml_X9_246 : Cond.methodLink RX9 246 yX9_top ∈ TBL := TBL_in (tm5 (List.mem_of_getElem? (i := 228) rfl)) rfl
theorem ml_X9_253 : Cond.methodLink RX9 253 yX9_waitsFor ∈ TBL := TBL_in (tm6 (List.mem_of_getElem? (i := 8) rfl)) rfl
theorem ml_X9_256 : Cond.methodLink RX9 256 yX9_clauseIsOver ∈ TBL := TBL_in (tm6 (List.mem_of_getElem? (i := 19) rfl)) rfl
theorem ml_X9_262 : Cond.methodLink RX9 262 yX9_isWord ∈ TBL := TBL_in (tm6 (List.mem_of_getElem? (i := 39) rfl)) rfl
theorem ml_X9_265 : Cond.methodLink RX9 265 yX9_wasTold ∈ TBL := TBL_in (tm6 (List.mem_of_getElem? (i := 27) rfl)) rfl
theorem ml_X9_268 : Cond.methodLink RX9 268 yX9_number ∈ TBL := TBL_in (tm6 (List.mem_of_getElem? (i := 31) rfl)) rfl
theorem ml_X9_272 : Cond.methodLink RX9 272 yX9_wants ∈ TBL := TBL_in (tm6 (List.mem_of_getElem? (i := 35) rfl)) rfl
theorem ml_X9_275 : Cond.methodLink RX9 275 yX9_begins ∈ TBL := TBL_in (tm5 (List.mem_of_getElem? (i := 212) rfl)) rfl
theorem ml_X9_278 : Cond.methodLink RX9 278 yX9_goesOn ∈ TBL := TBL_in (tm6 (List.mem_of_getElem? (i := 4) rfl)) rfl
theorem ml_X9_281 : Cond.methodLink RX9 281 yX9_clause ∈ TBL := TBL_in (tm6 (List.mem_of_getElem? (i := 23) rfl)) rfl
theorem ml_X9_288 : Cond.methodLink RX9 288 yX9_bound ∈ TBL := TBL_in (tm6 (List.mem_of_getElem? (i := 90) rfl)) rfl
theorem ml_X9_292 : Cond.methodLink RX9 292 yX9_worked ∈ TBL := TBL_in (tm6 (List.mem_of_getElem? (i := 87) rfl)) rfl
theorem ml_X9_296 : Cond.methodLink RX9 296 yX9_ordersOf ∈ TBL := TBL_in (tm6 (List.mem_of_getElem? (i := 79) rfl)) rfl
theorem ml_X9_299 : Cond.methodLink RX9 299 yX9_saysOf ∈ TBL := TBL_in (tm6 (List.mem_of_getElem? (i := 83) rfl)) rfl
theorem ml_X9_303 : Cond.methodLink RX9 303 yX9_held ∈ TBL := TBL_in (tm6 (List.mem_of_getElem? (i := 95) rfl)) rfl
theorem ml_X9_307 : Cond.methodLink RX9 307 yX9_thickOf ∈ TBL := TBL_in (tm6 (List.mem_of_getElem? (i := 71) rfl)) rfl
theorem ml_X9_310 : Cond.methodLink RX9 310 yX9_inchesOf ∈ TBL := TBL_in (tm6 (List.mem_of_getElem? (i := 63) rfl)) rfl
theorem ml_X9_313 : Cond.methodLink RX9 313 yX9_lawOf ∈ TBL := TBL_in (tm6 (List.mem_of_getElem? (i := 75) rfl)) rfl
theorem ml_X9_317 : Cond.methodLink RX9 317 yX9_isHouse ∈ TBL := TBL_in (tm6 (List.mem_of_getElem? (i := 55) rfl)) rfl
theorem ml_X9_320 : Cond.methodLink RX9 320 yX9_isCandle ∈ TBL := TBL_in (tm6 (List.mem_of_getElem? (i := 59) rfl)) rfl
theorem ml_X9_323 : Cond.methodLink RX9 323 yX9_lawFor ∈ TBL := TBL_in (tm6 (List.mem_of_getElem? (i := 67) rfl)) rfl
theorem ml_X9_327 : Cond.methodLink RX9 327 yX9_ofCandle ∈ TBL := TBL_in (tm6 (List.mem_of_getElem? (i := 102) rfl)) rfl
theorem ml_X9_330 : Cond.methodLink RX9 330 yX9_ownerOf ∈ TBL := TBL_in (tm6 (List.mem_of_getElem? (i := 106) rfl)) rfl
theorem ml_X9_333 : Cond.methodLink RX9 333 yX9_keepsStep ∈ TBL := TBL_in (tm6 (List.mem_of_getElem? (i := 110) rfl)) rfl
theorem ml_X9_336 : Cond.methodLink RX9 336 yX9_puts ∈ TBL := TBL_in (tm6 (List.mem_of_getElem? (i := 114) rfl)) rfl
theorem ml_X9_340 : Cond.methodLink RX9 340 yX9_least ∈ TBL := TBL_in (tm6 (List.mem_of_getElem? (i := 126) rfl)) rfl
theorem ml_X9_343 : Cond.methodLink RX9 343 yX9_draw ∈ TBL := TBL_in (tm6 (List.mem_of_getElem? (i := 129) rfl)) rfl
theorem ml_X9_346 : Cond.methodLink RX9 346 yX9_buy ∈ TBL := TBL_in (tm6 (List.mem_of_getElem? (i := 145) rfl)) rfl
theorem ml_X9_350 : Cond.methodLink RX9 350 yX9_light ∈ TBL := TBL_in (tm6 (List.mem_of_getElem? (i := 146) rfl)) rfl
theorem ml_X9_353 : Cond.methodLink RX9 353 yX9_burn ∈ TBL := TBL_in (tm6 (List.mem_of_getElem? (i := 147) rfl)) rfl
theorem ml_X9_356 : Cond.methodLink RX9 356 yX9_moths ∈ TBL := TBL_in (tm6 (List.mem_of_getElem? (i := 148) rfl)) rfl
theorem ml_X9_359 : Cond.methodLink RX9 359 yX9_hasWay ∈ TBL := TBL_in (tm6 (List.mem_of_getElem? (i := 165) rfl)) rfl
theorem ml_X9_362 : Cond.methodLink RX9 362 yX9_laysWay ∈ TBL := TBL_in (tm6 (List.mem_of_getElem? (i := 169) rfl)) rfl
theorem ml_X9_365 : Cond.methodLink RX9 365 yX9_common ∈ TBL := TBL_in (tm6 (List.mem_of_getElem? (i := 182) rfl)) rfl
theorem ml_X9_373 : Cond.methodLink RX9 373 yX9_inLowest ∈ TBL := TBL_in (tm6 (List.mem_of_getElem? (i := 179) rfl)) rfl
theorem ml_X9_377 : Cond.methodLink RX9 377 yX9_rows ∈ TBL := TBL_in (tm6 (List.mem_of_getElem? (i := 193) rfl)) rfl
theorem ml_X9_380 : Cond.methodLink RX9 380 yX9_laysOrder ∈ TBL := TBL_in (tm6 (List.mem_of_getElem? (i := 196) rfl)) rfl
theorem ml_X9_383 : Cond.methodLink RX9 383 yX9_laysMinutes ∈ TBL := TBL_in (tm6 (List.mem_of_getElem? (i := 204) rfl)) rfl
theorem ml_X9_386 : Cond.methodLink RX9 386 yX9_laysMates ∈ TBL := TBL_in (tm6 (List.mem_of_getElem? (i := 208) rfl)) rfl
theorem ml_X9_389 : Cond.methodLink RX9 389 yX9_worthOf ∈ TBL := TBL_in (tm6 (List.mem_of_getElem? (i := 216) rfl)) rfl
theorem kl_X1_107 : Cond.constantLong RX1 107 (Int64.ofInt (-1000000)) ∈ TBL := TBL_in (by decide +kernel) rfl
theorem kl_X1_109 : Cond.constantLong RX1 109 (Int64.ofInt (1000000)) ∈ TBL := TBL_in (by decide +kernel) rfl
theorem kl_X6_74 : Cond.constantLong RX6 74 (Int64.ofInt (10)) ∈ TBL := TBL_in (by decide +kernel) rfl
theorem kl_X8_247 : Cond.constantLong RX8 247 (Int64.ofInt (-1)) ∈ TBL := TBL_in (by decide +kernel) rfl
theorem kl_X9_135 : Cond.constantLong RX9 135 (Int64.ofInt (818583781)) ∈ TBL := TBL_in (by decide +kernel) rfl
theorem kl_X9_137 : Cond.constantLong RX9 137 (Int64.ofInt (584526771)) ∈ TBL := TBL_in (by decide +kernel) rfl
theorem kl_X9_139 : Cond.constantLong RX9 139 (Int64.ofInt (882252979)) ∈ TBL := TBL_in (by decide +kernel) rfl
theorem kl_X9_141 : Cond.constantLong RX9 141 (Int64.ofInt (195956)) ∈ TBL := TBL_in (by decide +kernel) rfl
theorem kl_X9_143 : Cond.constantLong RX9 143 (Int64.ofInt (142713)) ∈ TBL := TBL_in (by decide +kernel) rfl
theorem kl_X9_145 : Cond.constantLong RX9 145 (Int64.ofInt (749107764)) ∈ TBL := TBL_in (by decide +kernel) rfl
theorem kl_X9_147 : Cond.constantLong RX9 147 (Int64.ofInt (9133230)) ∈ TBL := TBL_in (by decide +kernel) rfl
theorem kl_X9_149 : Cond.constantLong RX9 149 (Int64.ofInt (767511091)) ∈ TBL := TBL_in (by decide +kernel) rfl
theorem kl_X9_151 : Cond.constantLong RX9 151 (Int64.ofInt (3046)) ∈ TBL := TBL_in (by decide +kernel) rfl
theorem kl_X9_153 : Cond.constantLong RX9 153 (Int64.ofInt (158706)) ∈ TBL := TBL_in (by decide +kernel) rfl
theorem kl_X9_155 : Cond.constantLong RX9 155 (Int64.ofInt (683629797)) ∈ TBL := TBL_in (by decide +kernel) rfl
theorem kl_X9_157 : Cond.constantLong RX9 157 (Int64.ofInt (2528155957812)) ∈ TBL := TBL_in (by decide +kernel) rfl
theorem kl_X9_159 : Cond.constantLong RX9 159 (Int64.ofInt (38146820901)) ∈ TBL := TBL_in (by decide +kernel) rfl
theorem kl_X9_161 : Cond.constantLong RX9 161 (Int64.ofInt (883071211)) ∈ TBL := TBL_in (by decide +kernel) rfl
theorem kl_X9_163 : Cond.constantLong RX9 163 (Int64.ofInt (47877618984)) ∈ TBL := TBL_in (by decide +kernel) rfl
theorem kl_X9_165 : Cond.constantLong RX9 165 (Int64.ofInt (10938600)) ∈ TBL := TBL_in (by decide +kernel) rfl
theorem kl_X9_167 : Cond.constantLong RX9 167 (Int64.ofInt (227448)) ∈ TBL := TBL_in (by decide +kernel) rfl
theorem kl_X9_169 : Cond.constantLong RX9 169 (Int64.ofInt (9590964)) ∈ TBL := TBL_in (by decide +kernel) rfl
theorem kl_X9_187 : Cond.constantLong RX9 187 (Int64.ofInt (64)) ∈ TBL := TBL_in (by decide +kernel) rfl
theorem kl_X9_284 : Cond.constantLong RX9 284 (Int64.ofInt (1000000)) ∈ TBL := TBL_in (by decide +kernel) rfl
theorem kl_X9_286 : Cond.constantLong RX9 286 (Int64.ofInt (-1000000)) ∈ TBL := TBL_in (by decide +kernel) rfl
theorem kl_X9_369 : Cond.constantLong RX9 369 (Int64.ofInt (-1)) ∈ TBL := TBL_in (by decide +kernel) rfl
theorem kl_X9_371 : Cond.constantLong RX9 371 (Int64.ofInt (10)) ∈ TBL := TBL_in (by decide +kernel) rfl
theorem ki_J6_265 : Cond.constant RJ6 265 (Int32.ofInt (1431655765)) ∈ TBL := TBL_in (by decide +kernel) rfl
theorem ki_J6_266 : Cond.constant RJ6 266 (Int32.ofInt (858993459)) ∈ TBL := TBL_in (by decide +kernel) rfl
theorem ki_J6_267 : Cond.constant RJ6 267 (Int32.ofInt (252645135)) ∈ TBL := TBL_in (by decide +kernel) rfl
theorem ki_X9_196 : Cond.constant RX9 196 (Int32.ofInt (99999)) ∈ TBL := TBL_in (by decide +kernel) rfl
