theorem cl_L_7 : Cond.classLink RL 7 (pk_cls 6) ∈ pk_tbl := pk_tb (List.mem_of_getElem? (i := 88) (by decide +kernel)) (by decide +kernel)
theorem in_X6 : Cond.instantiable (pk_cls 6) (pk_fn 6) ∈ pk_tbl := pk_tb (List.mem_of_getElem? (i := 89) (by decide +kernel)) (by decide +kernel)
theorem ml_L_9 : pk_ML RL 9 yX6_init := Or.inl (pk_tb (List.mem_of_getElem? (i := 90) (by decide +kernel)) (by decide +kernel))
theorem mo_X6_1 : Cond.methodLink RX6 1 objectInit ∈ pk_tbl := pk_tb (List.mem_of_getElem? (i := 93) (by decide +kernel)) (by decide +kernel)
theorem cl_X6_7 : Cond.classLink RX6 7 (pk_cls 4) ∈ pk_tbl := pk_tb (List.mem_of_getElem? (i := 96) (by decide +kernel)) (by decide +kernel)
theorem in_X4 : Cond.instantiable (pk_cls 4) (pk_fn 4) ∈ pk_tbl := pk_tb (List.mem_of_getElem? (i := 97) (by decide +kernel)) (by decide +kernel)
theorem ml_X6_9 : pk_ML RX6 9 yX4_init := Or.inl (pk_tb (List.mem_of_getElem? (i := 98) (by decide +kernel)) (by decide +kernel))
theorem mo_X4_3 : Cond.methodLink RX4 3 objectInit ∈ pk_tbl := pk_tb (List.mem_of_getElem? (i := 101) (by decide +kernel)) (by decide +kernel)
theorem gs_X4_34 : Cond.fieldLink RX4 34 RX6 "FIRST_TONES" "[I" ∈ pk_tbl ∨ ∃ host, Cond.fieldLinkNest RX4 34 RX6 "FIRST_TONES" "[I" host ∈ pk_tbl := Or.inr ⟨"PartedInks", pk_tb (List.mem_of_getElem? (i := 102) (by decide +kernel)) (by decide +kernel)⟩
theorem fl_X4_9 : pk_FL RX4 9 4 0 := ⟨by decide, by decide, Or.inl (pk_tb (List.mem_of_getElem? (i := 104) (by decide +kernel)) (by decide +kernel))⟩
theorem fw_X4_9 : Cond.fieldLink RX4 9 (pk_tab 4 0).1 (pk_tab 4 0).2.1 (pk_tab 4 0).2.2.1 ∈ pk_tbl := pk_tb (List.mem_of_getElem? (i := 104) (by decide +kernel)) (by decide +kernel)
theorem fl_X1_15 : pk_FL RX1 15 4 0 := ⟨by decide, by decide, Or.inl (pk_tb (List.mem_of_getElem? (i := 105) (by decide +kernel)) (by decide +kernel))⟩
theorem fw_X1_15 : Cond.fieldLink RX1 15 (pk_tab 4 0).1 (pk_tab 4 0).2.1 (pk_tab 4 0).2.2.1 ∈ pk_tbl := pk_tb (List.mem_of_getElem? (i := 105) (by decide +kernel)) (by decide +kernel)
theorem fl_X6_75 : pk_FL RX6 75 4 0 := ⟨by decide, by decide, Or.inl (pk_tb (List.mem_of_getElem? (i := 106) (by decide +kernel)) (by decide +kernel))⟩
theorem fw_X6_75 : Cond.fieldLink RX6 75 (pk_tab 4 0).1 (pk_tab 4 0).2.1 (pk_tab 4 0).2.2.1 ∈ pk_tbl := pk_tb (List.mem_of_getElem? (i := 106) (by decide +kernel)) (by decide +kernel)
theorem fl_X4_15 : pk_FL RX4 15 4 1 := ⟨by decide, by decide, Or.inl (pk_tb (List.mem_of_getElem? (i := 107) (by decide +kernel)) (by decide +kernel))⟩
theorem fw_X4_15 : Cond.fieldLink RX4 15 (pk_tab 4 1).1 (pk_tab 4 1).2.1 (pk_tab 4 1).2.2.1 ∈ pk_tbl := pk_tb (List.mem_of_getElem? (i := 107) (by decide +kernel)) (by decide +kernel)
theorem fl_X1_20 : pk_FL RX1 20 4 1 := ⟨by decide, by decide, Or.inl (pk_tb (List.mem_of_getElem? (i := 108) (by decide +kernel)) (by decide +kernel))⟩
theorem fw_X1_20 : Cond.fieldLink RX1 20 (pk_tab 4 1).1 (pk_tab 4 1).2.1 (pk_tab 4 1).2.2.1 ∈ pk_tbl := pk_tb (List.mem_of_getElem? (i := 108) (by decide +kernel)) (by decide +kernel)
theorem fl_X6_78 : pk_FL RX6 78 4 1 := ⟨by decide, by decide, Or.inl (pk_tb (List.mem_of_getElem? (i := 109) (by decide +kernel)) (by decide +kernel))⟩
theorem fw_X6_78 : Cond.fieldLink RX6 78 (pk_tab 4 1).1 (pk_tab 4 1).2.1 (pk_tab 4 1).2.2.1 ∈ pk_tbl := pk_tb (List.mem_of_getElem? (i := 109) (by decide +kernel)) (by decide +kernel)
theorem fl_X4_18 : pk_FL RX4 18 4 2 := ⟨by decide, by decide, Or.inl (pk_tb (List.mem_of_getElem? (i := 110) (by decide +kernel)) (by decide +kernel))⟩
theorem fw_X4_18 : Cond.fieldLink RX4 18 (pk_tab 4 2).1 (pk_tab 4 2).2.1 (pk_tab 4 2).2.2.1 ∈ pk_tbl := pk_tb (List.mem_of_getElem? (i := 110) (by decide +kernel)) (by decide +kernel)
theorem fl_X1_23 : pk_FL RX1 23 4 2 := ⟨by decide, by decide, Or.inl (pk_tb (List.mem_of_getElem? (i := 111) (by decide +kernel)) (by decide +kernel))⟩
theorem fw_X1_23 : Cond.fieldLink RX1 23 (pk_tab 4 2).1 (pk_tab 4 2).2.1 (pk_tab 4 2).2.2.1 ∈ pk_tbl := pk_tb (List.mem_of_getElem? (i := 111) (by decide +kernel)) (by decide +kernel)
theorem fl_X6_164 : pk_FL RX6 164 4 2 := ⟨by decide, by decide, Or.inl (pk_tb (List.mem_of_getElem? (i := 112) (by decide +kernel)) (by decide +kernel))⟩
theorem fw_X6_164 : Cond.fieldLink RX6 164 (pk_tab 4 2).1 (pk_tab 4 2).2.1 (pk_tab 4 2).2.2.1 ∈ pk_tbl := pk_tb (List.mem_of_getElem? (i := 112) (by decide +kernel)) (by decide +kernel)
theorem fl_X4_21 : pk_FL RX4 21 4 3 := ⟨by decide, by decide, Or.inl (pk_tb (List.mem_of_getElem? (i := 113) (by decide +kernel)) (by decide +kernel))⟩
theorem fw_X4_21 : Cond.fieldLink RX4 21 (pk_tab 4 3).1 (pk_tab 4 3).2.1 (pk_tab 4 3).2.2.1 ∈ pk_tbl := pk_tb (List.mem_of_getElem? (i := 113) (by decide +kernel)) (by decide +kernel)
theorem fl_X6_209 : pk_FL RX6 209 4 3 := ⟨by decide, by decide, Or.inl (pk_tb (List.mem_of_getElem? (i := 114) (by decide +kernel)) (by decide +kernel))⟩
theorem fw_X6_209 : Cond.fieldLink RX6 209 (pk_tab 4 3).1 (pk_tab 4 3).2.1 (pk_tab 4 3).2.2.1 ∈ pk_tbl := pk_tb (List.mem_of_getElem? (i := 114) (by decide +kernel)) (by decide +kernel)
theorem fl_X4_24 : pk_FL RX4 24 4 4 := ⟨by decide, by decide, Or.inl (pk_tb (List.mem_of_getElem? (i := 115) (by decide +kernel)) (by decide +kernel))⟩
theorem fl_X0_40 : pk_FL RX0 40 4 4 := ⟨by decide, by decide, Or.inl (pk_tb (List.mem_of_getElem? (i := 116) (by decide +kernel)) (by decide +kernel))⟩
theorem fl_X6_160 : pk_FL RX6 160 4 4 := ⟨by decide, by decide, Or.inl (pk_tb (List.mem_of_getElem? (i := 117) (by decide +kernel)) (by decide +kernel))⟩
theorem fl_X4_28 : pk_FL RX4 28 4 5 := ⟨by decide, by decide, Or.inl (pk_tb (List.mem_of_getElem? (i := 118) (by decide +kernel)) (by decide +kernel))⟩
theorem fl_X0_35 : pk_FL RX0 35 4 5 := ⟨by decide, by decide, Or.inl (pk_tb (List.mem_of_getElem? (i := 119) (by decide +kernel)) (by decide +kernel))⟩
theorem fl_X6_161 : pk_FL RX6 161 4 5 := ⟨by decide, by decide, Or.inl (pk_tb (List.mem_of_getElem? (i := 120) (by decide +kernel)) (by decide +kernel))⟩
theorem fl_X4_31 : pk_FL RX4 31 4 6 := ⟨by decide, by decide, Or.inl (pk_tb (List.mem_of_getElem? (i := 121) (by decide +kernel)) (by decide +kernel))⟩
theorem fl_X6_226 : pk_FL RX6 226 4 6 := ⟨by decide, by decide, Or.inl (pk_tb (List.mem_of_getElem? (i := 122) (by decide +kernel)) (by decide +kernel))⟩
theorem ac_int : Cond.arrayClass .int ∈ pk_tbl := pk_tb (List.mem_of_getElem? (i := 138) (by decide +kernel)) (by decide +kernel)
theorem cl_X6_16 : Cond.classLink RX6 16 (pk_cls 2) ∈ pk_tbl := pk_tb (List.mem_of_getElem? (i := 139) (by decide +kernel)) (by decide +kernel)
theorem in_X2 : Cond.instantiable (pk_cls 2) (pk_fn 2) ∈ pk_tbl := pk_tb (List.mem_of_getElem? (i := 140) (by decide +kernel)) (by decide +kernel)
theorem ml_X6_18 : pk_ML RX6 18 yX2_init := Or.inl (pk_tb (List.mem_of_getElem? (i := 141) (by decide +kernel)) (by decide +kernel))
theorem mo_X2_3 : Cond.methodLink RX2 3 objectInit ∈ pk_tbl := pk_tb (List.mem_of_getElem? (i := 144) (by decide +kernel)) (by decide +kernel)
theorem cl_X2_9 : Cond.classLink RX2 9 (pk_cls 4) ∈ pk_tbl := pk_tb (List.mem_of_getElem? (i := 145) (by decide +kernel)) (by decide +kernel)
theorem ao_X4 : Cond.arrayOver (.object RX4) ∈ pk_tbl := pk_tb (List.mem_of_getElem? (i := 146) (by decide +kernel)) (by decide +kernel)
theorem ml_X2_21 : pk_ML RX2 21 yX4_init := Or.inl (pk_tb (List.mem_of_getElem? (i := 147) (by decide +kernel)) (by decide +kernel))
theorem fl_X2_11 : pk_FL RX2 11 2 0 := ⟨by decide, by decide, Or.inl (pk_tb (List.mem_of_getElem? (i := 148) (by decide +kernel)) (by decide +kernel))⟩
theorem fw_X2_11 : Cond.fieldLink RX2 11 (pk_tab 2 0).1 (pk_tab 2 0).2.1 (pk_tab 2 0).2.2.1 ∈ pk_tbl := pk_tb (List.mem_of_getElem? (i := 148) (by decide +kernel)) (by decide +kernel)
theorem fl_X2_17 : pk_FL RX2 17 2 1 := ⟨by decide, by decide, Or.inl (pk_tb (List.mem_of_getElem? (i := 149) (by decide +kernel)) (by decide +kernel))⟩
theorem fl_X6_157 : pk_FL RX6 157 2 1 := ⟨by decide, by decide, Or.inl (pk_tb (List.mem_of_getElem? (i := 150) (by decide +kernel)) (by decide +kernel))⟩
theorem cl_X6_33 : Cond.classLink RX6 33 (pk_cls 1) ∈ pk_tbl := pk_tb (List.mem_of_getElem? (i := 156) (by decide +kernel)) (by decide +kernel)
theorem in_X1 : Cond.instantiable (pk_cls 1) (pk_fn 1) ∈ pk_tbl := pk_tb (List.mem_of_getElem? (i := 157) (by decide +kernel)) (by decide +kernel)
theorem ml_X6_35 : pk_ML RX6 35 yX1_init := Or.inr ⟨"PartedInks", pk_tb (List.mem_of_getElem? (i := 158) (by decide +kernel)) (by decide +kernel)⟩
theorem mo_X1_3 : Cond.methodLink RX1 3 objectInit ∈ pk_tbl := pk_tb (List.mem_of_getElem? (i := 161) (by decide +kernel)) (by decide +kernel)
theorem fl_X1_9 : pk_FL RX1 9 1 0 := ⟨by decide, by decide, Or.inl (pk_tb (List.mem_of_getElem? (i := 162) (by decide +kernel)) (by decide +kernel))⟩
theorem fw_X1_9 : Cond.fieldLink RX1 9 (pk_tab 1 0).1 (pk_tab 1 0).2.1 (pk_tab 1 0).2.2.1 ∈ pk_tbl := pk_tb (List.mem_of_getElem? (i := 162) (by decide +kernel)) (by decide +kernel)
theorem fl_X6_329 : pk_FL RX6 329 1 0 := ⟨by decide, by decide, Or.inl (pk_tb (List.mem_of_getElem? (i := 163) (by decide +kernel)) (by decide +kernel))⟩
theorem fw_X6_329 : Cond.fieldLink RX6 329 (pk_tab 1 0).1 (pk_tab 1 0).2.1 (pk_tab 1 0).2.2.1 ∈ pk_tbl := pk_tb (List.mem_of_getElem? (i := 163) (by decide +kernel)) (by decide +kernel)
theorem cl_X6_40 : Cond.classLink RX6 40 (pk_cls 0) ∈ pk_tbl := pk_tb (List.mem_of_getElem? (i := 167) (by decide +kernel)) (by decide +kernel)
theorem in_X0 : Cond.instantiable (pk_cls 0) (pk_fn 0) ∈ pk_tbl := pk_tb (List.mem_of_getElem? (i := 168) (by decide +kernel)) (by decide +kernel)
theorem ml_X6_42 : pk_ML RX6 42 yX0_init := Or.inr ⟨"PartedInks", pk_tb (List.mem_of_getElem? (i := 169) (by decide +kernel)) (by decide +kernel)⟩
theorem mo_X0_3 : Cond.methodLink RX0 3 objectInit ∈ pk_tbl := pk_tb (List.mem_of_getElem? (i := 172) (by decide +kernel)) (by decide +kernel)
theorem fl_X0_9 : pk_FL RX0 9 0 0 := ⟨by decide, by decide, Or.inl (pk_tb (List.mem_of_getElem? (i := 173) (by decide +kernel)) (by decide +kernel))⟩
theorem fw_X0_9 : Cond.fieldLink RX0 9 (pk_tab 0 0).1 (pk_tab 0 0).2.1 (pk_tab 0 0).2.2.1 ∈ pk_tbl := pk_tb (List.mem_of_getElem? (i := 173) (by decide +kernel)) (by decide +kernel)
theorem fl_X0_15 : pk_FL RX0 15 0 1 := ⟨by decide, by decide, Or.inl (pk_tb (List.mem_of_getElem? (i := 174) (by decide +kernel)) (by decide +kernel))⟩
theorem fw_X0_15 : Cond.fieldLink RX0 15 (pk_tab 0 1).1 (pk_tab 0 1).2.1 (pk_tab 0 1).2.2.1 ∈ pk_tbl := pk_tb (List.mem_of_getElem? (i := 174) (by decide +kernel)) (by decide +kernel)
theorem fl_X0_18 : pk_FL RX0 18 0 2 := ⟨by decide, by decide, Or.inl (pk_tb (List.mem_of_getElem? (i := 175) (by decide +kernel)) (by decide +kernel))⟩
theorem fw_X0_18 : Cond.fieldLink RX0 18 (pk_tab 0 2).1 (pk_tab 0 2).2.1 (pk_tab 0 2).2.2.1 ∈ pk_tbl := pk_tb (List.mem_of_getElem? (i := 175) (by decide +kernel)) (by decide +kernel)
theorem fl_X0_21 : pk_FL RX0 21 0 3 := ⟨by decide, by decide, Or.inl (pk_tb (List.mem_of_getElem? (i := 176) (by decide +kernel)) (by decide +kernel))⟩
theorem fw_X0_21 : Cond.fieldLink RX0 21 (pk_tab 0 3).1 (pk_tab 0 3).2.1 (pk_tab 0 3).2.2.1 ∈ pk_tbl := pk_tb (List.mem_of_getElem? (i := 176) (by decide +kernel)) (by decide +kernel)
theorem fl_X0_24 : pk_FL RX0 24 0 4 := ⟨by decide, by decide, Or.inl (pk_tb (List.mem_of_getElem? (i := 177) (by decide +kernel)) (by decide +kernel))⟩
theorem fw_X0_24 : Cond.fieldLink RX0 24 (pk_tab 0 4).1 (pk_tab 0 4).2.1 (pk_tab 0 4).2.2.1 ∈ pk_tbl := pk_tb (List.mem_of_getElem? (i := 177) (by decide +kernel)) (by decide +kernel)
theorem fl_X0_28 : pk_FL RX0 28 0 5 := ⟨by decide, by decide, Or.inl (pk_tb (List.mem_of_getElem? (i := 178) (by decide +kernel)) (by decide +kernel))⟩
theorem fl_X0_32 : pk_FL RX0 32 0 6 := ⟨by decide, by decide, Or.inl (pk_tb (List.mem_of_getElem? (i := 179) (by decide +kernel)) (by decide +kernel))⟩
theorem fl_X6_112 : pk_FL RX6 112 0 6 := ⟨by decide, by decide, Or.inl (pk_tb (List.mem_of_getElem? (i := 180) (by decide +kernel)) (by decide +kernel))⟩
theorem ac_boolean : Cond.arrayClass .boolean ∈ pk_tbl := pk_tb (List.mem_of_getElem? (i := 196) (by decide +kernel)) (by decide +kernel)
theorem cl_X6_47 : Cond.classLink RX6 47 (pk_cls 5) ∈ pk_tbl := pk_tb (List.mem_of_getElem? (i := 197) (by decide +kernel)) (by decide +kernel)
theorem in_X5 : Cond.instantiable (pk_cls 5) (pk_fn 5) ∈ pk_tbl := pk_tb (List.mem_of_getElem? (i := 198) (by decide +kernel)) (by decide +kernel)
theorem ml_X6_49 : pk_ML RX6 49 yX5_init := Or.inr ⟨"PartedInks", pk_tb (List.mem_of_getElem? (i := 199) (by decide +kernel)) (by decide +kernel)⟩
theorem mo_X5_3 : Cond.methodLink RX5 3 objectInit ∈ pk_tbl := pk_tb (List.mem_of_getElem? (i := 202) (by decide +kernel)) (by decide +kernel)
theorem fl_X5_9 : pk_FL RX5 9 5 0 := ⟨by decide, by decide, Or.inl (pk_tb (List.mem_of_getElem? (i := 203) (by decide +kernel)) (by decide +kernel))⟩
theorem fw_X5_9 : Cond.fieldLink RX5 9 (pk_tab 5 0).1 (pk_tab 5 0).2.1 (pk_tab 5 0).2.2.1 ∈ pk_tbl := pk_tb (List.mem_of_getElem? (i := 203) (by decide +kernel)) (by decide +kernel)
theorem fl_X5_15 : pk_FL RX5 15 5 1 := ⟨by decide, by decide, Or.inl (pk_tb (List.mem_of_getElem? (i := 204) (by decide +kernel)) (by decide +kernel))⟩
theorem fw_X5_15 : Cond.fieldLink RX5 15 (pk_tab 5 1).1 (pk_tab 5 1).2.1 (pk_tab 5 1).2.2.1 ∈ pk_tbl := pk_tb (List.mem_of_getElem? (i := 204) (by decide +kernel)) (by decide +kernel)
theorem fl_X6_144 : pk_FL RX6 144 5 1 := ⟨by decide, by decide, Or.inl (pk_tb (List.mem_of_getElem? (i := 205) (by decide +kernel)) (by decide +kernel))⟩
theorem fw_X6_144 : Cond.fieldLink RX6 144 (pk_tab 5 1).1 (pk_tab 5 1).2.1 (pk_tab 5 1).2.2.1 ∈ pk_tbl := pk_tb (List.mem_of_getElem? (i := 205) (by decide +kernel)) (by decide +kernel)
theorem fl_X5_18 : pk_FL RX5 18 5 2 := ⟨by decide, by decide, Or.inl (pk_tb (List.mem_of_getElem? (i := 206) (by decide +kernel)) (by decide +kernel))⟩
theorem fl_X6_136 : pk_FL RX6 136 5 2 := ⟨by decide, by decide, Or.inl (pk_tb (List.mem_of_getElem? (i := 207) (by decide +kernel)) (by decide +kernel))⟩
theorem fl_X5_22 : pk_FL RX5 22 5 3 := ⟨by decide, by decide, Or.inl (pk_tb (List.mem_of_getElem? (i := 208) (by decide +kernel)) (by decide +kernel))⟩
theorem fl_X6_141 : pk_FL RX6 141 5 3 := ⟨by decide, by decide, Or.inl (pk_tb (List.mem_of_getElem? (i := 209) (by decide +kernel)) (by decide +kernel))⟩
theorem fl_X5_25 : pk_FL RX5 25 5 4 := ⟨by decide, by decide, Or.inl (pk_tb (List.mem_of_getElem? (i := 210) (by decide +kernel)) (by decide +kernel))⟩
theorem fl_X6_147 : pk_FL RX6 147 5 4 := ⟨by decide, by decide, Or.inl (pk_tb (List.mem_of_getElem? (i := 211) (by decide +kernel)) (by decide +kernel))⟩
theorem fl_X5_28 : pk_FL RX5 28 5 5 := ⟨by decide, by decide, Or.inl (pk_tb (List.mem_of_getElem? (i := 212) (by decide +kernel)) (by decide +kernel))⟩
theorem fl_X6_150 : pk_FL RX6 150 5 5 := ⟨by decide, by decide, Or.inl (pk_tb (List.mem_of_getElem? (i := 213) (by decide +kernel)) (by decide +kernel))⟩
theorem fl_X5_31 : pk_FL RX5 31 5 6 := ⟨by decide, by decide, Or.inl (pk_tb (List.mem_of_getElem? (i := 214) (by decide +kernel)) (by decide +kernel))⟩
theorem cl_X6_54 : Cond.classLink RX6 54 (pk_cls 3) ∈ pk_tbl := pk_tb (List.mem_of_getElem? (i := 230) (by decide +kernel)) (by decide +kernel)
theorem ao_X3 : Cond.arrayOver (.object RX3) ∈ pk_tbl := pk_tb (List.mem_of_getElem? (i := 231) (by decide +kernel)) (by decide +kernel)
theorem in_X3 : Cond.instantiable (pk_cls 3) (pk_fn 3) ∈ pk_tbl := pk_tb (List.mem_of_getElem? (i := 232) (by decide +kernel)) (by decide +kernel)
theorem ml_X6_70 : pk_ML RX6 70 yX3_init := Or.inr ⟨"PartedInks", pk_tb (List.mem_of_getElem? (i := 233) (by decide +kernel)) (by decide +kernel)⟩
theorem mo_X3_3 : Cond.methodLink RX3 3 objectInit ∈ pk_tbl := pk_tb (List.mem_of_getElem? (i := 236) (by decide +kernel)) (by decide +kernel)
theorem fl_X3_9 : pk_FL RX3 9 3 0 := ⟨by decide, by decide, Or.inl (pk_tb (List.mem_of_getElem? (i := 237) (by decide +kernel)) (by decide +kernel))⟩
theorem fw_X3_9 : Cond.fieldLink RX3 9 (pk_tab 3 0).1 (pk_tab 3 0).2.1 (pk_tab 3 0).2.2.1 ∈ pk_tbl := pk_tb (List.mem_of_getElem? (i := 237) (by decide +kernel)) (by decide +kernel)
theorem fl_X6_291 : pk_FL RX6 291 3 0 := ⟨by decide, by decide, Or.inl (pk_tb (List.mem_of_getElem? (i := 238) (by decide +kernel)) (by decide +kernel))⟩
theorem fw_X6_291 : Cond.fieldLink RX6 291 (pk_tab 3 0).1 (pk_tab 3 0).2.1 (pk_tab 3 0).2.2.1 ∈ pk_tbl := pk_tb (List.mem_of_getElem? (i := 238) (by decide +kernel)) (by decide +kernel)
theorem fl_X3_15 : pk_FL RX3 15 3 1 := ⟨by decide, by decide, Or.inl (pk_tb (List.mem_of_getElem? (i := 239) (by decide +kernel)) (by decide +kernel))⟩
theorem fl_X6_281 : pk_FL RX6 281 3 1 := ⟨by decide, by decide, Or.inl (pk_tb (List.mem_of_getElem? (i := 240) (by decide +kernel)) (by decide +kernel))⟩
theorem fl_X3_19 : pk_FL RX3 19 3 2 := ⟨by decide, by decide, Or.inl (pk_tb (List.mem_of_getElem? (i := 241) (by decide +kernel)) (by decide +kernel))⟩
theorem fl_X6_285 : pk_FL RX6 285 3 2 := ⟨by decide, by decide, Or.inl (pk_tb (List.mem_of_getElem? (i := 242) (by decide +kernel)) (by decide +kernel))⟩
theorem fl_X3_23 : pk_FL RX3 23 3 3 := ⟨by decide, by decide, Or.inl (pk_tb (List.mem_of_getElem? (i := 243) (by decide +kernel)) (by decide +kernel))⟩
theorem fl_X6_284 : pk_FL RX6 284 3 3 := ⟨by decide, by decide, Or.inl (pk_tb (List.mem_of_getElem? (i := 244) (by decide +kernel)) (by decide +kernel))⟩
theorem ac_long : Cond.arrayClass .long ∈ pk_tbl := pk_tb (List.mem_of_getElem? (i := 254) (by decide +kernel)) (by decide +kernel)
theorem fl_X6_10 : pk_FL RX6 10 6 0 := ⟨by decide, by decide, Or.inl (pk_tb (List.mem_of_getElem? (i := 255) (by decide +kernel)) (by decide +kernel))⟩
theorem fw_X6_10 : Cond.fieldLink RX6 10 (pk_tab 6 0).1 (pk_tab 6 0).2.1 (pk_tab 6 0).2.2.1 ∈ pk_tbl := pk_tb (List.mem_of_getElem? (i := 255) (by decide +kernel)) (by decide +kernel)
theorem fl_X6_19 : pk_FL RX6 19 6 1 := ⟨by decide, by decide, Or.inl (pk_tb (List.mem_of_getElem? (i := 256) (by decide +kernel)) (by decide +kernel))⟩
theorem fw_X6_19 : Cond.fieldLink RX6 19 (pk_tab 6 1).1 (pk_tab 6 1).2.1 (pk_tab 6 1).2.2.1 ∈ pk_tbl := pk_tb (List.mem_of_getElem? (i := 256) (by decide +kernel)) (by decide +kernel)
theorem fl_X6_23 : pk_FL RX6 23 6 2 := ⟨by decide, by decide, Or.inl (pk_tb (List.mem_of_getElem? (i := 257) (by decide +kernel)) (by decide +kernel))⟩
theorem fw_X6_23 : Cond.fieldLink RX6 23 (pk_tab 6 2).1 (pk_tab 6 2).2.1 (pk_tab 6 2).2.2.1 ∈ pk_tbl := pk_tb (List.mem_of_getElem? (i := 257) (by decide +kernel)) (by decide +kernel)
theorem fl_X6_26 : pk_FL RX6 26 6 3 := ⟨by decide, by decide, Or.inl (pk_tb (List.mem_of_getElem? (i := 258) (by decide +kernel)) (by decide +kernel))⟩
theorem fw_X6_26 : Cond.fieldLink RX6 26 (pk_tab 6 3).1 (pk_tab 6 3).2.1 (pk_tab 6 3).2.2.1 ∈ pk_tbl := pk_tb (List.mem_of_getElem? (i := 258) (by decide +kernel)) (by decide +kernel)
theorem fl_X6_29 : pk_FL RX6 29 6 4 := ⟨by decide, by decide, Or.inl (pk_tb (List.mem_of_getElem? (i := 259) (by decide +kernel)) (by decide +kernel))⟩
theorem fl_X6_36 : pk_FL RX6 36 6 5 := ⟨by decide, by decide, Or.inl (pk_tb (List.mem_of_getElem? (i := 260) (by decide +kernel)) (by decide +kernel))⟩
theorem fw_X6_36 : Cond.fieldLink RX6 36 (pk_tab 6 5).1 (pk_tab 6 5).2.1 (pk_tab 6 5).2.2.1 ∈ pk_tbl := pk_tb (List.mem_of_getElem? (i := 260) (by decide +kernel)) (by decide +kernel)
theorem fl_X6_43 : pk_FL RX6 43 6 6 := ⟨by decide, by decide, Or.inl (pk_tb (List.mem_of_getElem? (i := 261) (by decide +kernel)) (by decide +kernel))⟩
theorem fw_X6_43 : Cond.fieldLink RX6 43 (pk_tab 6 6).1 (pk_tab 6 6).2.1 (pk_tab 6 6).2.2.1 ∈ pk_tbl := pk_tb (List.mem_of_getElem? (i := 261) (by decide +kernel)) (by decide +kernel)
theorem fl_X6_50 : pk_FL RX6 50 6 7 := ⟨by decide, by decide, Or.inl (pk_tb (List.mem_of_getElem? (i := 262) (by decide +kernel)) (by decide +kernel))⟩
theorem fw_X6_50 : Cond.fieldLink RX6 50 (pk_tab 6 7).1 (pk_tab 6 7).2.1 (pk_tab 6 7).2.2.1 ∈ pk_tbl := pk_tb (List.mem_of_getElem? (i := 262) (by decide +kernel)) (by decide +kernel)
theorem fl_X6_56 : pk_FL RX6 56 6 8 := ⟨by decide, by decide, Or.inl (pk_tb (List.mem_of_getElem? (i := 263) (by decide +kernel)) (by decide +kernel))⟩
theorem fw_X6_56 : Cond.fieldLink RX6 56 (pk_tab 6 8).1 (pk_tab 6 8).2.1 (pk_tab 6 8).2.2.1 ∈ pk_tbl := pk_tb (List.mem_of_getElem? (i := 263) (by decide +kernel)) (by decide +kernel)
theorem fl_X6_60 : pk_FL RX6 60 6 9 := ⟨by decide, by decide, Or.inl (pk_tb (List.mem_of_getElem? (i := 264) (by decide +kernel)) (by decide +kernel))⟩
theorem fw_X6_60 : Cond.fieldLink RX6 60 (pk_tab 6 9).1 (pk_tab 6 9).2.1 (pk_tab 6 9).2.2.1 ∈ pk_tbl := pk_tb (List.mem_of_getElem? (i := 264) (by decide +kernel)) (by decide +kernel)
theorem fl_X6_64 : pk_FL RX6 64 6 10 := ⟨by decide, by decide, Or.inl (pk_tb (List.mem_of_getElem? (i := 265) (by decide +kernel)) (by decide +kernel))⟩
theorem fw_X6_64 : Cond.fieldLink RX6 64 (pk_tab 6 10).1 (pk_tab 6 10).2.1 (pk_tab 6 10).2.2.1 ∈ pk_tbl := pk_tb (List.mem_of_getElem? (i := 265) (by decide +kernel)) (by decide +kernel)
theorem fl_X6_67 : pk_FL RX6 67 6 11 := ⟨by decide, by decide, Or.inl (pk_tb (List.mem_of_getElem? (i := 266) (by decide +kernel)) (by decide +kernel))⟩
theorem fw_X6_67 : Cond.fieldLink RX6 67 (pk_tab 6 11).1 (pk_tab 6 11).2.1 (pk_tab 6 11).2.2.1 ∈ pk_tbl := pk_tb (List.mem_of_getElem? (i := 266) (by decide +kernel)) (by decide +kernel)
theorem ml_L_13 : pk_ML RL 13 yX6_ink := Or.inl (pk_tb (List.mem_of_getElem? (i := 292) (by decide +kernel)) (by decide +kernel))
theorem ml_X6_71 : pk_ML RX6 71 yX6_isBelow := Or.inl (pk_tb (List.mem_of_getElem? (i := 296) (by decide +kernel)) (by decide +kernel))
theorem ml_X6_81 : pk_ML RX6 81 yX4_placeInOrder := Or.inl (pk_tb (List.mem_of_getElem? (i := 299) (by decide +kernel)) (by decide +kernel))
theorem ml_X6_85 : pk_ML RX6 85 yX6_lookNow := Or.inl (pk_tb (List.mem_of_getElem? (i := 303) (by decide +kernel)) (by decide +kernel))
theorem ml_X6_307 : pk_ML RX6 307 yX6_lookBy := Or.inl (pk_tb (List.mem_of_getElem? (i := 307) (by decide +kernel)) (by decide +kernel))
theorem ml_X6_301 : pk_ML RX6 301 yX6_hasBit := Or.inl (pk_tb (List.mem_of_getElem? (i := 310) (by decide +kernel)) (by decide +kernel))
theorem ml_X6_304 : pk_ML RX6 304 yX6_printedOver := Or.inl (pk_tb (List.mem_of_getElem? (i := 313) (by decide +kernel)) (by decide +kernel))
theorem ml_X6_296 : pk_ML RX6 296 yJ9_min_7cf53 := Or.inl (pk_tb (List.mem_of_getElem? (i := 316) (by decide +kernel)) (by decide +kernel))
theorem ml_X6_88 : pk_ML RX6 88 yX6_darkOf := Or.inl (pk_tb (List.mem_of_getElem? (i := 319) (by decide +kernel)) (by decide +kernel))
theorem ml_X6_91 : pk_ML RX6 91 yX4_placesWithInk := Or.inl (pk_tb (List.mem_of_getElem? (i := 322) (by decide +kernel)) (by decide +kernel))
theorem ml_X4_51 : pk_ML RX4 51 yX6_hasBit := Or.inr ⟨"PartedInks", pk_tb (List.mem_of_getElem? (i := 326) (by decide +kernel)) (by decide +kernel)⟩
theorem ml_L_18 : pk_ML RL 18 yX6_set := Or.inl (pk_tb (List.mem_of_getElem? (i := 327) (by decide +kernel)) (by decide +kernel))
theorem ml_X6_94 : pk_ML RX6 94 yX6_alikeTo := Or.inl (pk_tb (List.mem_of_getElem? (i := 331) (by decide +kernel)) (by decide +kernel))
theorem ml_X6_311 : pk_ML RX6 311 yX1_find := Or.inl (pk_tb (List.mem_of_getElem? (i := 335) (by decide +kernel)) (by decide +kernel))
theorem ml_X1_26 : pk_ML RX1 26 yX6_lookBy := Or.inr ⟨"PartedInks", pk_tb (List.mem_of_getElem? (i := 339) (by decide +kernel)) (by decide +kernel)⟩
theorem ml_X6_312 : pk_ML RX6 312 yX1_alikeTo := Or.inl (pk_tb (List.mem_of_getElem? (i := 340) (by decide +kernel)) (by decide +kernel))
theorem ml_X1_30 : pk_ML RX1 30 yX6_isBelow := Or.inr ⟨"PartedInks", pk_tb (List.mem_of_getElem? (i := 344) (by decide +kernel)) (by decide +kernel)⟩
theorem ml_X6_97 : pk_ML RX6 97 yX4_placesOfSet := Or.inl (pk_tb (List.mem_of_getElem? (i := 345) (by decide +kernel)) (by decide +kernel))
theorem ml_X4_54 : pk_ML RX4 54 yX4_at := Or.inl (pk_tb (List.mem_of_getElem? (i := 349) (by decide +kernel)) (by decide +kernel))
theorem ml_X4_43 : pk_ML RX4 43 yX4_isInside := Or.inl (pk_tb (List.mem_of_getElem? (i := 353) (by decide +kernel)) (by decide +kernel))
theorem ml_X4_47 : pk_ML RX4 47 yX4_indexOf := Or.inl (pk_tb (List.mem_of_getElem? (i := 357) (by decide +kernel)) (by decide +kernel))
theorem ml_L_22 : pk_ML RL 22 yX6_place := Or.inl (pk_tb (List.mem_of_getElem? (i := 360) (by decide +kernel)) (by decide +kernel))
theorem ml_X6_100 : pk_ML RX6 100 yX4_isInside := Or.inl (pk_tb (List.mem_of_getElem? (i := 364) (by decide +kernel)) (by decide +kernel))
theorem ml_X6_103 : pk_ML RX6 103 yX4_at := Or.inl (pk_tb (List.mem_of_getElem? (i := 365) (by decide +kernel)) (by decide +kernel))
theorem ml_X6_107 : pk_ML RX6 107 yX0_find := Or.inl (pk_tb (List.mem_of_getElem? (i := 366) (by decide +kernel)) (by decide +kernel))
theorem ml_X0_43 : pk_ML RX0 43 yX0_at := Or.inl (pk_tb (List.mem_of_getElem? (i := 370) (by decide +kernel)) (by decide +kernel))
theorem ml_X0_56 : pk_ML RX0 56 yX4_indexOf := Or.inl (pk_tb (List.mem_of_getElem? (i := 374) (by decide +kernel)) (by decide +kernel))
theorem ml_X0_51 : pk_ML RX0 51 yX6_isBelow := Or.inr ⟨"PartedInks", pk_tb (List.mem_of_getElem? (i := 375) (by decide +kernel)) (by decide +kernel)⟩
theorem ml_X0_47 : pk_ML RX0 47 yX0_spreadFrom := Or.inl (pk_tb (List.mem_of_getElem? (i := 376) (by decide +kernel)) (by decide +kernel))
theorem ml_X0_55 : pk_ML RX0 55 yX4_at := Or.inl (pk_tb (List.mem_of_getElem? (i := 380) (by decide +kernel)) (by decide +kernel))
theorem ml_X0_59 : pk_ML RX0 59 yX0_join := Or.inl (pk_tb (List.mem_of_getElem? (i := 381) (by decide +kernel)) (by decide +kernel))
theorem gs_X0_63 : Cond.fieldLink RX0 63 RX6 "SIDE_X" "[I" ∈ pk_tbl ∨ ∃ host, Cond.fieldLinkNest RX0 63 RX6 "SIDE_X" "[I" host ∈ pk_tbl := Or.inr ⟨"PartedInks", pk_tb (List.mem_of_getElem? (i := 385) (by decide +kernel)) (by decide +kernel)⟩
theorem gs_X0_66 : Cond.fieldLink RX0 66 RX6 "SIDE_Y" "[I" ∈ pk_tbl ∨ ∃ host, Cond.fieldLinkNest RX0 66 RX6 "SIDE_Y" "[I" host ∈ pk_tbl := Or.inr ⟨"PartedInks", pk_tb (List.mem_of_getElem? (i := 387) (by decide +kernel)) (by decide +kernel)⟩
theorem ml_X0_69 : pk_ML RX0 69 yX4_isInside := Or.inl (pk_tb (List.mem_of_getElem? (i := 389) (by decide +kernel)) (by decide +kernel))
theorem ml_X6_111 : pk_ML RX6 111 yX0_at := Or.inl (pk_tb (List.mem_of_getElem? (i := 390) (by decide +kernel)) (by decide +kernel))
theorem ml_L_27 : pk_ML RL 27 yX6_area := Or.inl (pk_tb (List.mem_of_getElem? (i := 391) (by decide +kernel)) (by decide +kernel))
theorem ml_X6_116 : pk_ML RX6 116 yX0_firstX := Or.inl (pk_tb (List.mem_of_getElem? (i := 395) (by decide +kernel)) (by decide +kernel))
theorem ml_X6_119 : pk_ML RX6 119 yX0_firstY := Or.inl (pk_tb (List.mem_of_getElem? (i := 399) (by decide +kernel)) (by decide +kernel))
theorem ml_X6_122 : pk_ML RX6 122 yX0_placesOf := Or.inl (pk_tb (List.mem_of_getElem? (i := 403) (by decide +kernel)) (by decide +kernel))
theorem ml_X6_125 : pk_ML RX6 125 yX0_neighboursOf := Or.inl (pk_tb (List.mem_of_getElem? (i := 407) (by decide +kernel)) (by decide +kernel))
theorem ml_X0_76 : pk_ML RX0 76 yX0_meetBeside := Or.inl (pk_tb (List.mem_of_getElem? (i := 411) (by decide +kernel)) (by decide +kernel))
theorem ml_X6_129 : pk_ML RX6 129 yX0_greaterThan := Or.inl (pk_tb (List.mem_of_getElem? (i := 415) (by decide +kernel)) (by decide +kernel))
theorem ml_X0_72 : pk_ML RX0 72 yX0_placesOf := Or.inl (pk_tb (List.mem_of_getElem? (i := 419) (by decide +kernel)) (by decide +kernel))
theorem ml_L_31 : pk_ML RL 31 yX6_type := Or.inl (pk_tb (List.mem_of_getElem? (i := 420) (by decide +kernel)) (by decide +kernel))
theorem ml_X6_132 : pk_ML RX6 132 yX5_add := Or.inl (pk_tb (List.mem_of_getElem? (i := 424) (by decide +kernel)) (by decide +kernel))
theorem ml_X5_34 : pk_ML RX5 34 yX6_isBelow := Or.inr ⟨"PartedInks", pk_tb (List.mem_of_getElem? (i := 428) (by decide +kernel)) (by decide +kernel)⟩
theorem ml_L_36 : pk_ML RL 36 yX6_draw := Or.inl (pk_tb (List.mem_of_getElem? (i := 429) (by decide +kernel)) (by decide +kernel))
theorem ml_X6_137 : pk_ML RX6 137 yX5_read := Or.inl (pk_tb (List.mem_of_getElem? (i := 433) (by decide +kernel)) (by decide +kernel))
theorem ml_X5_38 : pk_ML RX5 38 yX5_begin := Or.inl (pk_tb (List.mem_of_getElem? (i := 437) (by decide +kernel)) (by decide +kernel))
theorem ml_X5_41 : pk_ML RX5 41 yX5_letterBehindBlanks := Or.inl (pk_tb (List.mem_of_getElem? (i := 441) (by decide +kernel)) (by decide +kernel))
theorem ml_X5_45 : pk_ML RX5 45 yX5_endLine := Or.inl (pk_tb (List.mem_of_getElem? (i := 445) (by decide +kernel)) (by decide +kernel))
theorem ml_X5_49 : pk_ML RX5 49 yX5_readRun := Or.inl (pk_tb (List.mem_of_getElem? (i := 449) (by decide +kernel)) (by decide +kernel))
theorem ml_X5_53 : pk_ML RX5 53 yX5_readSet := Or.inl (pk_tb (List.mem_of_getElem? (i := 453) (by decide +kernel)) (by decide +kernel))
theorem ml_X5_67 : pk_ML RX5 67 yX5_readManyInks := Or.inl (pk_tb (List.mem_of_getElem? (i := 457) (by decide +kernel)) (by decide +kernel))
theorem ml_X5_70 : pk_ML RX5 70 yX5_isInkLetter := Or.inl (pk_tb (List.mem_of_getElem? (i := 461) (by decide +kernel)) (by decide +kernel))
theorem ml_X5_57 : pk_ML RX5 57 yX5_writeNext := Or.inl (pk_tb (List.mem_of_getElem? (i := 464) (by decide +kernel)) (by decide +kernel))
theorem ml_X5_61 : pk_ML RX5 61 yX4_indexOf := Or.inl (pk_tb (List.mem_of_getElem? (i := 468) (by decide +kernel)) (by decide +kernel))
theorem ml_X6_153 : pk_ML RX6 153 yX4_become_ := Or.inl (pk_tb (List.mem_of_getElem? (i := 469) (by decide +kernel)) (by decide +kernel))
theorem mo_X4_37 : Cond.methodLink RX4 37 arraycopyName ∈ pk_tbl := pk_tb (List.mem_of_getElem? (i := 473) (by decide +kernel)) (by decide +kernel)
theorem nat_copy : Cond.native arraycopyName ∈ pk_tbl := pk_tb (List.mem_of_getElem? (i := 475) (by decide +kernel)) (by decide +kernel)
theorem ml_L_41 : pk_ML RL 41 yX6_count := Or.inl (pk_tb (List.mem_of_getElem? (i := 476) (by decide +kernel)) (by decide +kernel))
theorem ml_X6_167 : pk_ML RX6 167 yX6_figuresOf := Or.inl (pk_tb (List.mem_of_getElem? (i := 480) (by decide +kernel)) (by decide +kernel))
theorem ml_X6_171 : pk_ML RX6 171 yX6_unlikeLooks := Or.inl (pk_tb (List.mem_of_getElem? (i := 483) (by decide +kernel)) (by decide +kernel))
theorem ml_X6_313 : pk_ML RX6 313 yX4_setsDrawn := Or.inl (pk_tb (List.mem_of_getElem? (i := 487) (by decide +kernel)) (by decide +kernel))
theorem ml_X6_316 : pk_ML RX6 316 yX1_unlikeOf := Or.inl (pk_tb (List.mem_of_getElem? (i := 491) (by decide +kernel)) (by decide +kernel))
theorem ml_X1_38 : pk_ML RX1 38 yX6_hasBit := Or.inr ⟨"PartedInks", pk_tb (List.mem_of_getElem? (i := 495) (by decide +kernel)) (by decide +kernel)⟩
theorem ml_X1_41 : pk_ML RX1 41 yX1_isDrawnBelow := Or.inl (pk_tb (List.mem_of_getElem? (i := 496) (by decide +kernel)) (by decide +kernel))
theorem ml_X6_175 : pk_ML RX6 175 yX6_fewestInks := Or.inl (pk_tb (List.mem_of_getElem? (i := 500) (by decide +kernel)) (by decide +kernel))
theorem ml_X6_319 : pk_ML RX6 319 yX1_fewestFor := Or.inl (pk_tb (List.mem_of_getElem? (i := 504) (by decide +kernel)) (by decide +kernel))
theorem ml_X1_44 : pk_ML RX1 44 yJ6_bitCount_0f7a4 := Or.inl (pk_tb (List.mem_of_getElem? (i := 508) (by decide +kernel)) (by decide +kernel))
theorem kc_J6_265 : Cond.constant RJ6 265 (1431655765) ∈ pk_tbl := pk_tb (List.mem_of_getElem? (i := 511) (by decide +kernel)) (by decide +kernel)
theorem kc_J6_266 : Cond.constant RJ6 266 (858993459) ∈ pk_tbl := pk_tb (List.mem_of_getElem? (i := 512) (by decide +kernel)) (by decide +kernel)
theorem kc_J6_267 : Cond.constant RJ6 267 (252645135) ∈ pk_tbl := pk_tb (List.mem_of_getElem? (i := 513) (by decide +kernel)) (by decide +kernel)
theorem ml_X1_49 : pk_ML RX1 49 yX1_canPrintAll := Or.inl (pk_tb (List.mem_of_getElem? (i := 514) (by decide +kernel)) (by decide +kernel))
theorem ml_X1_52 : pk_ML RX1 52 yX1_canPrint := Or.inl (pk_tb (List.mem_of_getElem? (i := 518) (by decide +kernel)) (by decide +kernel))
theorem ml_X6_178 : pk_ML RX6 178 yX6_worstAside := Or.inl (pk_tb (List.mem_of_getElem? (i := 522) (by decide +kernel)) (by decide +kernel))
theorem ml_X6_233 : pk_ML RX6 233 yX6_gapsBy := Or.inl (pk_tb (List.mem_of_getElem? (i := 526) (by decide +kernel)) (by decide +kernel))
theorem ml_X6_237 : pk_ML RX6 237 yX6_printedBy := Or.inl (pk_tb (List.mem_of_getElem? (i := 530) (by decide +kernel)) (by decide +kernel))
theorem ml_X6_181 : pk_ML RX6 181 yX6_worstGaps := Or.inl (pk_tb (List.mem_of_getElem? (i := 534) (by decide +kernel)) (by decide +kernel))
theorem ml_X6_184 : pk_ML RX6 184 yX6_ordersAlike := Or.inl (pk_tb (List.mem_of_getElem? (i := 538) (by decide +kernel)) (by decide +kernel))
theorem ml_X6_322 : pk_ML RX6 322 yX6_isAlikeByOrder := Or.inl (pk_tb (List.mem_of_getElem? (i := 542) (by decide +kernel)) (by decide +kernel))
theorem ml_X6_325 : pk_ML RX6 325 yX6_writeOrder := Or.inl (pk_tb (List.mem_of_getElem? (i := 546) (by decide +kernel)) (by decide +kernel))
theorem gs_X6_332 : Cond.fieldLink RX6 332 RX6 "ORDERS_BEHIND" "[I" ∈ pk_tbl ∨ ∃ host, Cond.fieldLinkNest RX6 332 RX6 "ORDERS_BEHIND" "[I" host ∈ pk_tbl := Or.inl (pk_tb (List.mem_of_getElem? (i := 549) (by decide +kernel)) (by decide +kernel))
theorem ml_X6_335 : pk_ML RX6 335 yJ9_max_7cf53 := Or.inl (pk_tb (List.mem_of_getElem? (i := 551) (by decide +kernel)) (by decide +kernel))
theorem ml_X6_338 : pk_ML RX6 338 yX6_nthInk := Or.inl (pk_tb (List.mem_of_getElem? (i := 554) (by decide +kernel)) (by decide +kernel))
theorem ml_X6_187 : pk_ML RX6 187 yX6_firstOrderAlike := Or.inl (pk_tb (List.mem_of_getElem? (i := 557) (by decide +kernel)) (by decide +kernel))
theorem ml_X6_190 : pk_ML RX6 190 yX6_orderByDark := Or.inl (pk_tb (List.mem_of_getElem? (i := 561) (by decide +kernel)) (by decide +kernel))
theorem ml_X6_341 : pk_ML RX6 341 yX6_lighterInks := Or.inl (pk_tb (List.mem_of_getElem? (i := 565) (by decide +kernel)) (by decide +kernel))
theorem ml_X6_193 : pk_ML RX6 193 yX4_inksDrawn := Or.inl (pk_tb (List.mem_of_getElem? (i := 569) (by decide +kernel)) (by decide +kernel))
theorem ml_L_45 : pk_ML RL 45 yX6_tell := Or.inl (pk_tb (List.mem_of_getElem? (i := 573) (by decide +kernel)) (by decide +kernel))
theorem ml_X6_196 : pk_ML RX6 196 yX2_keep := Or.inl (pk_tb (List.mem_of_getElem? (i := 577) (by decide +kernel)) (by decide +kernel))
theorem ml_X2_22 : pk_ML RX2 22 yX2_loseOldest := Or.inl (pk_tb (List.mem_of_getElem? (i := 581) (by decide +kernel)) (by decide +kernel))
theorem ml_X2_25 : pk_ML RX2 25 yX6_isBelow := Or.inr ⟨"PartedInks", pk_tb (List.mem_of_getElem? (i := 585) (by decide +kernel)) (by decide +kernel)⟩
theorem ml_X2_29 : pk_ML RX2 29 yX4_become := Or.inl (pk_tb (List.mem_of_getElem? (i := 586) (by decide +kernel)) (by decide +kernel))
theorem ml_L_49 : pk_ML RL 49 yX6_order := Or.inl (pk_tb (List.mem_of_getElem? (i := 590) (by decide +kernel)) (by decide +kernel))
theorem ml_X6_199 : pk_ML RX6 199 yX6_isOrder := Or.inl (pk_tb (List.mem_of_getElem? (i := 594) (by decide +kernel)) (by decide +kernel))
theorem kc_X6_295 : Cond.constant RX6 295 (43210) ∈ pk_tbl := pk_tb (List.mem_of_getElem? (i := 597) (by decide +kernel)) (by decide +kernel)
theorem ml_L_53 : pk_ML RL 53 yX6_put := Or.inl (pk_tb (List.mem_of_getElem? (i := 598) (by decide +kernel)) (by decide +kernel))
theorem ml_X6_202 : pk_ML RX6 202 yX4_write := Or.inl (pk_tb (List.mem_of_getElem? (i := 602) (by decide +kernel)) (by decide +kernel))
theorem ml_L_57 : pk_ML RL 57 yX6_fill := Or.inl (pk_tb (List.mem_of_getElem? (i := 606) (by decide +kernel)) (by decide +kernel))
theorem ml_L_61 : pk_ML RL 61 yX6_grow := Or.inl (pk_tb (List.mem_of_getElem? (i := 610) (by decide +kernel)) (by decide +kernel))
theorem ml_X6_206 : pk_ML RX6 206 yX6_growAside := Or.inl (pk_tb (List.mem_of_getElem? (i := 614) (by decide +kernel)) (by decide +kernel))
theorem mo_X6_210 : Cond.methodLink RX6 210 arraycopyName ∈ pk_tbl := pk_tb (List.mem_of_getElem? (i := 618) (by decide +kernel)) (by decide +kernel)
theorem ml_X6_344 : pk_ML RX6 344 yX4_indexOf := Or.inl (pk_tb (List.mem_of_getElem? (i := 619) (by decide +kernel)) (by decide +kernel))
theorem ml_X6_347 : pk_ML RX6 347 yX6_growBetween := Or.inl (pk_tb (List.mem_of_getElem? (i := 620) (by decide +kernel)) (by decide +kernel))
theorem ml_X6_350 : pk_ML RX6 350 yX1_darkOfSet := Or.inl (pk_tb (List.mem_of_getElem? (i := 624) (by decide +kernel)) (by decide +kernel))
theorem ml_X1_34 : pk_ML RX1 34 yX6_darkOf := Or.inr ⟨"PartedInks", pk_tb (List.mem_of_getElem? (i := 628) (by decide +kernel)) (by decide +kernel)⟩
theorem ml_L_65 : pk_ML RL 65 yX6_size := Or.inl (pk_tb (List.mem_of_getElem? (i := 629) (by decide +kernel)) (by decide +kernel))
theorem ml_X6_216 : pk_ML RX6 216 yX4_clearOutside := Or.inl (pk_tb (List.mem_of_getElem? (i := 633) (by decide +kernel)) (by decide +kernel))
theorem ml_L_69 : pk_ML RL 69 yX6_drift := Or.inl (pk_tb (List.mem_of_getElem? (i := 637) (by decide +kernel)) (by decide +kernel))
theorem ml_X6_219 : pk_ML RX6 219 yX6_driftOnce := Or.inl (pk_tb (List.mem_of_getElem? (i := 641) (by decide +kernel)) (by decide +kernel))
theorem kc_X6_353 : Cond.constantLong RX6 353 (1103515245) ∈ pk_tbl := pk_tb (List.mem_of_getElem? (i := 645) (by decide +kernel)) (by decide +kernel)
theorem kc_X6_355 : Cond.constantLong RX6 355 (12345) ∈ pk_tbl := pk_tb (List.mem_of_getElem? (i := 646) (by decide +kernel)) (by decide +kernel)
theorem kc_X6_357 : Cond.constantLong RX6 357 (2147483647) ∈ pk_tbl := pk_tb (List.mem_of_getElem? (i := 647) (by decide +kernel)) (by decide +kernel)
theorem kc_X6_359 : Cond.constant RX6 359 (65536) ∈ pk_tbl := pk_tb (List.mem_of_getElem? (i := 648) (by decide +kernel)) (by decide +kernel)
theorem ml_L_73 : pk_ML RL 73 yX6_undo := Or.inl (pk_tb (List.mem_of_getElem? (i := 649) (by decide +kernel)) (by decide +kernel))
theorem ml_X6_222 : pk_ML RX6 222 yX2_bring := Or.inl (pk_tb (List.mem_of_getElem? (i := 653) (by decide +kernel)) (by decide +kernel))
theorem ml_L_77 : pk_ML RL 77 yX6_seed := Or.inl (pk_tb (List.mem_of_getElem? (i := 657) (by decide +kernel)) (by decide +kernel))
theorem ml_L_81 : pk_ML RL 81 yX6_gaps := Or.inl (pk_tb (List.mem_of_getElem? (i := 661) (by decide +kernel)) (by decide +kernel))
theorem ml_X6_229 : pk_ML RX6 229 yX6_isPlateAside := Or.inl (pk_tb (List.mem_of_getElem? (i := 665) (by decide +kernel)) (by decide +kernel))
theorem ml_L_85 : pk_ML RL 85 yX6_aside := Or.inl (pk_tb (List.mem_of_getElem? (i := 668) (by decide +kernel)) (by decide +kernel))
theorem ml_L_90 : pk_ML RL 90 yX6_fail := Or.inl (pk_tb (List.mem_of_getElem? (i := 672) (by decide +kernel)) (by decide +kernel))
theorem ml_X6_241 : pk_ML RX6 241 yX6_gaplessOdds := Or.inl (pk_tb (List.mem_of_getElem? (i := 676) (by decide +kernel)) (by decide +kernel))
theorem ml_X6_360 : pk_ML RX6 360 yX6_leavesGap := Or.inl (pk_tb (List.mem_of_getElem? (i := 680) (by decide +kernel)) (by decide +kernel))
theorem ml_X6_244 : pk_ML RX6 244 yJ6_bitCount_0f7a4 := Or.inl (pk_tb (List.mem_of_getElem? (i := 683) (by decide +kernel)) (by decide +kernel))
theorem ml_X6_249 : pk_ML RX6 249 yX6_power := Or.inl (pk_tb (List.mem_of_getElem? (i := 684) (by decide +kernel)) (by decide +kernel))
theorem ml_X6_252 : pk_ML RX6 252 yX6_commonDivisor := Or.inl (pk_tb (List.mem_of_getElem? (i := 687) (by decide +kernel)) (by decide +kernel))
theorem ml_L_94 : pk_ML RL 94 yX6_image := Or.inl (pk_tb (List.mem_of_getElem? (i := 690) (by decide +kernel)) (by decide +kernel))
theorem ml_X6_255 : pk_ML RX6 255 yX4_become := Or.inl (pk_tb (List.mem_of_getElem? (i := 694) (by decide +kernel)) (by decide +kernel))
theorem ml_X6_257 : pk_ML RX6 257 yX2_become := Or.inl (pk_tb (List.mem_of_getElem? (i := 695) (by decide +kernel)) (by decide +kernel))
theorem ml_L_98 : pk_ML RL 98 yX6_restore := Or.inl (pk_tb (List.mem_of_getElem? (i := 699) (by decide +kernel)) (by decide +kernel))
theorem ml_L_102 : pk_ML RL 102 yX6_seen := Or.inl (pk_tb (List.mem_of_getElem? (i := 703) (by decide +kernel)) (by decide +kernel))
theorem ml_X6_260 : pk_ML RX6 260 yX6_isTaking := Or.inl (pk_tb (List.mem_of_getElem? (i := 707) (by decide +kernel)) (by decide +kernel))
theorem ml_X6_263 : pk_ML RX6 263 yX3_whyNot := Or.inl (pk_tb (List.mem_of_getElem? (i := 710) (by decide +kernel)) (by decide +kernel))
theorem ml_X3_26 : pk_ML RX3 26 yX3_hasItems := Or.inl (pk_tb (List.mem_of_getElem? (i := 714) (by decide +kernel)) (by decide +kernel))
theorem ml_X6_266 : pk_ML RX6 266 yX6_tellsSets := Or.inl (pk_tb (List.mem_of_getElem? (i := 718) (by decide +kernel)) (by decide +kernel))
theorem ml_X6_363 : pk_ML RX6 363 yX3_at := Or.inl (pk_tb (List.mem_of_getElem? (i := 721) (by decide +kernel)) (by decide +kernel))
theorem ml_X3_30 : pk_ML RX3 30 yX6_isBelow := Or.inr ⟨"PartedInks", pk_tb (List.mem_of_getElem? (i := 725) (by decide +kernel)) (by decide +kernel)⟩
theorem kc_X6_366 : Cond.constantLong RX6 366 (32) ∈ pk_tbl := pk_tb (List.mem_of_getElem? (i := 726) (by decide +kernel)) (by decide +kernel)
theorem ml_X6_270 : pk_ML RX6 270 yX6_kindsSeen := Or.inl (pk_tb (List.mem_of_getElem? (i := 727) (by decide +kernel)) (by decide +kernel))
theorem ml_X6_368 : pk_ML RX6 368 yX6_looksAsTold := Or.inl (pk_tb (List.mem_of_getElem? (i := 731) (by decide +kernel)) (by decide +kernel))
theorem ml_L_106 : pk_ML RL 106 yX6_film := Or.inl (pk_tb (List.mem_of_getElem? (i := 735) (by decide +kernel)) (by decide +kernel))
theorem ml_X6_274 : pk_ML RX6 274 yX3_write := Or.inl (pk_tb (List.mem_of_getElem? (i := 739) (by decide +kernel)) (by decide +kernel))
theorem ml_X3_33 : pk_ML RX3 33 yX3_lowestBits := Or.inl (pk_tb (List.mem_of_getElem? (i := 743) (by decide +kernel)) (by decide +kernel))
theorem ml_L_111 : pk_ML RL 111 yX6_sheet := Or.inl (pk_tb (List.mem_of_getElem? (i := 747) (by decide +kernel)) (by decide +kernel))
theorem ml_X6_277 : pk_ML RX6 277 yX3_begin := Or.inl (pk_tb (List.mem_of_getElem? (i := 751) (by decide +kernel)) (by decide +kernel))
theorem ml_L_115 : pk_ML RL 115 yX6_drop := Or.inl (pk_tb (List.mem_of_getElem? (i := 755) (by decide +kernel)) (by decide +kernel))
theorem ml_L_121 : pk_ML RL 121 yX6_item := Or.inl (pk_tb (List.mem_of_getElem? (i := 759) (by decide +kernel)) (by decide +kernel))
theorem ml_L_126 : pk_ML RL 126 yX6_copy := Or.inl (pk_tb (List.mem_of_getElem? (i := 763) (by decide +kernel)) (by decide +kernel))
theorem ml_X6_288 : pk_ML RX6 288 yX3_hasItems := Or.inl (pk_tb (List.mem_of_getElem? (i := 767) (by decide +kernel)) (by decide +kernel))
theorem cl_L_10 : Cond.classLink RL 10 (pk_cls 7) ∈ pk_tbl := pk_tb (List.mem_of_getElem? (i := 768) (by decide +kernel)) (by decide +kernel)
theorem in_X7 : Cond.instantiable (pk_cls 7) (pk_fn 7) ∈ pk_tbl := pk_tb (List.mem_of_getElem? (i := 769) (by decide +kernel)) (by decide +kernel)
theorem ml_L_12 : pk_ML RL 12 yX7_init := Or.inl (pk_tb (List.mem_of_getElem? (i := 770) (by decide +kernel)) (by decide +kernel))
theorem mo_X7_1 : Cond.methodLink RX7 1 objectInit ∈ pk_tbl := pk_tb (List.mem_of_getElem? (i := 773) (by decide +kernel)) (by decide +kernel)
theorem fl_X7_7 : pk_FL RX7 7 7 0 := ⟨by decide, by decide, Or.inl (pk_tb (List.mem_of_getElem? (i := 774) (by decide +kernel)) (by decide +kernel))⟩
theorem fw_X7_7 : Cond.fieldLink RX7 7 (pk_tab 7 0).1 (pk_tab 7 0).2.1 (pk_tab 7 0).2.2.1 ∈ pk_tbl := pk_tb (List.mem_of_getElem? (i := 774) (by decide +kernel)) (by decide +kernel)
theorem fl_X7_13 : pk_FL RX7 13 7 1 := ⟨by decide, by decide, Or.inl (pk_tb (List.mem_of_getElem? (i := 775) (by decide +kernel)) (by decide +kernel))⟩
theorem fw_X7_13 : Cond.fieldLink RX7 13 (pk_tab 7 1).1 (pk_tab 7 1).2.1 (pk_tab 7 1).2.2.1 ∈ pk_tbl := pk_tb (List.mem_of_getElem? (i := 775) (by decide +kernel)) (by decide +kernel)
theorem fl_X7_16 : pk_FL RX7 16 7 2 := ⟨by decide, by decide, Or.inl (pk_tb (List.mem_of_getElem? (i := 776) (by decide +kernel)) (by decide +kernel))⟩
theorem fw_X7_16 : Cond.fieldLink RX7 16 (pk_tab 7 2).1 (pk_tab 7 2).2.1 (pk_tab 7 2).2.2.1 ∈ pk_tbl := pk_tb (List.mem_of_getElem? (i := 776) (by decide +kernel)) (by decide +kernel)
theorem fl_X7_19 : pk_FL RX7 19 7 3 := ⟨by decide, by decide, Or.inl (pk_tb (List.mem_of_getElem? (i := 777) (by decide +kernel)) (by decide +kernel))⟩
theorem fw_X7_19 : Cond.fieldLink RX7 19 (pk_tab 7 3).1 (pk_tab 7 3).2.1 (pk_tab 7 3).2.2.1 ∈ pk_tbl := pk_tb (List.mem_of_getElem? (i := 777) (by decide +kernel)) (by decide +kernel)
theorem fl_X7_22 : pk_FL RX7 22 7 4 := ⟨by decide, by decide, Or.inl (pk_tb (List.mem_of_getElem? (i := 778) (by decide +kernel)) (by decide +kernel))⟩
theorem fw_X7_22 : Cond.fieldLink RX7 22 (pk_tab 7 4).1 (pk_tab 7 4).2.1 (pk_tab 7 4).2.2.1 ∈ pk_tbl := pk_tb (List.mem_of_getElem? (i := 778) (by decide +kernel)) (by decide +kernel)
theorem fl_X7_199 : pk_FL RX7 199 7 5 := ⟨by decide, by decide, Or.inl (pk_tb (List.mem_of_getElem? (i := 779) (by decide +kernel)) (by decide +kernel))⟩
theorem fl_X7_25 : pk_FL RX7 25 7 6 := ⟨by decide, by decide, Or.inl (pk_tb (List.mem_of_getElem? (i := 780) (by decide +kernel)) (by decide +kernel))⟩
theorem fw_X7_25 : Cond.fieldLink RX7 25 (pk_tab 7 6).1 (pk_tab 7 6).2.1 (pk_tab 7 6).2.2.1 ∈ pk_tbl := pk_tb (List.mem_of_getElem? (i := 780) (by decide +kernel)) (by decide +kernel)
theorem fl_X7_28 : pk_FL RX7 28 7 7 := ⟨by decide, by decide, Or.inl (pk_tb (List.mem_of_getElem? (i := 781) (by decide +kernel)) (by decide +kernel))⟩
theorem fw_X7_28 : Cond.fieldLink RX7 28 (pk_tab 7 7).1 (pk_tab 7 7).2.1 (pk_tab 7 7).2.2.1 ∈ pk_tbl := pk_tb (List.mem_of_getElem? (i := 781) (by decide +kernel)) (by decide +kernel)
theorem fl_X7_238 : pk_FL RX7 238 7 8 := ⟨by decide, by decide, Or.inl (pk_tb (List.mem_of_getElem? (i := 782) (by decide +kernel)) (by decide +kernel))⟩
theorem fl_X7_241 : pk_FL RX7 241 7 9 := ⟨by decide, by decide, Or.inl (pk_tb (List.mem_of_getElem? (i := 783) (by decide +kernel)) (by decide +kernel))⟩
theorem fl_X7_31 : pk_FL RX7 31 7 10 := ⟨by decide, by decide, Or.inl (pk_tb (List.mem_of_getElem? (i := 784) (by decide +kernel)) (by decide +kernel))⟩
theorem fw_X7_31 : Cond.fieldLink RX7 31 (pk_tab 7 10).1 (pk_tab 7 10).2.1 (pk_tab 7 10).2.2.1 ∈ pk_tbl := pk_tb (List.mem_of_getElem? (i := 784) (by decide +kernel)) (by decide +kernel)
theorem fl_X7_264 : pk_FL RX7 264 7 11 := ⟨by decide, by decide, Or.inl (pk_tb (List.mem_of_getElem? (i := 785) (by decide +kernel)) (by decide +kernel))⟩
theorem fl_X7_258 : pk_FL RX7 258 7 12 := ⟨by decide, by decide, Or.inl (pk_tb (List.mem_of_getElem? (i := 786) (by decide +kernel)) (by decide +kernel))⟩
theorem fl_X7_261 : pk_FL RX7 261 7 13 := ⟨by decide, by decide, Or.inl (pk_tb (List.mem_of_getElem? (i := 787) (by decide +kernel)) (by decide +kernel))⟩
theorem fl_X7_34 : pk_FL RX7 34 7 14 := ⟨by decide, by decide, Or.inl (pk_tb (List.mem_of_getElem? (i := 788) (by decide +kernel)) (by decide +kernel))⟩
theorem fw_X7_34 : Cond.fieldLink RX7 34 (pk_tab 7 14).1 (pk_tab 7 14).2.1 (pk_tab 7 14).2.2.1 ∈ pk_tbl := pk_tb (List.mem_of_getElem? (i := 788) (by decide +kernel)) (by decide +kernel)
theorem fl_X7_37 : pk_FL RX7 37 7 15 := ⟨by decide, by decide, Or.inl (pk_tb (List.mem_of_getElem? (i := 789) (by decide +kernel)) (by decide +kernel))⟩
theorem fw_X7_37 : Cond.fieldLink RX7 37 (pk_tab 7 15).1 (pk_tab 7 15).2.1 (pk_tab 7 15).2.2.1 ∈ pk_tbl := pk_tb (List.mem_of_getElem? (i := 789) (by decide +kernel)) (by decide +kernel)
theorem fl_X7_40 : pk_FL RX7 40 7 16 := ⟨by decide, by decide, Or.inl (pk_tb (List.mem_of_getElem? (i := 790) (by decide +kernel)) (by decide +kernel))⟩
theorem fl_X7_44 : pk_FL RX7 44 7 17 := ⟨by decide, by decide, Or.inl (pk_tb (List.mem_of_getElem? (i := 791) (by decide +kernel)) (by decide +kernel))⟩
theorem fw_X7_44 : Cond.fieldLink RX7 44 (pk_tab 7 17).1 (pk_tab 7 17).2.1 (pk_tab 7 17).2.2.1 ∈ pk_tbl := pk_tb (List.mem_of_getElem? (i := 791) (by decide +kernel)) (by decide +kernel)
theorem fl_X7_47 : pk_FL RX7 47 7 18 := ⟨by decide, by decide, Or.inl (pk_tb (List.mem_of_getElem? (i := 792) (by decide +kernel)) (by decide +kernel))⟩
theorem fw_X7_47 : Cond.fieldLink RX7 47 (pk_tab 7 18).1 (pk_tab 7 18).2.1 (pk_tab 7 18).2.2.1 ∈ pk_tbl := pk_tb (List.mem_of_getElem? (i := 792) (by decide +kernel)) (by decide +kernel)
theorem fl_X7_50 : pk_FL RX7 50 7 19 := ⟨by decide, by decide, Or.inl (pk_tb (List.mem_of_getElem? (i := 793) (by decide +kernel)) (by decide +kernel))⟩
theorem fw_X7_50 : Cond.fieldLink RX7 50 (pk_tab 7 19).1 (pk_tab 7 19).2.1 (pk_tab 7 19).2.2.1 ∈ pk_tbl := pk_tb (List.mem_of_getElem? (i := 793) (by decide +kernel)) (by decide +kernel)
theorem fl_X7_54 : pk_FL RX7 54 7 20 := ⟨by decide, by decide, Or.inl (pk_tb (List.mem_of_getElem? (i := 794) (by decide +kernel)) (by decide +kernel))⟩
theorem fw_X7_54 : Cond.fieldLink RX7 54 (pk_tab 7 20).1 (pk_tab 7 20).2.1 (pk_tab 7 20).2.2.1 ∈ pk_tbl := pk_tb (List.mem_of_getElem? (i := 794) (by decide +kernel)) (by decide +kernel)
theorem ml_L_30 : pk_ML RL 30 yX7_area := Or.inl (pk_tb (List.mem_of_getElem? (i := 838) (by decide +kernel)) (by decide +kernel))
theorem ml_X7_120 : pk_ML RX7 120 yX7_areas := Or.inl (pk_tb (List.mem_of_getElem? (i := 842) (by decide +kernel)) (by decide +kernel))
theorem ml_X7_88 : pk_ML RX7 88 yX7_isIn := Or.inl (pk_tb (List.mem_of_getElem? (i := 846) (by decide +kernel)) (by decide +kernel))
theorem ml_X7_65 : pk_ML RX7 65 yX7_isPlace := Or.inl (pk_tb (List.mem_of_getElem? (i := 850) (by decide +kernel)) (by decide +kernel))
theorem ml_X7_59 : pk_ML RX7 59 yX7_in := Or.inl (pk_tb (List.mem_of_getElem? (i := 854) (by decide +kernel)) (by decide +kernel))
theorem ml_X7_108 : pk_ML RX7 108 yX7_leastBeside := Or.inl (pk_tb (List.mem_of_getElem? (i := 857) (by decide +kernel)) (by decide +kernel))
theorem ml_X7_104 : pk_ML RX7 104 yX7_beside := Or.inl (pk_tb (List.mem_of_getElem? (i := 861) (by decide +kernel)) (by decide +kernel))
theorem ml_X7_92 : pk_ML RX7 92 yX7_setAt := Or.inl (pk_tb (List.mem_of_getElem? (i := 865) (by decide +kernel)) (by decide +kernel))
theorem ml_X7_117 : pk_ML RX7 117 yX7_placesOfArea := Or.inl (pk_tb (List.mem_of_getElem? (i := 869) (by decide +kernel)) (by decide +kernel))
theorem ml_X7_111 : pk_ML RX7 111 yX7_isOf := Or.inl (pk_tb (List.mem_of_getElem? (i := 873) (by decide +kernel)) (by decide +kernel))
theorem ml_X7_124 : pk_ML RX7 124 yX7_neighbours := Or.inl (pk_tb (List.mem_of_getElem? (i := 877) (by decide +kernel)) (by decide +kernel))
theorem ml_X7_114 : pk_ML RX7 114 yX7_isBeside := Or.inl (pk_tb (List.mem_of_getElem? (i := 881) (by decide +kernel)) (by decide +kernel))
theorem ml_X7_127 : pk_ML RX7 127 yX7_greater := Or.inl (pk_tb (List.mem_of_getElem? (i := 885) (by decide +kernel)) (by decide +kernel))
theorem ml_L_17 : pk_ML RL 17 yX7_ink := Or.inl (pk_tb (List.mem_of_getElem? (i := 889) (by decide +kernel)) (by decide +kernel))
theorem ml_X7_130 : pk_ML RX7 130 yX7_isInk := Or.inl (pk_tb (List.mem_of_getElem? (i := 893) (by decide +kernel)) (by decide +kernel))
theorem kc_X7_57 : Cond.constantLong RX7 57 (4) ∈ pk_tbl := pk_tb (List.mem_of_getElem? (i := 896) (by decide +kernel)) (by decide +kernel)
theorem ml_X7_133 : pk_ML RX7 133 yX7_rankIn := Or.inl (pk_tb (List.mem_of_getElem? (i := 897) (by decide +kernel)) (by decide +kernel))
theorem ml_X7_136 : pk_ML RX7 136 yX7_dark := Or.inl (pk_tb (List.mem_of_getElem? (i := 900) (by decide +kernel)) (by decide +kernel))
theorem ml_X7_84 : pk_ML RX7 84 yX7_lookOf := Or.inl (pk_tb (List.mem_of_getElem? (i := 904) (by decide +kernel)) (by decide +kernel))
theorem ml_X7_80 : pk_ML RX7 80 yX7_lookBy := Or.inl (pk_tb (List.mem_of_getElem? (i := 908) (by decide +kernel)) (by decide +kernel))
theorem ml_X7_76 : pk_ML RX7 76 yX7_number := Or.inl (pk_tb (List.mem_of_getElem? (i := 912) (by decide +kernel)) (by decide +kernel))
theorem ml_X7_69 : pk_ML RX7 69 yX7_hasInk := Or.inl (pk_tb (List.mem_of_getElem? (i := 916) (by decide +kernel)) (by decide +kernel))
theorem ml_X7_72 : pk_ML RX7 72 yX7_over := Or.inl (pk_tb (List.mem_of_getElem? (i := 919) (by decide +kernel)) (by decide +kernel))
theorem ml_X7_139 : pk_ML RX7 139 yX7_placesWith := Or.inl (pk_tb (List.mem_of_getElem? (i := 922) (by decide +kernel)) (by decide +kernel))
theorem ml_L_21 : pk_ML RL 21 yX7_set := Or.inl (pk_tb (List.mem_of_getElem? (i := 926) (by decide +kernel)) (by decide +kernel))
theorem ml_X7_142 : pk_ML RX7 142 yX7_isSet := Or.inl (pk_tb (List.mem_of_getElem? (i := 930) (by decide +kernel)) (by decide +kernel))
theorem kc_X7_63 : Cond.constantLong RX7 63 (31) ∈ pk_tbl := pk_tb (List.mem_of_getElem? (i := 933) (by decide +kernel)) (by decide +kernel)
theorem ml_X7_146 : pk_ML RX7 146 yX7_alike := Or.inl (pk_tb (List.mem_of_getElem? (i := 934) (by decide +kernel)) (by decide +kernel))
theorem ml_X7_149 : pk_ML RX7 149 yX7_placesOf := Or.inl (pk_tb (List.mem_of_getElem? (i := 938) (by decide +kernel)) (by decide +kernel))
theorem ml_L_26 : pk_ML RL 26 yX7_place := Or.inl (pk_tb (List.mem_of_getElem? (i := 942) (by decide +kernel)) (by decide +kernel))
theorem kc_X7_152 : Cond.constantLong RX7 152 (2) ∈ pk_tbl := pk_tb (List.mem_of_getElem? (i := 946) (by decide +kernel)) (by decide +kernel)
theorem ml_X7_154 : pk_ML RX7 154 yX7_areaOf := Or.inl (pk_tb (List.mem_of_getElem? (i := 947) (by decide +kernel)) (by decide +kernel))
theorem ml_L_84 : pk_ML RL 84 yX7_gaps := Or.inl (pk_tb (List.mem_of_getElem? (i := 951) (by decide +kernel)) (by decide +kernel))
theorem ml_X7_162 : pk_ML RX7 162 yX7_isAside := Or.inl (pk_tb (List.mem_of_getElem? (i := 955) (by decide +kernel)) (by decide +kernel))
theorem kc_X7_160 : Cond.constantLong RX7 160 (-1) ∈ pk_tbl := pk_tb (List.mem_of_getElem? (i := 958) (by decide +kernel)) (by decide +kernel)
theorem ml_X7_166 : pk_ML RX7 166 yX7_gapsBy := Or.inl (pk_tb (List.mem_of_getElem? (i := 959) (by decide +kernel)) (by decide +kernel))
theorem ml_X7_157 : pk_ML RX7 157 yX7_printed := Or.inl (pk_tb (List.mem_of_getElem? (i := 963) (by decide +kernel)) (by decide +kernel))
theorem ml_L_89 : pk_ML RL 89 yX7_aside := Or.inl (pk_tb (List.mem_of_getElem? (i := 967) (by decide +kernel)) (by decide +kernel))
theorem ml_L_44 : pk_ML RL 44 yX7_count := Or.inl (pk_tb (List.mem_of_getElem? (i := 971) (by decide +kernel)) (by decide +kernel))
theorem ml_X7_178 : pk_ML RX7 178 yX7_looksOfAll := Or.inl (pk_tb (List.mem_of_getElem? (i := 975) (by decide +kernel)) (by decide +kernel))
theorem ml_X7_181 : pk_ML RX7 181 yX7_unlike := Or.inl (pk_tb (List.mem_of_getElem? (i := 979) (by decide +kernel)) (by decide +kernel))
theorem ml_X7_184 : pk_ML RX7 184 yX7_few := Or.inl (pk_tb (List.mem_of_getElem? (i := 983) (by decide +kernel)) (by decide +kernel))
theorem ml_X7_98 : pk_ML RX7 98 yX7_bits := Or.inl (pk_tb (List.mem_of_getElem? (i := 987) (by decide +kernel)) (by decide +kernel))
theorem ml_X7_101 : pk_ML RX7 101 yX7_canAll := Or.inl (pk_tb (List.mem_of_getElem? (i := 990) (by decide +kernel)) (by decide +kernel))
theorem ml_X7_95 : pk_ML RX7 95 yX7_canLook := Or.inl (pk_tb (List.mem_of_getElem? (i := 994) (by decide +kernel)) (by decide +kernel))
theorem ml_X7_187 : pk_ML RX7 187 yX7_worst := Or.inl (pk_tb (List.mem_of_getElem? (i := 998) (by decide +kernel)) (by decide +kernel))
theorem ml_X7_190 : pk_ML RX7 190 yX7_orders := Or.inl (pk_tb (List.mem_of_getElem? (i := 1002) (by decide +kernel)) (by decide +kernel))
theorem kc_X7_171 : Cond.constant RX7 171 (43210) ∈ pk_tbl := pk_tb (List.mem_of_getElem? (i := 1006) (by decide +kernel)) (by decide +kernel)
theorem ml_X7_172 : pk_ML RX7 172 yX7_isOrder := Or.inl (pk_tb (List.mem_of_getElem? (i := 1007) (by decide +kernel)) (by decide +kernel))
theorem kc_X7_169 : Cond.constantLong RX7 169 (43210) ∈ pk_tbl := pk_tb (List.mem_of_getElem? (i := 1010) (by decide +kernel)) (by decide +kernel)
theorem ml_X7_175 : pk_ML RX7 175 yX7_leaves := Or.inl (pk_tb (List.mem_of_getElem? (i := 1011) (by decide +kernel)) (by decide +kernel))
theorem ml_X7_193 : pk_ML RX7 193 yX7_byDark := Or.inl (pk_tb (List.mem_of_getElem? (i := 1015) (by decide +kernel)) (by decide +kernel))
theorem ml_X7_196 : pk_ML RX7 196 yX7_drawn := Or.inl (pk_tb (List.mem_of_getElem? (i := 1019) (by decide +kernel)) (by decide +kernel))
theorem ml_L_93 : pk_ML RL 93 yX7_fail := Or.inl (pk_tb (List.mem_of_getElem? (i := 1023) (by decide +kernel)) (by decide +kernel))
theorem kc_X7_202 : Cond.constantLong RX7 202 (10) ∈ pk_tbl := pk_tb (List.mem_of_getElem? (i := 1027) (by decide +kernel)) (by decide +kernel)
theorem ml_X7_204 : pk_ML RX7 204 yX7_isWhole := Or.inl (pk_tb (List.mem_of_getElem? (i := 1028) (by decide +kernel)) (by decide +kernel))
theorem ml_X7_207 : pk_ML RX7 207 yX7_parts := Or.inl (pk_tb (List.mem_of_getElem? (i := 1032) (by decide +kernel)) (by decide +kernel))
theorem ml_L_76 : pk_ML RL 76 yX7_undo := Or.inl (pk_tb (List.mem_of_getElem? (i := 1035) (by decide +kernel)) (by decide +kernel))
theorem ml_L_48 : pk_ML RL 48 yX7_tell := Or.inl (pk_tb (List.mem_of_getElem? (i := 1039) (by decide +kernel)) (by decide +kernel))
theorem kc_X7_210 : Cond.constantLong RX7 210 (3) ∈ pk_tbl := pk_tb (List.mem_of_getElem? (i := 1043) (by decide +kernel)) (by decide +kernel)
theorem kc_X7_212 : Cond.constantLong RX7 212 (4095) ∈ pk_tbl := pk_tb (List.mem_of_getElem? (i := 1044) (by decide +kernel)) (by decide +kernel)
theorem ml_X7_214 : pk_ML RX7 214 yX7_notes := Or.inl (pk_tb (List.mem_of_getElem? (i := 1045) (by decide +kernel)) (by decide +kernel))
theorem ml_L_52 : pk_ML RL 52 yX7_order := Or.inl (pk_tb (List.mem_of_getElem? (i := 1049) (by decide +kernel)) (by decide +kernel))
theorem ml_L_56 : pk_ML RL 56 yX7_put := Or.inl (pk_tb (List.mem_of_getElem? (i := 1053) (by decide +kernel)) (by decide +kernel))
theorem ml_L_60 : pk_ML RL 60 yX7_fill := Or.inl (pk_tb (List.mem_of_getElem? (i := 1057) (by decide +kernel)) (by decide +kernel))
theorem ml_L_64 : pk_ML RL 64 yX7_grow := Or.inl (pk_tb (List.mem_of_getElem? (i := 1061) (by decide +kernel)) (by decide +kernel))
theorem ml_X7_217 : pk_ML RX7 217 yX7_comesTo := Or.inl (pk_tb (List.mem_of_getElem? (i := 1065) (by decide +kernel)) (by decide +kernel))
theorem ml_L_68 : pk_ML RL 68 yX7_size := Or.inl (pk_tb (List.mem_of_getElem? (i := 1069) (by decide +kernel)) (by decide +kernel))
theorem kc_X7_220 : Cond.constantLong RX7 220 (8) ∈ pk_tbl := pk_tb (List.mem_of_getElem? (i := 1073) (by decide +kernel)) (by decide +kernel)
theorem kc_X7_222 : Cond.constantLong RX7 222 (6) ∈ pk_tbl := pk_tb (List.mem_of_getElem? (i := 1074) (by decide +kernel)) (by decide +kernel)
theorem ml_L_72 : pk_ML RL 72 yX7_drift := Or.inl (pk_tb (List.mem_of_getElem? (i := 1075) (by decide +kernel)) (by decide +kernel))
theorem kc_X7_224 : Cond.constantLong RX7 224 (40) ∈ pk_tbl := pk_tb (List.mem_of_getElem? (i := 1079) (by decide +kernel)) (by decide +kernel)
theorem kc_X7_226 : Cond.constantLong RX7 226 (1103515245) ∈ pk_tbl := pk_tb (List.mem_of_getElem? (i := 1080) (by decide +kernel)) (by decide +kernel)
theorem kc_X7_228 : Cond.constantLong RX7 228 (12345) ∈ pk_tbl := pk_tb (List.mem_of_getElem? (i := 1081) (by decide +kernel)) (by decide +kernel)
theorem kc_X7_230 : Cond.constantLong RX7 230 (2147483648) ∈ pk_tbl := pk_tb (List.mem_of_getElem? (i := 1082) (by decide +kernel)) (by decide +kernel)
theorem kc_X7_232 : Cond.constantLong RX7 232 (65536) ∈ pk_tbl := pk_tb (List.mem_of_getElem? (i := 1083) (by decide +kernel)) (by decide +kernel)
theorem ml_L_80 : pk_ML RL 80 yX7_seed := Or.inl (pk_tb (List.mem_of_getElem? (i := 1084) (by decide +kernel)) (by decide +kernel))
theorem ml_L_35 : pk_ML RL 35 yX7_type := Or.inl (pk_tb (List.mem_of_getElem? (i := 1088) (by decide +kernel)) (by decide +kernel))
theorem kc_X7_234 : Cond.constantLong RX7 234 (32) ∈ pk_tbl := pk_tb (List.mem_of_getElem? (i := 1092) (by decide +kernel)) (by decide +kernel)
theorem kc_X7_236 : Cond.constantLong RX7 236 (126) ∈ pk_tbl := pk_tb (List.mem_of_getElem? (i := 1093) (by decide +kernel)) (by decide +kernel)
theorem ml_L_40 : pk_ML RL 40 yX7_draw := Or.inl (pk_tb (List.mem_of_getElem? (i := 1094) (by decide +kernel)) (by decide +kernel))
theorem ml_X7_277 : pk_ML RX7 277 yX7_isText := Or.inl (pk_tb (List.mem_of_getElem? (i := 1098) (by decide +kernel)) (by decide +kernel))
theorem ml_X7_274 : pk_ML RX7 274 yX7_readsLine := Or.inl (pk_tb (List.mem_of_getElem? (i := 1102) (by decide +kernel)) (by decide +kernel))
theorem ml_X7_267 : pk_ML RX7 267 yX7_isRun := Or.inl (pk_tb (List.mem_of_getElem? (i := 1106) (by decide +kernel)) (by decide +kernel))
theorem ml_X7_244 : pk_ML RX7 244 yX7_here := Or.inl (pk_tb (List.mem_of_getElem? (i := 1110) (by decide +kernel)) (by decide +kernel))
theorem kc_X7_247 : Cond.constantLong RX7 247 (49) ∈ pk_tbl := pk_tb (List.mem_of_getElem? (i := 1114) (by decide +kernel)) (by decide +kernel)
theorem kc_X7_249 : Cond.constantLong RX7 249 (56) ∈ pk_tbl := pk_tb (List.mem_of_getElem? (i := 1115) (by decide +kernel)) (by decide +kernel)
theorem kc_X7_251 : Cond.constantLong RX7 251 (97) ∈ pk_tbl := pk_tb (List.mem_of_getElem? (i := 1116) (by decide +kernel)) (by decide +kernel)
theorem kc_X7_253 : Cond.constantLong RX7 253 (101) ∈ pk_tbl := pk_tb (List.mem_of_getElem? (i := 1117) (by decide +kernel)) (by decide +kernel)
theorem ml_X7_271 : pk_ML RX7 271 yX7_readsRun := Or.inl (pk_tb (List.mem_of_getElem? (i := 1118) (by decide +kernel)) (by decide +kernel))
theorem ml_X7_255 : pk_ML RX7 255 yX7_readsSet := Or.inl (pk_tb (List.mem_of_getElem? (i := 1122) (by decide +kernel)) (by decide +kernel))
theorem ml_L_97 : pk_ML RL 97 yX7_image := Or.inl (pk_tb (List.mem_of_getElem? (i := 1126) (by decide +kernel)) (by decide +kernel))
theorem ml_L_101 : pk_ML RL 101 yX7_restore := Or.inl (pk_tb (List.mem_of_getElem? (i := 1130) (by decide +kernel)) (by decide +kernel))
theorem ml_L_114 : pk_ML RL 114 yX7_sheet := Or.inl (pk_tb (List.mem_of_getElem? (i := 1134) (by decide +kernel)) (by decide +kernel))
theorem ml_X7_280 : pk_ML RX7 280 yX7_isSheet := Or.inl (pk_tb (List.mem_of_getElem? (i := 1138) (by decide +kernel)) (by decide +kernel))
theorem ml_L_118 : pk_ML RL 118 yX7_drop := Or.inl (pk_tb (List.mem_of_getElem? (i := 1141) (by decide +kernel)) (by decide +kernel))
theorem ml_L_125 : pk_ML RL 125 yX7_item := Or.inl (pk_tb (List.mem_of_getElem? (i := 1145) (by decide +kernel)) (by decide +kernel))
theorem ml_X7_283 : pk_ML RX7 283 yX7_why := Or.inl (pk_tb (List.mem_of_getElem? (i := 1149) (by decide +kernel)) (by decide +kernel))
theorem ml_X7_286 : pk_ML RX7 286 yX7_cut := Or.inl (pk_tb (List.mem_of_getElem? (i := 1153) (by decide +kernel)) (by decide +kernel))
theorem ml_L_129 : pk_ML RL 129 yX7_copy := Or.inl (pk_tb (List.mem_of_getElem? (i := 1156) (by decide +kernel)) (by decide +kernel))
theorem ml_L_105 : pk_ML RL 105 yX7_seen := Or.inl (pk_tb (List.mem_of_getElem? (i := 1160) (by decide +kernel)) (by decide +kernel))
theorem ml_X7_290 : pk_ML RX7 290 yX7_isSo := Or.inl (pk_tb (List.mem_of_getElem? (i := 1164) (by decide +kernel)) (by decide +kernel))
theorem ml_L_110 : pk_ML RL 110 yX7_film := Or.inl (pk_tb (List.mem_of_getElem? (i := 1168) (by decide +kernel)) (by decide +kernel))
theorem kc_L_119 : Cond.constantLong RL 119 (4294967295) ∈ pk_tbl := pk_tb (List.mem_of_getElem? (i := 1172) (by decide +kernel)) (by decide +kernel)
theorem it_X6 : Cond.initialized (pk_cls 6) ∈ pk_tbl := pk_tb (List.mem_of_getElem? (i := 77) (by decide +kernel)) (by decide +kernel)
theorem it_X4 : Cond.initialized (pk_cls 4) ∈ pk_tbl := pk_tb (List.mem_of_getElem? (i := 78) (by decide +kernel)) (by decide +kernel)
theorem it_X2 : Cond.initialized (pk_cls 2) ∈ pk_tbl := pk_tb (List.mem_of_getElem? (i := 79) (by decide +kernel)) (by decide +kernel)
theorem it_X1 : Cond.initialized (pk_cls 1) ∈ pk_tbl := pk_tb (List.mem_of_getElem? (i := 80) (by decide +kernel)) (by decide +kernel)
theorem it_X0 : Cond.initialized (pk_cls 0) ∈ pk_tbl := pk_tb (List.mem_of_getElem? (i := 81) (by decide +kernel)) (by decide +kernel)
theorem it_X5 : Cond.initialized (pk_cls 5) ∈ pk_tbl := pk_tb (List.mem_of_getElem? (i := 82) (by decide +kernel)) (by decide +kernel)
theorem it_X3 : Cond.initialized (pk_cls 3) ∈ pk_tbl := pk_tb (List.mem_of_getElem? (i := 83) (by decide +kernel)) (by decide +kernel)
theorem it_X7 : Cond.initialized (pk_cls 7) ∈ pk_tbl := pk_tb (List.mem_of_getElem? (i := 84) (by decide +kernel)) (by decide +kernel)
theorem it_sys : Cond.initialized "java/lang/System" ∈ pk_tbl := pk_tb (List.mem_of_getElem? (i := 86) (by decide +kernel)) (by decide +kernel)
theorem yw_X6_init : pk_YW yX6_init cX6_init 2 none 0 := ⟨pk_tb (List.mem_of_getElem? (i := 92) (by decide +kernel)) (by decide +kernel), pk_tb (List.mem_of_getElem? (i := 77) (by decide +kernel)) (by decide +kernel), by decide, by decide +kernel, by decide⟩
theorem yi_X6_init : Cond.instanceMethod yX6_init ∈ pk_tbl := pk_tb (List.mem_of_getElem? (i := 91) (by decide +kernel)) (by decide +kernel)
theorem oi_code : Cond.code objectInit ⟨#[0xb1]⟩ 1 none ∈ pk_tbl := pk_tb (List.mem_of_getElem? (i := 95) (by decide +kernel)) (by decide +kernel)
theorem oi_inst : Cond.instanceMethod objectInit ∈ pk_tbl := pk_tb (List.mem_of_getElem? (i := 94) (by decide +kernel)) (by decide +kernel)
theorem yw_X4_init : pk_YW yX4_init cX4_init 2 none 0 := ⟨pk_tb (List.mem_of_getElem? (i := 100) (by decide +kernel)) (by decide +kernel), pk_tb (List.mem_of_getElem? (i := 78) (by decide +kernel)) (by decide +kernel), by decide, by decide +kernel, by decide⟩
theorem yi_X4_init : Cond.instanceMethod yX4_init ∈ pk_tbl := pk_tb (List.mem_of_getElem? (i := 99) (by decide +kernel)) (by decide +kernel)
theorem yw_X2_init : pk_YW yX2_init cX2_init 2 none 0 := ⟨pk_tb (List.mem_of_getElem? (i := 143) (by decide +kernel)) (by decide +kernel), pk_tb (List.mem_of_getElem? (i := 79) (by decide +kernel)) (by decide +kernel), by decide, by decide +kernel, by decide⟩
theorem yi_X2_init : Cond.instanceMethod yX2_init ∈ pk_tbl := pk_tb (List.mem_of_getElem? (i := 142) (by decide +kernel)) (by decide +kernel)
theorem yw_X1_init : pk_YW yX1_init cX1_init 1 none 0 := ⟨pk_tb (List.mem_of_getElem? (i := 160) (by decide +kernel)) (by decide +kernel), pk_tb (List.mem_of_getElem? (i := 80) (by decide +kernel)) (by decide +kernel), by decide, by decide +kernel, by decide⟩
theorem yi_X1_init : Cond.instanceMethod yX1_init ∈ pk_tbl := pk_tb (List.mem_of_getElem? (i := 159) (by decide +kernel)) (by decide +kernel)
theorem yw_X0_init : pk_YW yX0_init cX0_init 1 none 0 := ⟨pk_tb (List.mem_of_getElem? (i := 171) (by decide +kernel)) (by decide +kernel), pk_tb (List.mem_of_getElem? (i := 81) (by decide +kernel)) (by decide +kernel), by decide, by decide +kernel, by decide⟩
theorem yi_X0_init : Cond.instanceMethod yX0_init ∈ pk_tbl := pk_tb (List.mem_of_getElem? (i := 170) (by decide +kernel)) (by decide +kernel)
theorem yw_X5_init : pk_YW yX5_init cX5_init 1 none 0 := ⟨pk_tb (List.mem_of_getElem? (i := 201) (by decide +kernel)) (by decide +kernel), pk_tb (List.mem_of_getElem? (i := 82) (by decide +kernel)) (by decide +kernel), by decide, by decide +kernel, by decide⟩
theorem yi_X5_init : Cond.instanceMethod yX5_init ∈ pk_tbl := pk_tb (List.mem_of_getElem? (i := 200) (by decide +kernel)) (by decide +kernel)
theorem yw_X3_init : pk_YW yX3_init cX3_init 1 none 0 := ⟨pk_tb (List.mem_of_getElem? (i := 235) (by decide +kernel)) (by decide +kernel), pk_tb (List.mem_of_getElem? (i := 83) (by decide +kernel)) (by decide +kernel), by decide, by decide +kernel, by decide⟩
theorem yi_X3_init : Cond.instanceMethod yX3_init ∈ pk_tbl := pk_tb (List.mem_of_getElem? (i := 234) (by decide +kernel)) (by decide +kernel)
theorem yw_X6_ink : pk_YW yX6_ink cX6_ink 3 (some .int) 2 := ⟨pk_tb (List.mem_of_getElem? (i := 295) (by decide +kernel)) (by decide +kernel), pk_tb (List.mem_of_getElem? (i := 77) (by decide +kernel)) (by decide +kernel), by decide, by decide +kernel, by decide⟩
theorem yi_X6_ink : Cond.instanceMethod yX6_ink ∈ pk_tbl := pk_tb (List.mem_of_getElem? (i := 293) (by decide +kernel)) (by decide +kernel)
theorem yv_X6_ink : Cond.instanceMethod yX6_ink ∈ pk_tbl ∧ Cond.selects (pk_cls 6) yX6_ink yX6_ink ∈ pk_tbl ∧ 6 < 8 := ⟨yi_X6_ink, pk_tb (List.mem_of_getElem? (i := 294) (by decide +kernel)) (by decide +kernel), by decide⟩
theorem yw_X6_isBelow : pk_YW yX6_isBelow cX6_isBelow 2 (some .boolean) 2 := ⟨pk_tb (List.mem_of_getElem? (i := 298) (by decide +kernel)) (by decide +kernel), pk_tb (List.mem_of_getElem? (i := 77) (by decide +kernel)) (by decide +kernel), by decide, by decide +kernel, by decide⟩
theorem ys_X6_isBelow : Cond.static yX6_isBelow ∈ pk_tbl := pk_tb (List.mem_of_getElem? (i := 297) (by decide +kernel)) (by decide +kernel)
theorem yw_X4_placeInOrder : pk_YW yX4_placeInOrder cX4_placeInOrder 3 (some .int) 1 := ⟨pk_tb (List.mem_of_getElem? (i := 302) (by decide +kernel)) (by decide +kernel), pk_tb (List.mem_of_getElem? (i := 78) (by decide +kernel)) (by decide +kernel), by decide, by decide +kernel, by decide⟩
theorem yi_X4_placeInOrder : Cond.instanceMethod yX4_placeInOrder ∈ pk_tbl := pk_tb (List.mem_of_getElem? (i := 300) (by decide +kernel)) (by decide +kernel)
theorem yv_X4_placeInOrder : Cond.instanceMethod yX4_placeInOrder ∈ pk_tbl ∧ Cond.selects (pk_cls 4) yX4_placeInOrder yX4_placeInOrder ∈ pk_tbl ∧ 4 < 8 := ⟨yi_X4_placeInOrder, pk_tb (List.mem_of_getElem? (i := 301) (by decide +kernel)) (by decide +kernel), by decide⟩
theorem yw_X6_lookNow : pk_YW yX6_lookNow cX6_lookNow 2 (some .int) 1 := ⟨pk_tb (List.mem_of_getElem? (i := 306) (by decide +kernel)) (by decide +kernel), pk_tb (List.mem_of_getElem? (i := 77) (by decide +kernel)) (by decide +kernel), by decide, by decide +kernel, by decide⟩
theorem yi_X6_lookNow : Cond.instanceMethod yX6_lookNow ∈ pk_tbl := pk_tb (List.mem_of_getElem? (i := 305) (by decide +kernel)) (by decide +kernel)
theorem yv_X6_lookNow : Cond.instanceMethod yX6_lookNow ∈ pk_tbl ∧ Cond.selects (pk_cls 6) yX6_lookNow yX6_lookNow ∈ pk_tbl ∧ 6 < 8 := ⟨yi_X6_lookNow, pk_tb (List.mem_of_getElem? (i := 0) (by decide +kernel)) (by decide +kernel), by decide⟩
theorem yw_X6_lookBy : pk_YW yX6_lookBy cX6_lookBy 9 (some .int) 4 := ⟨pk_tb (List.mem_of_getElem? (i := 309) (by decide +kernel)) (by decide +kernel), pk_tb (List.mem_of_getElem? (i := 77) (by decide +kernel)) (by decide +kernel), by decide, by decide +kernel, by decide⟩
theorem ys_X6_lookBy : Cond.static yX6_lookBy ∈ pk_tbl := pk_tb (List.mem_of_getElem? (i := 308) (by decide +kernel)) (by decide +kernel)
theorem yw_X6_hasBit : pk_YW yX6_hasBit cX6_hasBit 2 (some .boolean) 2 := ⟨pk_tb (List.mem_of_getElem? (i := 312) (by decide +kernel)) (by decide +kernel), pk_tb (List.mem_of_getElem? (i := 77) (by decide +kernel)) (by decide +kernel), by decide, by decide +kernel, by decide⟩
theorem ys_X6_hasBit : Cond.static yX6_hasBit ∈ pk_tbl := pk_tb (List.mem_of_getElem? (i := 311) (by decide +kernel)) (by decide +kernel)
theorem yw_X6_printedOver : pk_YW yX6_printedOver cX6_printedOver 4 (some .int) 3 := ⟨pk_tb (List.mem_of_getElem? (i := 315) (by decide +kernel)) (by decide +kernel), pk_tb (List.mem_of_getElem? (i := 77) (by decide +kernel)) (by decide +kernel), by decide, by decide +kernel, by decide⟩
theorem ys_X6_printedOver : Cond.static yX6_printedOver ∈ pk_tbl := pk_tb (List.mem_of_getElem? (i := 314) (by decide +kernel)) (by decide +kernel)
theorem yw_J9_min_7cf53 : pk_YW yJ9_min_7cf53 cJ9_min_7cf53 2 (some .int) 2 := ⟨pk_tb (List.mem_of_getElem? (i := 318) (by decide +kernel)) (by decide +kernel), pk_tb (List.mem_of_getElem? (i := 85) (by decide +kernel)) (by decide +kernel), by decide, by decide +kernel, by decide⟩
theorem ys_J9_min_7cf53 : Cond.static yJ9_min_7cf53 ∈ pk_tbl := pk_tb (List.mem_of_getElem? (i := 317) (by decide +kernel)) (by decide +kernel)
theorem yw_X6_darkOf : pk_YW yX6_darkOf cX6_darkOf 1 (some .int) 1 := ⟨pk_tb (List.mem_of_getElem? (i := 321) (by decide +kernel)) (by decide +kernel), pk_tb (List.mem_of_getElem? (i := 77) (by decide +kernel)) (by decide +kernel), by decide, by decide +kernel, by decide⟩
theorem ys_X6_darkOf : Cond.static yX6_darkOf ∈ pk_tbl := pk_tb (List.mem_of_getElem? (i := 320) (by decide +kernel)) (by decide +kernel)
theorem yw_X4_placesWithInk : pk_YW yX4_placesWithInk cX4_placesWithInk 4 (some .int) 1 := ⟨pk_tb (List.mem_of_getElem? (i := 325) (by decide +kernel)) (by decide +kernel), pk_tb (List.mem_of_getElem? (i := 78) (by decide +kernel)) (by decide +kernel), by decide, by decide +kernel, by decide⟩
theorem yi_X4_placesWithInk : Cond.instanceMethod yX4_placesWithInk ∈ pk_tbl := pk_tb (List.mem_of_getElem? (i := 323) (by decide +kernel)) (by decide +kernel)
theorem yv_X4_placesWithInk : Cond.instanceMethod yX4_placesWithInk ∈ pk_tbl ∧ Cond.selects (pk_cls 4) yX4_placesWithInk yX4_placesWithInk ∈ pk_tbl ∧ 4 < 8 := ⟨yi_X4_placesWithInk, pk_tb (List.mem_of_getElem? (i := 324) (by decide +kernel)) (by decide +kernel), by decide⟩
theorem yw_X6_set : pk_YW yX6_set cX6_set 3 (some .int) 2 := ⟨pk_tb (List.mem_of_getElem? (i := 330) (by decide +kernel)) (by decide +kernel), pk_tb (List.mem_of_getElem? (i := 77) (by decide +kernel)) (by decide +kernel), by decide, by decide +kernel, by decide⟩
theorem yi_X6_set : Cond.instanceMethod yX6_set ∈ pk_tbl := pk_tb (List.mem_of_getElem? (i := 328) (by decide +kernel)) (by decide +kernel)
theorem yv_X6_set : Cond.instanceMethod yX6_set ∈ pk_tbl ∧ Cond.selects (pk_cls 6) yX6_set yX6_set ∈ pk_tbl ∧ 6 < 8 := ⟨yi_X6_set, pk_tb (List.mem_of_getElem? (i := 329) (by decide +kernel)) (by decide +kernel), by decide⟩
theorem yw_X6_alikeTo : pk_YW yX6_alikeTo cX6_alikeTo 2 (some .int) 1 := ⟨pk_tb (List.mem_of_getElem? (i := 334) (by decide +kernel)) (by decide +kernel), pk_tb (List.mem_of_getElem? (i := 77) (by decide +kernel)) (by decide +kernel), by decide, by decide +kernel, by decide⟩
theorem yi_X6_alikeTo : Cond.instanceMethod yX6_alikeTo ∈ pk_tbl := pk_tb (List.mem_of_getElem? (i := 333) (by decide +kernel)) (by decide +kernel)
theorem yv_X6_alikeTo : Cond.instanceMethod yX6_alikeTo ∈ pk_tbl ∧ Cond.selects (pk_cls 6) yX6_alikeTo yX6_alikeTo ∈ pk_tbl ∧ 6 < 8 := ⟨yi_X6_alikeTo, pk_tb (List.mem_of_getElem? (i := 1) (by decide +kernel)) (by decide +kernel), by decide⟩
theorem yw_X1_find : pk_YW yX1_find cX1_find 3 none 1 := ⟨pk_tb (List.mem_of_getElem? (i := 338) (by decide +kernel)) (by decide +kernel), pk_tb (List.mem_of_getElem? (i := 80) (by decide +kernel)) (by decide +kernel), by decide, by decide +kernel, by decide⟩
theorem yi_X1_find : Cond.instanceMethod yX1_find ∈ pk_tbl := pk_tb (List.mem_of_getElem? (i := 336) (by decide +kernel)) (by decide +kernel)
theorem yv_X1_find : Cond.instanceMethod yX1_find ∈ pk_tbl ∧ Cond.selects (pk_cls 1) yX1_find yX1_find ∈ pk_tbl ∧ 1 < 8 := ⟨yi_X1_find, pk_tb (List.mem_of_getElem? (i := 337) (by decide +kernel)) (by decide +kernel), by decide⟩
theorem yw_X1_alikeTo : pk_YW yX1_alikeTo cX1_alikeTo 4 (some .int) 1 := ⟨pk_tb (List.mem_of_getElem? (i := 343) (by decide +kernel)) (by decide +kernel), pk_tb (List.mem_of_getElem? (i := 80) (by decide +kernel)) (by decide +kernel), by decide, by decide +kernel, by decide⟩
theorem yi_X1_alikeTo : Cond.instanceMethod yX1_alikeTo ∈ pk_tbl := pk_tb (List.mem_of_getElem? (i := 341) (by decide +kernel)) (by decide +kernel)
theorem yv_X1_alikeTo : Cond.instanceMethod yX1_alikeTo ∈ pk_tbl ∧ Cond.selects (pk_cls 1) yX1_alikeTo yX1_alikeTo ∈ pk_tbl ∧ 1 < 8 := ⟨yi_X1_alikeTo, pk_tb (List.mem_of_getElem? (i := 342) (by decide +kernel)) (by decide +kernel), by decide⟩
theorem yw_X4_placesOfSet : pk_YW yX4_placesOfSet cX4_placesOfSet 5 (some .int) 1 := ⟨pk_tb (List.mem_of_getElem? (i := 348) (by decide +kernel)) (by decide +kernel), pk_tb (List.mem_of_getElem? (i := 78) (by decide +kernel)) (by decide +kernel), by decide, by decide +kernel, by decide⟩
theorem yi_X4_placesOfSet : Cond.instanceMethod yX4_placesOfSet ∈ pk_tbl := pk_tb (List.mem_of_getElem? (i := 346) (by decide +kernel)) (by decide +kernel)
theorem yv_X4_placesOfSet : Cond.instanceMethod yX4_placesOfSet ∈ pk_tbl ∧ Cond.selects (pk_cls 4) yX4_placesOfSet yX4_placesOfSet ∈ pk_tbl ∧ 4 < 8 := ⟨yi_X4_placesOfSet, pk_tb (List.mem_of_getElem? (i := 347) (by decide +kernel)) (by decide +kernel), by decide⟩
theorem yw_X4_at : pk_YW yX4_at cX4_at 3 (some .int) 2 := ⟨pk_tb (List.mem_of_getElem? (i := 352) (by decide +kernel)) (by decide +kernel), pk_tb (List.mem_of_getElem? (i := 78) (by decide +kernel)) (by decide +kernel), by decide, by decide +kernel, by decide⟩
theorem yi_X4_at : Cond.instanceMethod yX4_at ∈ pk_tbl := pk_tb (List.mem_of_getElem? (i := 350) (by decide +kernel)) (by decide +kernel)
theorem yv_X4_at : Cond.instanceMethod yX4_at ∈ pk_tbl ∧ Cond.selects (pk_cls 4) yX4_at yX4_at ∈ pk_tbl ∧ 4 < 8 := ⟨yi_X4_at, pk_tb (List.mem_of_getElem? (i := 351) (by decide +kernel)) (by decide +kernel), by decide⟩
theorem yw_X4_isInside : pk_YW yX4_isInside cX4_isInside 3 (some .boolean) 2 := ⟨pk_tb (List.mem_of_getElem? (i := 356) (by decide +kernel)) (by decide +kernel), pk_tb (List.mem_of_getElem? (i := 78) (by decide +kernel)) (by decide +kernel), by decide, by decide +kernel, by decide⟩
theorem yi_X4_isInside : Cond.instanceMethod yX4_isInside ∈ pk_tbl := pk_tb (List.mem_of_getElem? (i := 354) (by decide +kernel)) (by decide +kernel)
theorem yv_X4_isInside : Cond.instanceMethod yX4_isInside ∈ pk_tbl ∧ Cond.selects (pk_cls 4) yX4_isInside yX4_isInside ∈ pk_tbl ∧ 4 < 8 := ⟨yi_X4_isInside, pk_tb (List.mem_of_getElem? (i := 355) (by decide +kernel)) (by decide +kernel), by decide⟩
theorem yw_X4_indexOf : pk_YW yX4_indexOf cX4_indexOf 2 (some .int) 2 := ⟨pk_tb (List.mem_of_getElem? (i := 359) (by decide +kernel)) (by decide +kernel), pk_tb (List.mem_of_getElem? (i := 78) (by decide +kernel)) (by decide +kernel), by decide, by decide +kernel, by decide⟩
theorem ys_X4_indexOf : Cond.static yX4_indexOf ∈ pk_tbl := pk_tb (List.mem_of_getElem? (i := 358) (by decide +kernel)) (by decide +kernel)
theorem yw_X6_place : pk_YW yX6_place cX6_place 4 (some .int) 3 := ⟨pk_tb (List.mem_of_getElem? (i := 363) (by decide +kernel)) (by decide +kernel), pk_tb (List.mem_of_getElem? (i := 77) (by decide +kernel)) (by decide +kernel), by decide, by decide +kernel, by decide⟩
theorem yi_X6_place : Cond.instanceMethod yX6_place ∈ pk_tbl := pk_tb (List.mem_of_getElem? (i := 361) (by decide +kernel)) (by decide +kernel)
theorem yv_X6_place : Cond.instanceMethod yX6_place ∈ pk_tbl ∧ Cond.selects (pk_cls 6) yX6_place yX6_place ∈ pk_tbl ∧ 6 < 8 := ⟨yi_X6_place, pk_tb (List.mem_of_getElem? (i := 362) (by decide +kernel)) (by decide +kernel), by decide⟩
theorem yw_X0_find : pk_YW yX0_find cX0_find 4 none 1 := ⟨pk_tb (List.mem_of_getElem? (i := 369) (by decide +kernel)) (by decide +kernel), pk_tb (List.mem_of_getElem? (i := 81) (by decide +kernel)) (by decide +kernel), by decide, by decide +kernel, by decide⟩
theorem yi_X0_find : Cond.instanceMethod yX0_find ∈ pk_tbl := pk_tb (List.mem_of_getElem? (i := 367) (by decide +kernel)) (by decide +kernel)
theorem yv_X0_find : Cond.instanceMethod yX0_find ∈ pk_tbl ∧ Cond.selects (pk_cls 0) yX0_find yX0_find ∈ pk_tbl ∧ 0 < 8 := ⟨yi_X0_find, pk_tb (List.mem_of_getElem? (i := 368) (by decide +kernel)) (by decide +kernel), by decide⟩
theorem yw_X0_at : pk_YW yX0_at cX0_at 4 (some .int) 2 := ⟨pk_tb (List.mem_of_getElem? (i := 373) (by decide +kernel)) (by decide +kernel), pk_tb (List.mem_of_getElem? (i := 81) (by decide +kernel)) (by decide +kernel), by decide, by decide +kernel, by decide⟩
theorem yi_X0_at : Cond.instanceMethod yX0_at ∈ pk_tbl := pk_tb (List.mem_of_getElem? (i := 371) (by decide +kernel)) (by decide +kernel)
theorem yv_X0_at : Cond.instanceMethod yX0_at ∈ pk_tbl ∧ Cond.selects (pk_cls 0) yX0_at yX0_at ∈ pk_tbl ∧ 0 < 8 := ⟨yi_X0_at, pk_tb (List.mem_of_getElem? (i := 372) (by decide +kernel)) (by decide +kernel), by decide⟩
theorem yw_X0_spreadFrom : pk_YW yX0_spreadFrom cX0_spreadFrom 10 none 3 := ⟨pk_tb (List.mem_of_getElem? (i := 379) (by decide +kernel)) (by decide +kernel), pk_tb (List.mem_of_getElem? (i := 81) (by decide +kernel)) (by decide +kernel), by decide, by decide +kernel, by decide⟩
theorem yi_X0_spreadFrom : Cond.instanceMethod yX0_spreadFrom ∈ pk_tbl := pk_tb (List.mem_of_getElem? (i := 378) (by decide +kernel)) (by decide +kernel)
theorem yv_X0_spreadFrom : Cond.instanceMethod yX0_spreadFrom ∈ pk_tbl ∧ Cond.selects (pk_cls 0) yX0_spreadFrom yX0_spreadFrom ∈ pk_tbl ∧ 0 < 8 := ⟨yi_X0_spreadFrom, pk_tb (List.mem_of_getElem? (i := 2) (by decide +kernel)) (by decide +kernel), by decide⟩
theorem yw_X0_join : pk_YW yX0_join cX0_join 5 none 3 := ⟨pk_tb (List.mem_of_getElem? (i := 384) (by decide +kernel)) (by decide +kernel), pk_tb (List.mem_of_getElem? (i := 81) (by decide +kernel)) (by decide +kernel), by decide, by decide +kernel, by decide⟩
theorem yi_X0_join : Cond.instanceMethod yX0_join ∈ pk_tbl := pk_tb (List.mem_of_getElem? (i := 383) (by decide +kernel)) (by decide +kernel)
theorem yv_X0_join : Cond.instanceMethod yX0_join ∈ pk_tbl ∧ Cond.selects (pk_cls 0) yX0_join yX0_join ∈ pk_tbl ∧ 0 < 8 := ⟨yi_X0_join, pk_tb (List.mem_of_getElem? (i := 3) (by decide +kernel)) (by decide +kernel), by decide⟩
theorem yw_X6_area : pk_YW yX6_area cX6_area 5 (some .int) 2 := ⟨pk_tb (List.mem_of_getElem? (i := 394) (by decide +kernel)) (by decide +kernel), pk_tb (List.mem_of_getElem? (i := 77) (by decide +kernel)) (by decide +kernel), by decide, by decide +kernel, by decide⟩
theorem yi_X6_area : Cond.instanceMethod yX6_area ∈ pk_tbl := pk_tb (List.mem_of_getElem? (i := 392) (by decide +kernel)) (by decide +kernel)
theorem yv_X6_area : Cond.instanceMethod yX6_area ∈ pk_tbl ∧ Cond.selects (pk_cls 6) yX6_area yX6_area ∈ pk_tbl ∧ 6 < 8 := ⟨yi_X6_area, pk_tb (List.mem_of_getElem? (i := 393) (by decide +kernel)) (by decide +kernel), by decide⟩
theorem yw_X0_firstX : pk_YW yX0_firstX cX0_firstX 2 (some .int) 1 := ⟨pk_tb (List.mem_of_getElem? (i := 398) (by decide +kernel)) (by decide +kernel), pk_tb (List.mem_of_getElem? (i := 81) (by decide +kernel)) (by decide +kernel), by decide, by decide +kernel, by decide⟩
theorem yi_X0_firstX : Cond.instanceMethod yX0_firstX ∈ pk_tbl := pk_tb (List.mem_of_getElem? (i := 396) (by decide +kernel)) (by decide +kernel)
theorem yv_X0_firstX : Cond.instanceMethod yX0_firstX ∈ pk_tbl ∧ Cond.selects (pk_cls 0) yX0_firstX yX0_firstX ∈ pk_tbl ∧ 0 < 8 := ⟨yi_X0_firstX, pk_tb (List.mem_of_getElem? (i := 397) (by decide +kernel)) (by decide +kernel), by decide⟩
theorem yw_X0_firstY : pk_YW yX0_firstY cX0_firstY 2 (some .int) 1 := ⟨pk_tb (List.mem_of_getElem? (i := 402) (by decide +kernel)) (by decide +kernel), pk_tb (List.mem_of_getElem? (i := 81) (by decide +kernel)) (by decide +kernel), by decide, by decide +kernel, by decide⟩
theorem yi_X0_firstY : Cond.instanceMethod yX0_firstY ∈ pk_tbl := pk_tb (List.mem_of_getElem? (i := 400) (by decide +kernel)) (by decide +kernel)
theorem yv_X0_firstY : Cond.instanceMethod yX0_firstY ∈ pk_tbl ∧ Cond.selects (pk_cls 0) yX0_firstY yX0_firstY ∈ pk_tbl ∧ 0 < 8 := ⟨yi_X0_firstY, pk_tb (List.mem_of_getElem? (i := 401) (by decide +kernel)) (by decide +kernel), by decide⟩
theorem yw_X0_placesOf : pk_YW yX0_placesOf cX0_placesOf 2 (some .int) 1 := ⟨pk_tb (List.mem_of_getElem? (i := 406) (by decide +kernel)) (by decide +kernel), pk_tb (List.mem_of_getElem? (i := 81) (by decide +kernel)) (by decide +kernel), by decide, by decide +kernel, by decide⟩
theorem yi_X0_placesOf : Cond.instanceMethod yX0_placesOf ∈ pk_tbl := pk_tb (List.mem_of_getElem? (i := 404) (by decide +kernel)) (by decide +kernel)
theorem yv_X0_placesOf : Cond.instanceMethod yX0_placesOf ∈ pk_tbl ∧ Cond.selects (pk_cls 0) yX0_placesOf yX0_placesOf ∈ pk_tbl ∧ 0 < 8 := ⟨yi_X0_placesOf, pk_tb (List.mem_of_getElem? (i := 405) (by decide +kernel)) (by decide +kernel), by decide⟩
theorem yw_X0_neighboursOf : pk_YW yX0_neighboursOf cX0_neighboursOf 6 (some .int) 2 := ⟨pk_tb (List.mem_of_getElem? (i := 410) (by decide +kernel)) (by decide +kernel), pk_tb (List.mem_of_getElem? (i := 81) (by decide +kernel)) (by decide +kernel), by decide, by decide +kernel, by decide⟩
theorem yi_X0_neighboursOf : Cond.instanceMethod yX0_neighboursOf ∈ pk_tbl := pk_tb (List.mem_of_getElem? (i := 408) (by decide +kernel)) (by decide +kernel)
theorem yv_X0_neighboursOf : Cond.instanceMethod yX0_neighboursOf ∈ pk_tbl ∧ Cond.selects (pk_cls 0) yX0_neighboursOf yX0_neighboursOf ∈ pk_tbl ∧ 0 < 8 := ⟨yi_X0_neighboursOf, pk_tb (List.mem_of_getElem? (i := 409) (by decide +kernel)) (by decide +kernel), by decide⟩
theorem yw_X0_meetBeside : pk_YW yX0_meetBeside cX0_meetBeside 10 (some .int) 4 := ⟨pk_tb (List.mem_of_getElem? (i := 414) (by decide +kernel)) (by decide +kernel), pk_tb (List.mem_of_getElem? (i := 81) (by decide +kernel)) (by decide +kernel), by decide, by decide +kernel, by decide⟩
theorem yi_X0_meetBeside : Cond.instanceMethod yX0_meetBeside ∈ pk_tbl := pk_tb (List.mem_of_getElem? (i := 413) (by decide +kernel)) (by decide +kernel)
theorem yv_X0_meetBeside : Cond.instanceMethod yX0_meetBeside ∈ pk_tbl ∧ Cond.selects (pk_cls 0) yX0_meetBeside yX0_meetBeside ∈ pk_tbl ∧ 0 < 8 := ⟨yi_X0_meetBeside, pk_tb (List.mem_of_getElem? (i := 4) (by decide +kernel)) (by decide +kernel), by decide⟩
theorem yw_X0_greaterThan : pk_YW yX0_greaterThan cX0_greaterThan 5 (some .int) 1 := ⟨pk_tb (List.mem_of_getElem? (i := 418) (by decide +kernel)) (by decide +kernel), pk_tb (List.mem_of_getElem? (i := 81) (by decide +kernel)) (by decide +kernel), by decide, by decide +kernel, by decide⟩
theorem yi_X0_greaterThan : Cond.instanceMethod yX0_greaterThan ∈ pk_tbl := pk_tb (List.mem_of_getElem? (i := 416) (by decide +kernel)) (by decide +kernel)
theorem yv_X0_greaterThan : Cond.instanceMethod yX0_greaterThan ∈ pk_tbl ∧ Cond.selects (pk_cls 0) yX0_greaterThan yX0_greaterThan ∈ pk_tbl ∧ 0 < 8 := ⟨yi_X0_greaterThan, pk_tb (List.mem_of_getElem? (i := 417) (by decide +kernel)) (by decide +kernel), by decide⟩
theorem yw_X6_type : pk_YW yX6_type cX6_type 2 (some .int) 1 := ⟨pk_tb (List.mem_of_getElem? (i := 423) (by decide +kernel)) (by decide +kernel), pk_tb (List.mem_of_getElem? (i := 77) (by decide +kernel)) (by decide +kernel), by decide, by decide +kernel, by decide⟩
theorem yi_X6_type : Cond.instanceMethod yX6_type ∈ pk_tbl := pk_tb (List.mem_of_getElem? (i := 421) (by decide +kernel)) (by decide +kernel)
theorem yv_X6_type : Cond.instanceMethod yX6_type ∈ pk_tbl ∧ Cond.selects (pk_cls 6) yX6_type yX6_type ∈ pk_tbl ∧ 6 < 8 := ⟨yi_X6_type, pk_tb (List.mem_of_getElem? (i := 422) (by decide +kernel)) (by decide +kernel), by decide⟩
theorem yw_X5_add : pk_YW yX5_add cX5_add 2 (some .boolean) 1 := ⟨pk_tb (List.mem_of_getElem? (i := 427) (by decide +kernel)) (by decide +kernel), pk_tb (List.mem_of_getElem? (i := 82) (by decide +kernel)) (by decide +kernel), by decide, by decide +kernel, by decide⟩
theorem yi_X5_add : Cond.instanceMethod yX5_add ∈ pk_tbl := pk_tb (List.mem_of_getElem? (i := 425) (by decide +kernel)) (by decide +kernel)
theorem yv_X5_add : Cond.instanceMethod yX5_add ∈ pk_tbl ∧ Cond.selects (pk_cls 5) yX5_add yX5_add ∈ pk_tbl ∧ 5 < 8 := ⟨yi_X5_add, pk_tb (List.mem_of_getElem? (i := 426) (by decide +kernel)) (by decide +kernel), by decide⟩
theorem yw_X6_draw : pk_YW yX6_draw cX6_draw 2 (some .int) 0 := ⟨pk_tb (List.mem_of_getElem? (i := 432) (by decide +kernel)) (by decide +kernel), pk_tb (List.mem_of_getElem? (i := 77) (by decide +kernel)) (by decide +kernel), by decide, by decide +kernel, by decide⟩
theorem yi_X6_draw : Cond.instanceMethod yX6_draw ∈ pk_tbl := pk_tb (List.mem_of_getElem? (i := 430) (by decide +kernel)) (by decide +kernel)
theorem yv_X6_draw : Cond.instanceMethod yX6_draw ∈ pk_tbl ∧ Cond.selects (pk_cls 6) yX6_draw yX6_draw ∈ pk_tbl ∧ 6 < 8 := ⟨yi_X6_draw, pk_tb (List.mem_of_getElem? (i := 431) (by decide +kernel)) (by decide +kernel), by decide⟩
theorem yw_X5_read : pk_YW yX5_read cX5_read 4 (some .boolean) 0 := ⟨pk_tb (List.mem_of_getElem? (i := 436) (by decide +kernel)) (by decide +kernel), pk_tb (List.mem_of_getElem? (i := 82) (by decide +kernel)) (by decide +kernel), by decide, by decide +kernel, by decide⟩
theorem yi_X5_read : Cond.instanceMethod yX5_read ∈ pk_tbl := pk_tb (List.mem_of_getElem? (i := 434) (by decide +kernel)) (by decide +kernel)
theorem yv_X5_read : Cond.instanceMethod yX5_read ∈ pk_tbl ∧ Cond.selects (pk_cls 5) yX5_read yX5_read ∈ pk_tbl ∧ 5 < 8 := ⟨yi_X5_read, pk_tb (List.mem_of_getElem? (i := 435) (by decide +kernel)) (by decide +kernel), by decide⟩
theorem yw_X5_begin : pk_YW yX5_begin cX5_begin 2 none 0 := ⟨pk_tb (List.mem_of_getElem? (i := 440) (by decide +kernel)) (by decide +kernel), pk_tb (List.mem_of_getElem? (i := 82) (by decide +kernel)) (by decide +kernel), by decide, by decide +kernel, by decide⟩
theorem yi_X5_begin : Cond.instanceMethod yX5_begin ∈ pk_tbl := pk_tb (List.mem_of_getElem? (i := 439) (by decide +kernel)) (by decide +kernel)
theorem yv_X5_begin : Cond.instanceMethod yX5_begin ∈ pk_tbl ∧ Cond.selects (pk_cls 5) yX5_begin yX5_begin ∈ pk_tbl ∧ 5 < 8 := ⟨yi_X5_begin, pk_tb (List.mem_of_getElem? (i := 5) (by decide +kernel)) (by decide +kernel), by decide⟩
theorem yw_X5_letterBehindBlanks : pk_YW yX5_letterBehindBlanks cX5_letterBehindBlanks 1 (some .int) 0 := ⟨pk_tb (List.mem_of_getElem? (i := 444) (by decide +kernel)) (by decide +kernel), pk_tb (List.mem_of_getElem? (i := 82) (by decide +kernel)) (by decide +kernel), by decide, by decide +kernel, by decide⟩
theorem yi_X5_letterBehindBlanks : Cond.instanceMethod yX5_letterBehindBlanks ∈ pk_tbl := pk_tb (List.mem_of_getElem? (i := 443) (by decide +kernel)) (by decide +kernel)
theorem yv_X5_letterBehindBlanks : Cond.instanceMethod yX5_letterBehindBlanks ∈ pk_tbl ∧ Cond.selects (pk_cls 5) yX5_letterBehindBlanks yX5_letterBehindBlanks ∈ pk_tbl ∧ 5 < 8 := ⟨yi_X5_letterBehindBlanks, pk_tb (List.mem_of_getElem? (i := 6) (by decide +kernel)) (by decide +kernel), by decide⟩
theorem yw_X5_endLine : pk_YW yX5_endLine cX5_endLine 1 (some .boolean) 0 := ⟨pk_tb (List.mem_of_getElem? (i := 448) (by decide +kernel)) (by decide +kernel), pk_tb (List.mem_of_getElem? (i := 82) (by decide +kernel)) (by decide +kernel), by decide, by decide +kernel, by decide⟩
theorem yi_X5_endLine : Cond.instanceMethod yX5_endLine ∈ pk_tbl := pk_tb (List.mem_of_getElem? (i := 447) (by decide +kernel)) (by decide +kernel)
theorem yv_X5_endLine : Cond.instanceMethod yX5_endLine ∈ pk_tbl ∧ Cond.selects (pk_cls 5) yX5_endLine yX5_endLine ∈ pk_tbl ∧ 5 < 8 := ⟨yi_X5_endLine, pk_tb (List.mem_of_getElem? (i := 7) (by decide +kernel)) (by decide +kernel), by decide⟩
theorem yw_X5_readRun : pk_YW yX5_readRun cX5_readRun 6 (some .boolean) 1 := ⟨pk_tb (List.mem_of_getElem? (i := 452) (by decide +kernel)) (by decide +kernel), pk_tb (List.mem_of_getElem? (i := 82) (by decide +kernel)) (by decide +kernel), by decide, by decide +kernel, by decide⟩
theorem yi_X5_readRun : Cond.instanceMethod yX5_readRun ∈ pk_tbl := pk_tb (List.mem_of_getElem? (i := 451) (by decide +kernel)) (by decide +kernel)
theorem yv_X5_readRun : Cond.instanceMethod yX5_readRun ∈ pk_tbl ∧ Cond.selects (pk_cls 5) yX5_readRun yX5_readRun ∈ pk_tbl ∧ 5 < 8 := ⟨yi_X5_readRun, pk_tb (List.mem_of_getElem? (i := 8) (by decide +kernel)) (by decide +kernel), by decide⟩
theorem yw_X5_readSet : pk_YW yX5_readSet cX5_readSet 2 (some .int) 1 := ⟨pk_tb (List.mem_of_getElem? (i := 456) (by decide +kernel)) (by decide +kernel), pk_tb (List.mem_of_getElem? (i := 82) (by decide +kernel)) (by decide +kernel), by decide, by decide +kernel, by decide⟩
theorem yi_X5_readSet : Cond.instanceMethod yX5_readSet ∈ pk_tbl := pk_tb (List.mem_of_getElem? (i := 455) (by decide +kernel)) (by decide +kernel)
theorem yv_X5_readSet : Cond.instanceMethod yX5_readSet ∈ pk_tbl ∧ Cond.selects (pk_cls 5) yX5_readSet yX5_readSet ∈ pk_tbl ∧ 5 < 8 := ⟨yi_X5_readSet, pk_tb (List.mem_of_getElem? (i := 9) (by decide +kernel)) (by decide +kernel), by decide⟩
theorem yw_X5_readManyInks : pk_YW yX5_readManyInks cX5_readManyInks 4 (some .int) 0 := ⟨pk_tb (List.mem_of_getElem? (i := 460) (by decide +kernel)) (by decide +kernel), pk_tb (List.mem_of_getElem? (i := 82) (by decide +kernel)) (by decide +kernel), by decide, by decide +kernel, by decide⟩
theorem yi_X5_readManyInks : Cond.instanceMethod yX5_readManyInks ∈ pk_tbl := pk_tb (List.mem_of_getElem? (i := 459) (by decide +kernel)) (by decide +kernel)
theorem yv_X5_readManyInks : Cond.instanceMethod yX5_readManyInks ∈ pk_tbl ∧ Cond.selects (pk_cls 5) yX5_readManyInks yX5_readManyInks ∈ pk_tbl ∧ 5 < 8 := ⟨yi_X5_readManyInks, pk_tb (List.mem_of_getElem? (i := 10) (by decide +kernel)) (by decide +kernel), by decide⟩
theorem yw_X5_isInkLetter : pk_YW yX5_isInkLetter cX5_isInkLetter 1 (some .boolean) 1 := ⟨pk_tb (List.mem_of_getElem? (i := 463) (by decide +kernel)) (by decide +kernel), pk_tb (List.mem_of_getElem? (i := 82) (by decide +kernel)) (by decide +kernel), by decide, by decide +kernel, by decide⟩
theorem ys_X5_isInkLetter : Cond.static yX5_isInkLetter ∈ pk_tbl := pk_tb (List.mem_of_getElem? (i := 462) (by decide +kernel)) (by decide +kernel)
theorem yw_X5_writeNext : pk_YW yX5_writeNext cX5_writeNext 3 none 1 := ⟨pk_tb (List.mem_of_getElem? (i := 467) (by decide +kernel)) (by decide +kernel), pk_tb (List.mem_of_getElem? (i := 82) (by decide +kernel)) (by decide +kernel), by decide, by decide +kernel, by decide⟩
theorem yi_X5_writeNext : Cond.instanceMethod yX5_writeNext ∈ pk_tbl := pk_tb (List.mem_of_getElem? (i := 466) (by decide +kernel)) (by decide +kernel)
theorem yv_X5_writeNext : Cond.instanceMethod yX5_writeNext ∈ pk_tbl ∧ Cond.selects (pk_cls 5) yX5_writeNext yX5_writeNext ∈ pk_tbl ∧ 5 < 8 := ⟨yi_X5_writeNext, pk_tb (List.mem_of_getElem? (i := 11) (by decide +kernel)) (by decide +kernel), by decide⟩
theorem yw_X4_become_ : pk_YW yX4_become_ cX4_become_ 4 none 3 := ⟨pk_tb (List.mem_of_getElem? (i := 472) (by decide +kernel)) (by decide +kernel), pk_tb (List.mem_of_getElem? (i := 78) (by decide +kernel)) (by decide +kernel), by decide, by decide +kernel, by decide⟩
theorem yi_X4_become_ : Cond.instanceMethod yX4_become_ ∈ pk_tbl := pk_tb (List.mem_of_getElem? (i := 470) (by decide +kernel)) (by decide +kernel)
theorem yv_X4_become_ : Cond.instanceMethod yX4_become_ ∈ pk_tbl ∧ Cond.selects (pk_cls 4) yX4_become_ yX4_become_ ∈ pk_tbl ∧ 4 < 8 := ⟨yi_X4_become_, pk_tb (List.mem_of_getElem? (i := 471) (by decide +kernel)) (by decide +kernel), by decide⟩
theorem yw_X6_count : pk_YW yX6_count cX6_count 2 (some .int) 1 := ⟨pk_tb (List.mem_of_getElem? (i := 479) (by decide +kernel)) (by decide +kernel), pk_tb (List.mem_of_getElem? (i := 77) (by decide +kernel)) (by decide +kernel), by decide, by decide +kernel, by decide⟩
theorem yi_X6_count : Cond.instanceMethod yX6_count ∈ pk_tbl := pk_tb (List.mem_of_getElem? (i := 477) (by decide +kernel)) (by decide +kernel)
theorem yv_X6_count : Cond.instanceMethod yX6_count ∈ pk_tbl ∧ Cond.selects (pk_cls 6) yX6_count yX6_count ∈ pk_tbl ∧ 6 < 8 := ⟨yi_X6_count, pk_tb (List.mem_of_getElem? (i := 478) (by decide +kernel)) (by decide +kernel), by decide⟩
theorem yw_X6_figuresOf : pk_YW yX6_figuresOf cX6_figuresOf 3 (some .int) 1 := ⟨pk_tb (List.mem_of_getElem? (i := 482) (by decide +kernel)) (by decide +kernel), pk_tb (List.mem_of_getElem? (i := 77) (by decide +kernel)) (by decide +kernel), by decide, by decide +kernel, by decide⟩
theorem ys_X6_figuresOf : Cond.static yX6_figuresOf ∈ pk_tbl := pk_tb (List.mem_of_getElem? (i := 481) (by decide +kernel)) (by decide +kernel)
theorem yw_X6_unlikeLooks : pk_YW yX6_unlikeLooks cX6_unlikeLooks 1 (some .int) 0 := ⟨pk_tb (List.mem_of_getElem? (i := 486) (by decide +kernel)) (by decide +kernel), pk_tb (List.mem_of_getElem? (i := 77) (by decide +kernel)) (by decide +kernel), by decide, by decide +kernel, by decide⟩
theorem yi_X6_unlikeLooks : Cond.instanceMethod yX6_unlikeLooks ∈ pk_tbl := pk_tb (List.mem_of_getElem? (i := 485) (by decide +kernel)) (by decide +kernel)
theorem yv_X6_unlikeLooks : Cond.instanceMethod yX6_unlikeLooks ∈ pk_tbl ∧ Cond.selects (pk_cls 6) yX6_unlikeLooks yX6_unlikeLooks ∈ pk_tbl ∧ 6 < 8 := ⟨yi_X6_unlikeLooks, pk_tb (List.mem_of_getElem? (i := 12) (by decide +kernel)) (by decide +kernel), by decide⟩
theorem yw_X4_setsDrawn : pk_YW yX4_setsDrawn cX4_setsDrawn 4 (some .int) 0 := ⟨pk_tb (List.mem_of_getElem? (i := 490) (by decide +kernel)) (by decide +kernel), pk_tb (List.mem_of_getElem? (i := 78) (by decide +kernel)) (by decide +kernel), by decide, by decide +kernel, by decide⟩
theorem yi_X4_setsDrawn : Cond.instanceMethod yX4_setsDrawn ∈ pk_tbl := pk_tb (List.mem_of_getElem? (i := 488) (by decide +kernel)) (by decide +kernel)
theorem yv_X4_setsDrawn : Cond.instanceMethod yX4_setsDrawn ∈ pk_tbl ∧ Cond.selects (pk_cls 4) yX4_setsDrawn yX4_setsDrawn ∈ pk_tbl ∧ 4 < 8 := ⟨yi_X4_setsDrawn, pk_tb (List.mem_of_getElem? (i := 489) (by decide +kernel)) (by decide +kernel), by decide⟩
theorem yw_X1_unlikeOf : pk_YW yX1_unlikeOf cX1_unlikeOf 4 (some .int) 1 := ⟨pk_tb (List.mem_of_getElem? (i := 494) (by decide +kernel)) (by decide +kernel), pk_tb (List.mem_of_getElem? (i := 80) (by decide +kernel)) (by decide +kernel), by decide, by decide +kernel, by decide⟩
theorem yi_X1_unlikeOf : Cond.instanceMethod yX1_unlikeOf ∈ pk_tbl := pk_tb (List.mem_of_getElem? (i := 492) (by decide +kernel)) (by decide +kernel)
theorem yv_X1_unlikeOf : Cond.instanceMethod yX1_unlikeOf ∈ pk_tbl ∧ Cond.selects (pk_cls 1) yX1_unlikeOf yX1_unlikeOf ∈ pk_tbl ∧ 1 < 8 := ⟨yi_X1_unlikeOf, pk_tb (List.mem_of_getElem? (i := 493) (by decide +kernel)) (by decide +kernel), by decide⟩
theorem yw_X1_isDrawnBelow : pk_YW yX1_isDrawnBelow cX1_isDrawnBelow 4 (some .boolean) 2 := ⟨pk_tb (List.mem_of_getElem? (i := 499) (by decide +kernel)) (by decide +kernel), pk_tb (List.mem_of_getElem? (i := 80) (by decide +kernel)) (by decide +kernel), by decide, by decide +kernel, by decide⟩
theorem yi_X1_isDrawnBelow : Cond.instanceMethod yX1_isDrawnBelow ∈ pk_tbl := pk_tb (List.mem_of_getElem? (i := 498) (by decide +kernel)) (by decide +kernel)
theorem yv_X1_isDrawnBelow : Cond.instanceMethod yX1_isDrawnBelow ∈ pk_tbl ∧ Cond.selects (pk_cls 1) yX1_isDrawnBelow yX1_isDrawnBelow ∈ pk_tbl ∧ 1 < 8 := ⟨yi_X1_isDrawnBelow, pk_tb (List.mem_of_getElem? (i := 13) (by decide +kernel)) (by decide +kernel), by decide⟩
theorem yw_X6_fewestInks : pk_YW yX6_fewestInks cX6_fewestInks 1 (some .int) 0 := ⟨pk_tb (List.mem_of_getElem? (i := 503) (by decide +kernel)) (by decide +kernel), pk_tb (List.mem_of_getElem? (i := 77) (by decide +kernel)) (by decide +kernel), by decide, by decide +kernel, by decide⟩
theorem yi_X6_fewestInks : Cond.instanceMethod yX6_fewestInks ∈ pk_tbl := pk_tb (List.mem_of_getElem? (i := 502) (by decide +kernel)) (by decide +kernel)
theorem yv_X6_fewestInks : Cond.instanceMethod yX6_fewestInks ∈ pk_tbl ∧ Cond.selects (pk_cls 6) yX6_fewestInks yX6_fewestInks ∈ pk_tbl ∧ 6 < 8 := ⟨yi_X6_fewestInks, pk_tb (List.mem_of_getElem? (i := 14) (by decide +kernel)) (by decide +kernel), by decide⟩
theorem yw_X1_fewestFor : pk_YW yX1_fewestFor cX1_fewestFor 4 (some .int) 1 := ⟨pk_tb (List.mem_of_getElem? (i := 507) (by decide +kernel)) (by decide +kernel), pk_tb (List.mem_of_getElem? (i := 80) (by decide +kernel)) (by decide +kernel), by decide, by decide +kernel, by decide⟩
theorem yi_X1_fewestFor : Cond.instanceMethod yX1_fewestFor ∈ pk_tbl := pk_tb (List.mem_of_getElem? (i := 505) (by decide +kernel)) (by decide +kernel)
theorem yv_X1_fewestFor : Cond.instanceMethod yX1_fewestFor ∈ pk_tbl ∧ Cond.selects (pk_cls 1) yX1_fewestFor yX1_fewestFor ∈ pk_tbl ∧ 1 < 8 := ⟨yi_X1_fewestFor, pk_tb (List.mem_of_getElem? (i := 506) (by decide +kernel)) (by decide +kernel), by decide⟩
theorem yw_J6_bitCount_0f7a4 : pk_YW yJ6_bitCount_0f7a4 cJ6_bitCount_0f7a4 1 (some .int) 1 := ⟨pk_tb (List.mem_of_getElem? (i := 510) (by decide +kernel)) (by decide +kernel), pk_tb (List.mem_of_getElem? (i := 87) (by decide +kernel)) (by decide +kernel), by decide, by decide +kernel, by decide⟩
theorem ys_J6_bitCount_0f7a4 : Cond.static yJ6_bitCount_0f7a4 ∈ pk_tbl := pk_tb (List.mem_of_getElem? (i := 509) (by decide +kernel)) (by decide +kernel)
theorem yw_X1_canPrintAll : pk_YW yX1_canPrintAll cX1_canPrintAll 4 (some .boolean) 2 := ⟨pk_tb (List.mem_of_getElem? (i := 517) (by decide +kernel)) (by decide +kernel), pk_tb (List.mem_of_getElem? (i := 80) (by decide +kernel)) (by decide +kernel), by decide, by decide +kernel, by decide⟩
theorem yi_X1_canPrintAll : Cond.instanceMethod yX1_canPrintAll ∈ pk_tbl := pk_tb (List.mem_of_getElem? (i := 516) (by decide +kernel)) (by decide +kernel)
theorem yv_X1_canPrintAll : Cond.instanceMethod yX1_canPrintAll ∈ pk_tbl ∧ Cond.selects (pk_cls 1) yX1_canPrintAll yX1_canPrintAll ∈ pk_tbl ∧ 1 < 8 := ⟨yi_X1_canPrintAll, pk_tb (List.mem_of_getElem? (i := 15) (by decide +kernel)) (by decide +kernel), by decide⟩
theorem yw_X1_canPrint : pk_YW yX1_canPrint cX1_canPrint 4 (some .boolean) 2 := ⟨pk_tb (List.mem_of_getElem? (i := 521) (by decide +kernel)) (by decide +kernel), pk_tb (List.mem_of_getElem? (i := 80) (by decide +kernel)) (by decide +kernel), by decide, by decide +kernel, by decide⟩
theorem yi_X1_canPrint : Cond.instanceMethod yX1_canPrint ∈ pk_tbl := pk_tb (List.mem_of_getElem? (i := 520) (by decide +kernel)) (by decide +kernel)
theorem yv_X1_canPrint : Cond.instanceMethod yX1_canPrint ∈ pk_tbl ∧ Cond.selects (pk_cls 1) yX1_canPrint yX1_canPrint ∈ pk_tbl ∧ 1 < 8 := ⟨yi_X1_canPrint, pk_tb (List.mem_of_getElem? (i := 16) (by decide +kernel)) (by decide +kernel), by decide⟩
theorem yw_X6_worstAside : pk_YW yX6_worstAside cX6_worstAside 7 (some .int) 0 := ⟨pk_tb (List.mem_of_getElem? (i := 525) (by decide +kernel)) (by decide +kernel), pk_tb (List.mem_of_getElem? (i := 77) (by decide +kernel)) (by decide +kernel), by decide, by decide +kernel, by decide⟩
theorem yi_X6_worstAside : Cond.instanceMethod yX6_worstAside ∈ pk_tbl := pk_tb (List.mem_of_getElem? (i := 524) (by decide +kernel)) (by decide +kernel)
theorem yv_X6_worstAside : Cond.instanceMethod yX6_worstAside ∈ pk_tbl ∧ Cond.selects (pk_cls 6) yX6_worstAside yX6_worstAside ∈ pk_tbl ∧ 6 < 8 := ⟨yi_X6_worstAside, pk_tb (List.mem_of_getElem? (i := 17) (by decide +kernel)) (by decide +kernel), by decide⟩
theorem yw_X6_gapsBy : pk_YW yX6_gapsBy cX6_gapsBy 7 (some .int) 3 := ⟨pk_tb (List.mem_of_getElem? (i := 529) (by decide +kernel)) (by decide +kernel), pk_tb (List.mem_of_getElem? (i := 77) (by decide +kernel)) (by decide +kernel), by decide, by decide +kernel, by decide⟩
theorem yi_X6_gapsBy : Cond.instanceMethod yX6_gapsBy ∈ pk_tbl := pk_tb (List.mem_of_getElem? (i := 528) (by decide +kernel)) (by decide +kernel)
theorem yv_X6_gapsBy : Cond.instanceMethod yX6_gapsBy ∈ pk_tbl ∧ Cond.selects (pk_cls 6) yX6_gapsBy yX6_gapsBy ∈ pk_tbl ∧ 6 < 8 := ⟨yi_X6_gapsBy, pk_tb (List.mem_of_getElem? (i := 18) (by decide +kernel)) (by decide +kernel), by decide⟩
theorem yw_X6_printedBy : pk_YW yX6_printedBy cX6_printedBy 7 (some .int) 5 := ⟨pk_tb (List.mem_of_getElem? (i := 533) (by decide +kernel)) (by decide +kernel), pk_tb (List.mem_of_getElem? (i := 77) (by decide +kernel)) (by decide +kernel), by decide, by decide +kernel, by decide⟩
theorem yi_X6_printedBy : Cond.instanceMethod yX6_printedBy ∈ pk_tbl := pk_tb (List.mem_of_getElem? (i := 532) (by decide +kernel)) (by decide +kernel)
theorem yv_X6_printedBy : Cond.instanceMethod yX6_printedBy ∈ pk_tbl ∧ Cond.selects (pk_cls 6) yX6_printedBy yX6_printedBy ∈ pk_tbl ∧ 6 < 8 := ⟨yi_X6_printedBy, pk_tb (List.mem_of_getElem? (i := 19) (by decide +kernel)) (by decide +kernel), by decide⟩
theorem yw_X6_worstGaps : pk_YW yX6_worstGaps cX6_worstGaps 2 (some .int) 0 := ⟨pk_tb (List.mem_of_getElem? (i := 537) (by decide +kernel)) (by decide +kernel), pk_tb (List.mem_of_getElem? (i := 77) (by decide +kernel)) (by decide +kernel), by decide, by decide +kernel, by decide⟩
theorem yi_X6_worstGaps : Cond.instanceMethod yX6_worstGaps ∈ pk_tbl := pk_tb (List.mem_of_getElem? (i := 536) (by decide +kernel)) (by decide +kernel)
theorem yv_X6_worstGaps : Cond.instanceMethod yX6_worstGaps ∈ pk_tbl ∧ Cond.selects (pk_cls 6) yX6_worstGaps yX6_worstGaps ∈ pk_tbl ∧ 6 < 8 := ⟨yi_X6_worstGaps, pk_tb (List.mem_of_getElem? (i := 20) (by decide +kernel)) (by decide +kernel), by decide⟩
theorem yw_X6_ordersAlike : pk_YW yX6_ordersAlike cX6_ordersAlike 4 (some .int) 0 := ⟨pk_tb (List.mem_of_getElem? (i := 541) (by decide +kernel)) (by decide +kernel), pk_tb (List.mem_of_getElem? (i := 77) (by decide +kernel)) (by decide +kernel), by decide, by decide +kernel, by decide⟩
theorem yi_X6_ordersAlike : Cond.instanceMethod yX6_ordersAlike ∈ pk_tbl := pk_tb (List.mem_of_getElem? (i := 540) (by decide +kernel)) (by decide +kernel)
theorem yv_X6_ordersAlike : Cond.instanceMethod yX6_ordersAlike ∈ pk_tbl ∧ Cond.selects (pk_cls 6) yX6_ordersAlike yX6_ordersAlike ∈ pk_tbl ∧ 6 < 8 := ⟨yi_X6_ordersAlike, pk_tb (List.mem_of_getElem? (i := 21) (by decide +kernel)) (by decide +kernel), by decide⟩
theorem yw_X6_isAlikeByOrder : pk_YW yX6_isAlikeByOrder cX6_isAlikeByOrder 4 (some .boolean) 2 := ⟨pk_tb (List.mem_of_getElem? (i := 545) (by decide +kernel)) (by decide +kernel), pk_tb (List.mem_of_getElem? (i := 77) (by decide +kernel)) (by decide +kernel), by decide, by decide +kernel, by decide⟩
theorem yi_X6_isAlikeByOrder : Cond.instanceMethod yX6_isAlikeByOrder ∈ pk_tbl := pk_tb (List.mem_of_getElem? (i := 544) (by decide +kernel)) (by decide +kernel)
theorem yv_X6_isAlikeByOrder : Cond.instanceMethod yX6_isAlikeByOrder ∈ pk_tbl ∧ Cond.selects (pk_cls 6) yX6_isAlikeByOrder yX6_isAlikeByOrder ∈ pk_tbl ∧ 6 < 8 := ⟨yi_X6_isAlikeByOrder, pk_tb (List.mem_of_getElem? (i := 22) (by decide +kernel)) (by decide +kernel), by decide⟩
theorem yw_X6_writeOrder : pk_YW yX6_writeOrder cX6_writeOrder 7 none 2 := ⟨pk_tb (List.mem_of_getElem? (i := 548) (by decide +kernel)) (by decide +kernel), pk_tb (List.mem_of_getElem? (i := 77) (by decide +kernel)) (by decide +kernel), by decide, by decide +kernel, by decide⟩
theorem ys_X6_writeOrder : Cond.static yX6_writeOrder ∈ pk_tbl := pk_tb (List.mem_of_getElem? (i := 547) (by decide +kernel)) (by decide +kernel)
theorem yw_J9_max_7cf53 : pk_YW yJ9_max_7cf53 cJ9_max_7cf53 2 (some .int) 2 := ⟨pk_tb (List.mem_of_getElem? (i := 553) (by decide +kernel)) (by decide +kernel), pk_tb (List.mem_of_getElem? (i := 85) (by decide +kernel)) (by decide +kernel), by decide, by decide +kernel, by decide⟩
theorem ys_J9_max_7cf53 : Cond.static yJ9_max_7cf53 ∈ pk_tbl := pk_tb (List.mem_of_getElem? (i := 552) (by decide +kernel)) (by decide +kernel)
theorem yw_X6_nthInk : pk_YW yX6_nthInk cX6_nthInk 4 (some .int) 2 := ⟨pk_tb (List.mem_of_getElem? (i := 556) (by decide +kernel)) (by decide +kernel), pk_tb (List.mem_of_getElem? (i := 77) (by decide +kernel)) (by decide +kernel), by decide, by decide +kernel, by decide⟩
theorem ys_X6_nthInk : Cond.static yX6_nthInk ∈ pk_tbl := pk_tb (List.mem_of_getElem? (i := 555) (by decide +kernel)) (by decide +kernel)
theorem yw_X6_firstOrderAlike : pk_YW yX6_firstOrderAlike cX6_firstOrderAlike 3 (some .int) 0 := ⟨pk_tb (List.mem_of_getElem? (i := 560) (by decide +kernel)) (by decide +kernel), pk_tb (List.mem_of_getElem? (i := 77) (by decide +kernel)) (by decide +kernel), by decide, by decide +kernel, by decide⟩
theorem yi_X6_firstOrderAlike : Cond.instanceMethod yX6_firstOrderAlike ∈ pk_tbl := pk_tb (List.mem_of_getElem? (i := 559) (by decide +kernel)) (by decide +kernel)
theorem yv_X6_firstOrderAlike : Cond.instanceMethod yX6_firstOrderAlike ∈ pk_tbl ∧ Cond.selects (pk_cls 6) yX6_firstOrderAlike yX6_firstOrderAlike ∈ pk_tbl ∧ 6 < 8 := ⟨yi_X6_firstOrderAlike, pk_tb (List.mem_of_getElem? (i := 23) (by decide +kernel)) (by decide +kernel), by decide⟩
theorem yw_X6_orderByDark : pk_YW yX6_orderByDark cX6_orderByDark 4 (some .int) 0 := ⟨pk_tb (List.mem_of_getElem? (i := 564) (by decide +kernel)) (by decide +kernel), pk_tb (List.mem_of_getElem? (i := 77) (by decide +kernel)) (by decide +kernel), by decide, by decide +kernel, by decide⟩
theorem yi_X6_orderByDark : Cond.instanceMethod yX6_orderByDark ∈ pk_tbl := pk_tb (List.mem_of_getElem? (i := 563) (by decide +kernel)) (by decide +kernel)
theorem yv_X6_orderByDark : Cond.instanceMethod yX6_orderByDark ∈ pk_tbl ∧ Cond.selects (pk_cls 6) yX6_orderByDark yX6_orderByDark ∈ pk_tbl ∧ 6 < 8 := ⟨yi_X6_orderByDark, pk_tb (List.mem_of_getElem? (i := 24) (by decide +kernel)) (by decide +kernel), by decide⟩
theorem yw_X6_lighterInks : pk_YW yX6_lighterInks cX6_lighterInks 6 (some .int) 1 := ⟨pk_tb (List.mem_of_getElem? (i := 568) (by decide +kernel)) (by decide +kernel), pk_tb (List.mem_of_getElem? (i := 77) (by decide +kernel)) (by decide +kernel), by decide, by decide +kernel, by decide⟩
theorem yi_X6_lighterInks : Cond.instanceMethod yX6_lighterInks ∈ pk_tbl := pk_tb (List.mem_of_getElem? (i := 567) (by decide +kernel)) (by decide +kernel)
theorem yv_X6_lighterInks : Cond.instanceMethod yX6_lighterInks ∈ pk_tbl ∧ Cond.selects (pk_cls 6) yX6_lighterInks yX6_lighterInks ∈ pk_tbl ∧ 6 < 8 := ⟨yi_X6_lighterInks, pk_tb (List.mem_of_getElem? (i := 25) (by decide +kernel)) (by decide +kernel), by decide⟩
theorem yw_X4_inksDrawn : pk_YW yX4_inksDrawn cX4_inksDrawn 3 (some .int) 0 := ⟨pk_tb (List.mem_of_getElem? (i := 572) (by decide +kernel)) (by decide +kernel), pk_tb (List.mem_of_getElem? (i := 78) (by decide +kernel)) (by decide +kernel), by decide, by decide +kernel, by decide⟩
theorem yi_X4_inksDrawn : Cond.instanceMethod yX4_inksDrawn ∈ pk_tbl := pk_tb (List.mem_of_getElem? (i := 570) (by decide +kernel)) (by decide +kernel)
theorem yv_X4_inksDrawn : Cond.instanceMethod yX4_inksDrawn ∈ pk_tbl ∧ Cond.selects (pk_cls 4) yX4_inksDrawn yX4_inksDrawn ∈ pk_tbl ∧ 4 < 8 := ⟨yi_X4_inksDrawn, pk_tb (List.mem_of_getElem? (i := 571) (by decide +kernel)) (by decide +kernel), by decide⟩
theorem yw_X6_tell : pk_YW yX6_tell cX6_tell 4 (some .int) 3 := ⟨pk_tb (List.mem_of_getElem? (i := 576) (by decide +kernel)) (by decide +kernel), pk_tb (List.mem_of_getElem? (i := 77) (by decide +kernel)) (by decide +kernel), by decide, by decide +kernel, by decide⟩
theorem yi_X6_tell : Cond.instanceMethod yX6_tell ∈ pk_tbl := pk_tb (List.mem_of_getElem? (i := 574) (by decide +kernel)) (by decide +kernel)
theorem yv_X6_tell : Cond.instanceMethod yX6_tell ∈ pk_tbl ∧ Cond.selects (pk_cls 6) yX6_tell yX6_tell ∈ pk_tbl ∧ 6 < 8 := ⟨yi_X6_tell, pk_tb (List.mem_of_getElem? (i := 575) (by decide +kernel)) (by decide +kernel), by decide⟩
theorem yw_X2_keep : pk_YW yX2_keep cX2_keep 2 none 1 := ⟨pk_tb (List.mem_of_getElem? (i := 580) (by decide +kernel)) (by decide +kernel), pk_tb (List.mem_of_getElem? (i := 79) (by decide +kernel)) (by decide +kernel), by decide, by decide +kernel, by decide⟩
theorem yi_X2_keep : Cond.instanceMethod yX2_keep ∈ pk_tbl := pk_tb (List.mem_of_getElem? (i := 578) (by decide +kernel)) (by decide +kernel)
theorem yv_X2_keep : Cond.instanceMethod yX2_keep ∈ pk_tbl ∧ Cond.selects (pk_cls 2) yX2_keep yX2_keep ∈ pk_tbl ∧ 2 < 8 := ⟨yi_X2_keep, pk_tb (List.mem_of_getElem? (i := 579) (by decide +kernel)) (by decide +kernel), by decide⟩
theorem yw_X2_loseOldest : pk_YW yX2_loseOldest cX2_loseOldest 3 none 0 := ⟨pk_tb (List.mem_of_getElem? (i := 584) (by decide +kernel)) (by decide +kernel), pk_tb (List.mem_of_getElem? (i := 79) (by decide +kernel)) (by decide +kernel), by decide, by decide +kernel, by decide⟩
theorem yi_X2_loseOldest : Cond.instanceMethod yX2_loseOldest ∈ pk_tbl := pk_tb (List.mem_of_getElem? (i := 583) (by decide +kernel)) (by decide +kernel)
theorem yv_X2_loseOldest : Cond.instanceMethod yX2_loseOldest ∈ pk_tbl ∧ Cond.selects (pk_cls 2) yX2_loseOldest yX2_loseOldest ∈ pk_tbl ∧ 2 < 8 := ⟨yi_X2_loseOldest, pk_tb (List.mem_of_getElem? (i := 26) (by decide +kernel)) (by decide +kernel), by decide⟩
theorem yw_X4_become : pk_YW yX4_become cX4_become 2 none 1 := ⟨pk_tb (List.mem_of_getElem? (i := 589) (by decide +kernel)) (by decide +kernel), pk_tb (List.mem_of_getElem? (i := 78) (by decide +kernel)) (by decide +kernel), by decide, by decide +kernel, by decide⟩
theorem yi_X4_become : Cond.instanceMethod yX4_become ∈ pk_tbl := pk_tb (List.mem_of_getElem? (i := 587) (by decide +kernel)) (by decide +kernel)
theorem yv_X4_become : Cond.instanceMethod yX4_become ∈ pk_tbl ∧ Cond.selects (pk_cls 4) yX4_become yX4_become ∈ pk_tbl ∧ 4 < 8 := ⟨yi_X4_become, pk_tb (List.mem_of_getElem? (i := 588) (by decide +kernel)) (by decide +kernel), by decide⟩
theorem yw_X6_order : pk_YW yX6_order cX6_order 5 (some .int) 1 := ⟨pk_tb (List.mem_of_getElem? (i := 593) (by decide +kernel)) (by decide +kernel), pk_tb (List.mem_of_getElem? (i := 77) (by decide +kernel)) (by decide +kernel), by decide, by decide +kernel, by decide⟩
theorem yi_X6_order : Cond.instanceMethod yX6_order ∈ pk_tbl := pk_tb (List.mem_of_getElem? (i := 591) (by decide +kernel)) (by decide +kernel)
theorem yv_X6_order : Cond.instanceMethod yX6_order ∈ pk_tbl ∧ Cond.selects (pk_cls 6) yX6_order yX6_order ∈ pk_tbl ∧ 6 < 8 := ⟨yi_X6_order, pk_tb (List.mem_of_getElem? (i := 592) (by decide +kernel)) (by decide +kernel), by decide⟩
theorem yw_X6_isOrder : pk_YW yX6_isOrder cX6_isOrder 4 (some .boolean) 1 := ⟨pk_tb (List.mem_of_getElem? (i := 596) (by decide +kernel)) (by decide +kernel), pk_tb (List.mem_of_getElem? (i := 77) (by decide +kernel)) (by decide +kernel), by decide, by decide +kernel, by decide⟩
theorem ys_X6_isOrder : Cond.static yX6_isOrder ∈ pk_tbl := pk_tb (List.mem_of_getElem? (i := 595) (by decide +kernel)) (by decide +kernel)
theorem yw_X6_put : pk_YW yX6_put cX6_put 5 (some .int) 3 := ⟨pk_tb (List.mem_of_getElem? (i := 601) (by decide +kernel)) (by decide +kernel), pk_tb (List.mem_of_getElem? (i := 77) (by decide +kernel)) (by decide +kernel), by decide, by decide +kernel, by decide⟩
theorem yi_X6_put : Cond.instanceMethod yX6_put ∈ pk_tbl := pk_tb (List.mem_of_getElem? (i := 599) (by decide +kernel)) (by decide +kernel)
theorem yv_X6_put : Cond.instanceMethod yX6_put ∈ pk_tbl ∧ Cond.selects (pk_cls 6) yX6_put yX6_put ∈ pk_tbl ∧ 6 < 8 := ⟨yi_X6_put, pk_tb (List.mem_of_getElem? (i := 600) (by decide +kernel)) (by decide +kernel), by decide⟩
theorem yw_X4_write : pk_YW yX4_write cX4_write 4 none 3 := ⟨pk_tb (List.mem_of_getElem? (i := 605) (by decide +kernel)) (by decide +kernel), pk_tb (List.mem_of_getElem? (i := 78) (by decide +kernel)) (by decide +kernel), by decide, by decide +kernel, by decide⟩
theorem yi_X4_write : Cond.instanceMethod yX4_write ∈ pk_tbl := pk_tb (List.mem_of_getElem? (i := 603) (by decide +kernel)) (by decide +kernel)
theorem yv_X4_write : Cond.instanceMethod yX4_write ∈ pk_tbl ∧ Cond.selects (pk_cls 4) yX4_write yX4_write ∈ pk_tbl ∧ 4 < 8 := ⟨yi_X4_write, pk_tb (List.mem_of_getElem? (i := 604) (by decide +kernel)) (by decide +kernel), by decide⟩
theorem yw_X6_fill : pk_YW yX6_fill cX6_fill 5 (some .int) 2 := ⟨pk_tb (List.mem_of_getElem? (i := 609) (by decide +kernel)) (by decide +kernel), pk_tb (List.mem_of_getElem? (i := 77) (by decide +kernel)) (by decide +kernel), by decide, by decide +kernel, by decide⟩
theorem yi_X6_fill : Cond.instanceMethod yX6_fill ∈ pk_tbl := pk_tb (List.mem_of_getElem? (i := 607) (by decide +kernel)) (by decide +kernel)
theorem yv_X6_fill : Cond.instanceMethod yX6_fill ∈ pk_tbl ∧ Cond.selects (pk_cls 6) yX6_fill yX6_fill ∈ pk_tbl ∧ 6 < 8 := ⟨yi_X6_fill, pk_tb (List.mem_of_getElem? (i := 608) (by decide +kernel)) (by decide +kernel), by decide⟩
theorem yw_X6_grow : pk_YW yX6_grow cX6_grow 3 (some .int) 0 := ⟨pk_tb (List.mem_of_getElem? (i := 613) (by decide +kernel)) (by decide +kernel), pk_tb (List.mem_of_getElem? (i := 77) (by decide +kernel)) (by decide +kernel), by decide, by decide +kernel, by decide⟩
theorem yi_X6_grow : Cond.instanceMethod yX6_grow ∈ pk_tbl := pk_tb (List.mem_of_getElem? (i := 611) (by decide +kernel)) (by decide +kernel)
theorem yv_X6_grow : Cond.instanceMethod yX6_grow ∈ pk_tbl ∧ Cond.selects (pk_cls 6) yX6_grow yX6_grow ∈ pk_tbl ∧ 6 < 8 := ⟨yi_X6_grow, pk_tb (List.mem_of_getElem? (i := 612) (by decide +kernel)) (by decide +kernel), by decide⟩
theorem yw_X6_growAside : pk_YW yX6_growAside cX6_growAside 3 none 0 := ⟨pk_tb (List.mem_of_getElem? (i := 617) (by decide +kernel)) (by decide +kernel), pk_tb (List.mem_of_getElem? (i := 77) (by decide +kernel)) (by decide +kernel), by decide, by decide +kernel, by decide⟩
theorem yi_X6_growAside : Cond.instanceMethod yX6_growAside ∈ pk_tbl := pk_tb (List.mem_of_getElem? (i := 616) (by decide +kernel)) (by decide +kernel)
theorem yv_X6_growAside : Cond.instanceMethod yX6_growAside ∈ pk_tbl ∧ Cond.selects (pk_cls 6) yX6_growAside yX6_growAside ∈ pk_tbl ∧ 6 < 8 := ⟨yi_X6_growAside, pk_tb (List.mem_of_getElem? (i := 27) (by decide +kernel)) (by decide +kernel), by decide⟩
theorem yw_X6_growBetween : pk_YW yX6_growBetween cX6_growBetween 5 none 2 := ⟨pk_tb (List.mem_of_getElem? (i := 623) (by decide +kernel)) (by decide +kernel), pk_tb (List.mem_of_getElem? (i := 77) (by decide +kernel)) (by decide +kernel), by decide, by decide +kernel, by decide⟩
theorem yi_X6_growBetween : Cond.instanceMethod yX6_growBetween ∈ pk_tbl := pk_tb (List.mem_of_getElem? (i := 622) (by decide +kernel)) (by decide +kernel)
theorem yv_X6_growBetween : Cond.instanceMethod yX6_growBetween ∈ pk_tbl ∧ Cond.selects (pk_cls 6) yX6_growBetween yX6_growBetween ∈ pk_tbl ∧ 6 < 8 := ⟨yi_X6_growBetween, pk_tb (List.mem_of_getElem? (i := 28) (by decide +kernel)) (by decide +kernel), by decide⟩
theorem yw_X1_darkOfSet : pk_YW yX1_darkOfSet cX1_darkOfSet 2 (some .int) 1 := ⟨pk_tb (List.mem_of_getElem? (i := 627) (by decide +kernel)) (by decide +kernel), pk_tb (List.mem_of_getElem? (i := 80) (by decide +kernel)) (by decide +kernel), by decide, by decide +kernel, by decide⟩
theorem yi_X1_darkOfSet : Cond.instanceMethod yX1_darkOfSet ∈ pk_tbl := pk_tb (List.mem_of_getElem? (i := 625) (by decide +kernel)) (by decide +kernel)
theorem yv_X1_darkOfSet : Cond.instanceMethod yX1_darkOfSet ∈ pk_tbl ∧ Cond.selects (pk_cls 1) yX1_darkOfSet yX1_darkOfSet ∈ pk_tbl ∧ 1 < 8 := ⟨yi_X1_darkOfSet, pk_tb (List.mem_of_getElem? (i := 626) (by decide +kernel)) (by decide +kernel), by decide⟩
theorem yw_X6_size : pk_YW yX6_size cX6_size 4 (some .int) 2 := ⟨pk_tb (List.mem_of_getElem? (i := 632) (by decide +kernel)) (by decide +kernel), pk_tb (List.mem_of_getElem? (i := 77) (by decide +kernel)) (by decide +kernel), by decide, by decide +kernel, by decide⟩
theorem yi_X6_size : Cond.instanceMethod yX6_size ∈ pk_tbl := pk_tb (List.mem_of_getElem? (i := 630) (by decide +kernel)) (by decide +kernel)
theorem yv_X6_size : Cond.instanceMethod yX6_size ∈ pk_tbl ∧ Cond.selects (pk_cls 6) yX6_size yX6_size ∈ pk_tbl ∧ 6 < 8 := ⟨yi_X6_size, pk_tb (List.mem_of_getElem? (i := 631) (by decide +kernel)) (by decide +kernel), by decide⟩
theorem yw_X4_clearOutside : pk_YW yX4_clearOutside cX4_clearOutside 3 none 0 := ⟨pk_tb (List.mem_of_getElem? (i := 636) (by decide +kernel)) (by decide +kernel), pk_tb (List.mem_of_getElem? (i := 78) (by decide +kernel)) (by decide +kernel), by decide, by decide +kernel, by decide⟩
theorem yi_X4_clearOutside : Cond.instanceMethod yX4_clearOutside ∈ pk_tbl := pk_tb (List.mem_of_getElem? (i := 634) (by decide +kernel)) (by decide +kernel)
theorem yv_X4_clearOutside : Cond.instanceMethod yX4_clearOutside ∈ pk_tbl ∧ Cond.selects (pk_cls 4) yX4_clearOutside yX4_clearOutside ∈ pk_tbl ∧ 4 < 8 := ⟨yi_X4_clearOutside, pk_tb (List.mem_of_getElem? (i := 635) (by decide +kernel)) (by decide +kernel), by decide⟩
theorem yw_X6_drift : pk_YW yX6_drift cX6_drift 3 (some .int) 1 := ⟨pk_tb (List.mem_of_getElem? (i := 640) (by decide +kernel)) (by decide +kernel), pk_tb (List.mem_of_getElem? (i := 77) (by decide +kernel)) (by decide +kernel), by decide, by decide +kernel, by decide⟩
theorem yi_X6_drift : Cond.instanceMethod yX6_drift ∈ pk_tbl := pk_tb (List.mem_of_getElem? (i := 638) (by decide +kernel)) (by decide +kernel)
theorem yv_X6_drift : Cond.instanceMethod yX6_drift ∈ pk_tbl ∧ Cond.selects (pk_cls 6) yX6_drift yX6_drift ∈ pk_tbl ∧ 6 < 8 := ⟨yi_X6_drift, pk_tb (List.mem_of_getElem? (i := 639) (by decide +kernel)) (by decide +kernel), by decide⟩
theorem yw_X6_driftOnce : pk_YW yX6_driftOnce cX6_driftOnce 2 none 0 := ⟨pk_tb (List.mem_of_getElem? (i := 644) (by decide +kernel)) (by decide +kernel), pk_tb (List.mem_of_getElem? (i := 77) (by decide +kernel)) (by decide +kernel), by decide, by decide +kernel, by decide⟩
theorem yi_X6_driftOnce : Cond.instanceMethod yX6_driftOnce ∈ pk_tbl := pk_tb (List.mem_of_getElem? (i := 643) (by decide +kernel)) (by decide +kernel)
theorem yv_X6_driftOnce : Cond.instanceMethod yX6_driftOnce ∈ pk_tbl ∧ Cond.selects (pk_cls 6) yX6_driftOnce yX6_driftOnce ∈ pk_tbl ∧ 6 < 8 := ⟨yi_X6_driftOnce, pk_tb (List.mem_of_getElem? (i := 29) (by decide +kernel)) (by decide +kernel), by decide⟩
theorem yw_X6_undo : pk_YW yX6_undo cX6_undo 1 (some .int) 0 := ⟨pk_tb (List.mem_of_getElem? (i := 652) (by decide +kernel)) (by decide +kernel), pk_tb (List.mem_of_getElem? (i := 77) (by decide +kernel)) (by decide +kernel), by decide, by decide +kernel, by decide⟩
theorem yi_X6_undo : Cond.instanceMethod yX6_undo ∈ pk_tbl := pk_tb (List.mem_of_getElem? (i := 650) (by decide +kernel)) (by decide +kernel)
theorem yv_X6_undo : Cond.instanceMethod yX6_undo ∈ pk_tbl ∧ Cond.selects (pk_cls 6) yX6_undo yX6_undo ∈ pk_tbl ∧ 6 < 8 := ⟨yi_X6_undo, pk_tb (List.mem_of_getElem? (i := 651) (by decide +kernel)) (by decide +kernel), by decide⟩
theorem yw_X2_bring : pk_YW yX2_bring cX2_bring 2 (some .boolean) 1 := ⟨pk_tb (List.mem_of_getElem? (i := 656) (by decide +kernel)) (by decide +kernel), pk_tb (List.mem_of_getElem? (i := 79) (by decide +kernel)) (by decide +kernel), by decide, by decide +kernel, by decide⟩
theorem yi_X2_bring : Cond.instanceMethod yX2_bring ∈ pk_tbl := pk_tb (List.mem_of_getElem? (i := 654) (by decide +kernel)) (by decide +kernel)
theorem yv_X2_bring : Cond.instanceMethod yX2_bring ∈ pk_tbl ∧ Cond.selects (pk_cls 2) yX2_bring yX2_bring ∈ pk_tbl ∧ 2 < 8 := ⟨yi_X2_bring, pk_tb (List.mem_of_getElem? (i := 655) (by decide +kernel)) (by decide +kernel), by decide⟩
theorem yw_X6_seed : pk_YW yX6_seed cX6_seed 3 (some .int) 1 := ⟨pk_tb (List.mem_of_getElem? (i := 660) (by decide +kernel)) (by decide +kernel), pk_tb (List.mem_of_getElem? (i := 77) (by decide +kernel)) (by decide +kernel), by decide, by decide +kernel, by decide⟩
theorem yi_X6_seed : Cond.instanceMethod yX6_seed ∈ pk_tbl := pk_tb (List.mem_of_getElem? (i := 658) (by decide +kernel)) (by decide +kernel)
theorem yv_X6_seed : Cond.instanceMethod yX6_seed ∈ pk_tbl ∧ Cond.selects (pk_cls 6) yX6_seed yX6_seed ∈ pk_tbl ∧ 6 < 8 := ⟨yi_X6_seed, pk_tb (List.mem_of_getElem? (i := 659) (by decide +kernel)) (by decide +kernel), by decide⟩
theorem yw_X6_gaps : pk_YW yX6_gaps cX6_gaps 4 (some .int) 3 := ⟨pk_tb (List.mem_of_getElem? (i := 664) (by decide +kernel)) (by decide +kernel), pk_tb (List.mem_of_getElem? (i := 77) (by decide +kernel)) (by decide +kernel), by decide, by decide +kernel, by decide⟩
theorem yi_X6_gaps : Cond.instanceMethod yX6_gaps ∈ pk_tbl := pk_tb (List.mem_of_getElem? (i := 662) (by decide +kernel)) (by decide +kernel)
theorem yv_X6_gaps : Cond.instanceMethod yX6_gaps ∈ pk_tbl ∧ Cond.selects (pk_cls 6) yX6_gaps yX6_gaps ∈ pk_tbl ∧ 6 < 8 := ⟨yi_X6_gaps, pk_tb (List.mem_of_getElem? (i := 663) (by decide +kernel)) (by decide +kernel), by decide⟩
theorem yw_X6_isPlateAside : pk_YW yX6_isPlateAside cX6_isPlateAside 3 (some .boolean) 3 := ⟨pk_tb (List.mem_of_getElem? (i := 667) (by decide +kernel)) (by decide +kernel), pk_tb (List.mem_of_getElem? (i := 77) (by decide +kernel)) (by decide +kernel), by decide, by decide +kernel, by decide⟩
theorem ys_X6_isPlateAside : Cond.static yX6_isPlateAside ∈ pk_tbl := pk_tb (List.mem_of_getElem? (i := 666) (by decide +kernel)) (by decide +kernel)
theorem yw_X6_aside : pk_YW yX6_aside cX6_aside 6 (some .int) 5 := ⟨pk_tb (List.mem_of_getElem? (i := 671) (by decide +kernel)) (by decide +kernel), pk_tb (List.mem_of_getElem? (i := 77) (by decide +kernel)) (by decide +kernel), by decide, by decide +kernel, by decide⟩
theorem yi_X6_aside : Cond.instanceMethod yX6_aside ∈ pk_tbl := pk_tb (List.mem_of_getElem? (i := 669) (by decide +kernel)) (by decide +kernel)
theorem yv_X6_aside : Cond.instanceMethod yX6_aside ∈ pk_tbl ∧ Cond.selects (pk_cls 6) yX6_aside yX6_aside ∈ pk_tbl ∧ 6 < 8 := ⟨yi_X6_aside, pk_tb (List.mem_of_getElem? (i := 670) (by decide +kernel)) (by decide +kernel), by decide⟩
theorem yw_X6_fail : pk_YW yX6_fail cX6_fail 6 (some .int) 2 := ⟨pk_tb (List.mem_of_getElem? (i := 675) (by decide +kernel)) (by decide +kernel), pk_tb (List.mem_of_getElem? (i := 77) (by decide +kernel)) (by decide +kernel), by decide, by decide +kernel, by decide⟩
theorem yi_X6_fail : Cond.instanceMethod yX6_fail ∈ pk_tbl := pk_tb (List.mem_of_getElem? (i := 673) (by decide +kernel)) (by decide +kernel)
theorem yv_X6_fail : Cond.instanceMethod yX6_fail ∈ pk_tbl ∧ Cond.selects (pk_cls 6) yX6_fail yX6_fail ∈ pk_tbl ∧ 6 < 8 := ⟨yi_X6_fail, pk_tb (List.mem_of_getElem? (i := 674) (by decide +kernel)) (by decide +kernel), by decide⟩
theorem yw_X6_gaplessOdds : pk_YW yX6_gaplessOdds cX6_gaplessOdds 7 (some .int) 1 := ⟨pk_tb (List.mem_of_getElem? (i := 679) (by decide +kernel)) (by decide +kernel), pk_tb (List.mem_of_getElem? (i := 77) (by decide +kernel)) (by decide +kernel), by decide, by decide +kernel, by decide⟩
theorem yi_X6_gaplessOdds : Cond.instanceMethod yX6_gaplessOdds ∈ pk_tbl := pk_tb (List.mem_of_getElem? (i := 678) (by decide +kernel)) (by decide +kernel)
theorem yv_X6_gaplessOdds : Cond.instanceMethod yX6_gaplessOdds ∈ pk_tbl ∧ Cond.selects (pk_cls 6) yX6_gaplessOdds yX6_gaplessOdds ∈ pk_tbl ∧ 6 < 8 := ⟨yi_X6_gaplessOdds, pk_tb (List.mem_of_getElem? (i := 30) (by decide +kernel)) (by decide +kernel), by decide⟩
theorem yw_X6_leavesGap : pk_YW yX6_leavesGap cX6_leavesGap 3 (some .boolean) 2 := ⟨pk_tb (List.mem_of_getElem? (i := 682) (by decide +kernel)) (by decide +kernel), pk_tb (List.mem_of_getElem? (i := 77) (by decide +kernel)) (by decide +kernel), by decide, by decide +kernel, by decide⟩
theorem ys_X6_leavesGap : Cond.static yX6_leavesGap ∈ pk_tbl := pk_tb (List.mem_of_getElem? (i := 681) (by decide +kernel)) (by decide +kernel)
theorem yw_X6_power : pk_YW yX6_power cX6_power 4 (some .int) 2 := ⟨pk_tb (List.mem_of_getElem? (i := 686) (by decide +kernel)) (by decide +kernel), pk_tb (List.mem_of_getElem? (i := 77) (by decide +kernel)) (by decide +kernel), by decide, by decide +kernel, by decide⟩
theorem ys_X6_power : Cond.static yX6_power ∈ pk_tbl := pk_tb (List.mem_of_getElem? (i := 685) (by decide +kernel)) (by decide +kernel)
theorem yw_X6_commonDivisor : pk_YW yX6_commonDivisor cX6_commonDivisor 6 (some .int) 2 := ⟨pk_tb (List.mem_of_getElem? (i := 689) (by decide +kernel)) (by decide +kernel), pk_tb (List.mem_of_getElem? (i := 77) (by decide +kernel)) (by decide +kernel), by decide, by decide +kernel, by decide⟩
theorem ys_X6_commonDivisor : Cond.static yX6_commonDivisor ∈ pk_tbl := pk_tb (List.mem_of_getElem? (i := 688) (by decide +kernel)) (by decide +kernel)
theorem yw_X6_image : pk_YW yX6_image cX6_image 1 (some .int) 0 := ⟨pk_tb (List.mem_of_getElem? (i := 693) (by decide +kernel)) (by decide +kernel), pk_tb (List.mem_of_getElem? (i := 77) (by decide +kernel)) (by decide +kernel), by decide, by decide +kernel, by decide⟩
theorem yi_X6_image : Cond.instanceMethod yX6_image ∈ pk_tbl := pk_tb (List.mem_of_getElem? (i := 691) (by decide +kernel)) (by decide +kernel)
theorem yv_X6_image : Cond.instanceMethod yX6_image ∈ pk_tbl ∧ Cond.selects (pk_cls 6) yX6_image yX6_image ∈ pk_tbl ∧ 6 < 8 := ⟨yi_X6_image, pk_tb (List.mem_of_getElem? (i := 692) (by decide +kernel)) (by decide +kernel), by decide⟩
theorem yw_X2_become : pk_YW yX2_become cX2_become 3 none 1 := ⟨pk_tb (List.mem_of_getElem? (i := 698) (by decide +kernel)) (by decide +kernel), pk_tb (List.mem_of_getElem? (i := 79) (by decide +kernel)) (by decide +kernel), by decide, by decide +kernel, by decide⟩
theorem yi_X2_become : Cond.instanceMethod yX2_become ∈ pk_tbl := pk_tb (List.mem_of_getElem? (i := 696) (by decide +kernel)) (by decide +kernel)
theorem yv_X2_become : Cond.instanceMethod yX2_become ∈ pk_tbl ∧ Cond.selects (pk_cls 2) yX2_become yX2_become ∈ pk_tbl ∧ 2 < 8 := ⟨yi_X2_become, pk_tb (List.mem_of_getElem? (i := 697) (by decide +kernel)) (by decide +kernel), by decide⟩
theorem yw_X6_restore : pk_YW yX6_restore cX6_restore 1 (some .int) 0 := ⟨pk_tb (List.mem_of_getElem? (i := 702) (by decide +kernel)) (by decide +kernel), pk_tb (List.mem_of_getElem? (i := 77) (by decide +kernel)) (by decide +kernel), by decide, by decide +kernel, by decide⟩
theorem yi_X6_restore : Cond.instanceMethod yX6_restore ∈ pk_tbl := pk_tb (List.mem_of_getElem? (i := 700) (by decide +kernel)) (by decide +kernel)
theorem yv_X6_restore : Cond.instanceMethod yX6_restore ∈ pk_tbl ∧ Cond.selects (pk_cls 6) yX6_restore yX6_restore ∈ pk_tbl ∧ 6 < 8 := ⟨yi_X6_restore, pk_tb (List.mem_of_getElem? (i := 701) (by decide +kernel)) (by decide +kernel), by decide⟩
theorem yw_X6_seen : pk_YW yX6_seen cX6_seen 8 (some .int) 5 := ⟨pk_tb (List.mem_of_getElem? (i := 706) (by decide +kernel)) (by decide +kernel), pk_tb (List.mem_of_getElem? (i := 77) (by decide +kernel)) (by decide +kernel), by decide, by decide +kernel, by decide⟩
theorem yi_X6_seen : Cond.instanceMethod yX6_seen ∈ pk_tbl := pk_tb (List.mem_of_getElem? (i := 704) (by decide +kernel)) (by decide +kernel)
theorem yv_X6_seen : Cond.instanceMethod yX6_seen ∈ pk_tbl ∧ Cond.selects (pk_cls 6) yX6_seen yX6_seen ∈ pk_tbl ∧ 6 < 8 := ⟨yi_X6_seen, pk_tb (List.mem_of_getElem? (i := 705) (by decide +kernel)) (by decide +kernel), by decide⟩
theorem yw_X6_isTaking : pk_YW yX6_isTaking cX6_isTaking 2 (some .boolean) 2 := ⟨pk_tb (List.mem_of_getElem? (i := 709) (by decide +kernel)) (by decide +kernel), pk_tb (List.mem_of_getElem? (i := 77) (by decide +kernel)) (by decide +kernel), by decide, by decide +kernel, by decide⟩
theorem ys_X6_isTaking : Cond.static yX6_isTaking ∈ pk_tbl := pk_tb (List.mem_of_getElem? (i := 708) (by decide +kernel)) (by decide +kernel)
theorem yw_X3_whyNot : pk_YW yX3_whyNot cX3_whyNot 4 (some .int) 3 := ⟨pk_tb (List.mem_of_getElem? (i := 713) (by decide +kernel)) (by decide +kernel), pk_tb (List.mem_of_getElem? (i := 83) (by decide +kernel)) (by decide +kernel), by decide, by decide +kernel, by decide⟩
theorem yi_X3_whyNot : Cond.instanceMethod yX3_whyNot ∈ pk_tbl := pk_tb (List.mem_of_getElem? (i := 711) (by decide +kernel)) (by decide +kernel)
theorem yv_X3_whyNot : Cond.instanceMethod yX3_whyNot ∈ pk_tbl ∧ Cond.selects (pk_cls 3) yX3_whyNot yX3_whyNot ∈ pk_tbl ∧ 3 < 8 := ⟨yi_X3_whyNot, pk_tb (List.mem_of_getElem? (i := 712) (by decide +kernel)) (by decide +kernel), by decide⟩
theorem yw_X3_hasItems : pk_YW yX3_hasItems cX3_hasItems 3 (some .boolean) 2 := ⟨pk_tb (List.mem_of_getElem? (i := 717) (by decide +kernel)) (by decide +kernel), pk_tb (List.mem_of_getElem? (i := 83) (by decide +kernel)) (by decide +kernel), by decide, by decide +kernel, by decide⟩
theorem yi_X3_hasItems : Cond.instanceMethod yX3_hasItems ∈ pk_tbl := pk_tb (List.mem_of_getElem? (i := 715) (by decide +kernel)) (by decide +kernel)
theorem yv_X3_hasItems : Cond.instanceMethod yX3_hasItems ∈ pk_tbl ∧ Cond.selects (pk_cls 3) yX3_hasItems yX3_hasItems ∈ pk_tbl ∧ 3 < 8 := ⟨yi_X3_hasItems, pk_tb (List.mem_of_getElem? (i := 716) (by decide +kernel)) (by decide +kernel), by decide⟩
theorem yw_X6_tellsSets : pk_YW yX6_tellsSets cX6_tellsSets 6 (some .boolean) 3 := ⟨pk_tb (List.mem_of_getElem? (i := 720) (by decide +kernel)) (by decide +kernel), pk_tb (List.mem_of_getElem? (i := 77) (by decide +kernel)) (by decide +kernel), by decide, by decide +kernel, by decide⟩
theorem ys_X6_tellsSets : Cond.static yX6_tellsSets ∈ pk_tbl := pk_tb (List.mem_of_getElem? (i := 719) (by decide +kernel)) (by decide +kernel)
theorem yw_X3_at : pk_YW yX3_at cX3_at 2 (some .long) 1 := ⟨pk_tb (List.mem_of_getElem? (i := 724) (by decide +kernel)) (by decide +kernel), pk_tb (List.mem_of_getElem? (i := 83) (by decide +kernel)) (by decide +kernel), by decide, by decide +kernel, by decide⟩
theorem yi_X3_at : Cond.instanceMethod yX3_at ∈ pk_tbl := pk_tb (List.mem_of_getElem? (i := 722) (by decide +kernel)) (by decide +kernel)
theorem yv_X3_at : Cond.instanceMethod yX3_at ∈ pk_tbl ∧ Cond.selects (pk_cls 3) yX3_at yX3_at ∈ pk_tbl ∧ 3 < 8 := ⟨yi_X3_at, pk_tb (List.mem_of_getElem? (i := 723) (by decide +kernel)) (by decide +kernel), by decide⟩
theorem yw_X6_kindsSeen : pk_YW yX6_kindsSeen cX6_kindsSeen 7 (some .int) 4 := ⟨pk_tb (List.mem_of_getElem? (i := 730) (by decide +kernel)) (by decide +kernel), pk_tb (List.mem_of_getElem? (i := 77) (by decide +kernel)) (by decide +kernel), by decide, by decide +kernel, by decide⟩
theorem yi_X6_kindsSeen : Cond.instanceMethod yX6_kindsSeen ∈ pk_tbl := pk_tb (List.mem_of_getElem? (i := 729) (by decide +kernel)) (by decide +kernel)
theorem yv_X6_kindsSeen : Cond.instanceMethod yX6_kindsSeen ∈ pk_tbl ∧ Cond.selects (pk_cls 6) yX6_kindsSeen yX6_kindsSeen ∈ pk_tbl ∧ 6 < 8 := ⟨yi_X6_kindsSeen, pk_tb (List.mem_of_getElem? (i := 31) (by decide +kernel)) (by decide +kernel), by decide⟩
theorem yw_X6_looksAsTold : pk_YW yX6_looksAsTold cX6_looksAsTold 6 (some .boolean) 3 := ⟨pk_tb (List.mem_of_getElem? (i := 734) (by decide +kernel)) (by decide +kernel), pk_tb (List.mem_of_getElem? (i := 77) (by decide +kernel)) (by decide +kernel), by decide, by decide +kernel, by decide⟩
theorem yi_X6_looksAsTold : Cond.instanceMethod yX6_looksAsTold ∈ pk_tbl := pk_tb (List.mem_of_getElem? (i := 733) (by decide +kernel)) (by decide +kernel)
theorem yv_X6_looksAsTold : Cond.instanceMethod yX6_looksAsTold ∈ pk_tbl ∧ Cond.selects (pk_cls 6) yX6_looksAsTold yX6_looksAsTold ∈ pk_tbl ∧ 6 < 8 := ⟨yi_X6_looksAsTold, pk_tb (List.mem_of_getElem? (i := 32) (by decide +kernel)) (by decide +kernel), by decide⟩
theorem yw_X6_film : pk_YW yX6_film cX6_film 8 (some .int) 4 := ⟨pk_tb (List.mem_of_getElem? (i := 738) (by decide +kernel)) (by decide +kernel), pk_tb (List.mem_of_getElem? (i := 77) (by decide +kernel)) (by decide +kernel), by decide, by decide +kernel, by decide⟩
theorem yi_X6_film : Cond.instanceMethod yX6_film ∈ pk_tbl := pk_tb (List.mem_of_getElem? (i := 736) (by decide +kernel)) (by decide +kernel)
theorem yv_X6_film : Cond.instanceMethod yX6_film ∈ pk_tbl ∧ Cond.selects (pk_cls 6) yX6_film yX6_film ∈ pk_tbl ∧ 6 < 8 := ⟨yi_X6_film, pk_tb (List.mem_of_getElem? (i := 737) (by decide +kernel)) (by decide +kernel), by decide⟩
theorem yw_X3_write : pk_YW yX3_write cX3_write 4 none 2 := ⟨pk_tb (List.mem_of_getElem? (i := 742) (by decide +kernel)) (by decide +kernel), pk_tb (List.mem_of_getElem? (i := 83) (by decide +kernel)) (by decide +kernel), by decide, by decide +kernel, by decide⟩
theorem yi_X3_write : Cond.instanceMethod yX3_write ∈ pk_tbl := pk_tb (List.mem_of_getElem? (i := 740) (by decide +kernel)) (by decide +kernel)
theorem yv_X3_write : Cond.instanceMethod yX3_write ∈ pk_tbl ∧ Cond.selects (pk_cls 3) yX3_write yX3_write ∈ pk_tbl ∧ 3 < 8 := ⟨yi_X3_write, pk_tb (List.mem_of_getElem? (i := 741) (by decide +kernel)) (by decide +kernel), by decide⟩
theorem yw_X3_lowestBits : pk_YW yX3_lowestBits cX3_lowestBits 3 (some .long) 1 := ⟨pk_tb (List.mem_of_getElem? (i := 746) (by decide +kernel)) (by decide +kernel), pk_tb (List.mem_of_getElem? (i := 83) (by decide +kernel)) (by decide +kernel), by decide, by decide +kernel, by decide⟩
theorem yi_X3_lowestBits : Cond.instanceMethod yX3_lowestBits ∈ pk_tbl := pk_tb (List.mem_of_getElem? (i := 745) (by decide +kernel)) (by decide +kernel)
theorem yv_X3_lowestBits : Cond.instanceMethod yX3_lowestBits ∈ pk_tbl ∧ Cond.selects (pk_cls 3) yX3_lowestBits yX3_lowestBits ∈ pk_tbl ∧ 3 < 8 := ⟨yi_X3_lowestBits, pk_tb (List.mem_of_getElem? (i := 33) (by decide +kernel)) (by decide +kernel), by decide⟩
theorem yw_X6_sheet : pk_YW yX6_sheet cX6_sheet 4 (some .int) 3 := ⟨pk_tb (List.mem_of_getElem? (i := 750) (by decide +kernel)) (by decide +kernel), pk_tb (List.mem_of_getElem? (i := 77) (by decide +kernel)) (by decide +kernel), by decide, by decide +kernel, by decide⟩
theorem yi_X6_sheet : Cond.instanceMethod yX6_sheet ∈ pk_tbl := pk_tb (List.mem_of_getElem? (i := 748) (by decide +kernel)) (by decide +kernel)
theorem yv_X6_sheet : Cond.instanceMethod yX6_sheet ∈ pk_tbl ∧ Cond.selects (pk_cls 6) yX6_sheet yX6_sheet ∈ pk_tbl ∧ 6 < 8 := ⟨yi_X6_sheet, pk_tb (List.mem_of_getElem? (i := 749) (by decide +kernel)) (by decide +kernel), by decide⟩
theorem yw_X3_begin : pk_YW yX3_begin cX3_begin 4 none 2 := ⟨pk_tb (List.mem_of_getElem? (i := 754) (by decide +kernel)) (by decide +kernel), pk_tb (List.mem_of_getElem? (i := 83) (by decide +kernel)) (by decide +kernel), by decide, by decide +kernel, by decide⟩
theorem yi_X3_begin : Cond.instanceMethod yX3_begin ∈ pk_tbl := pk_tb (List.mem_of_getElem? (i := 752) (by decide +kernel)) (by decide +kernel)
theorem yv_X3_begin : Cond.instanceMethod yX3_begin ∈ pk_tbl ∧ Cond.selects (pk_cls 3) yX3_begin yX3_begin ∈ pk_tbl ∧ 3 < 8 := ⟨yi_X3_begin, pk_tb (List.mem_of_getElem? (i := 753) (by decide +kernel)) (by decide +kernel), by decide⟩
theorem yw_X6_drop : pk_YW yX6_drop cX6_drop 3 (some .int) 1 := ⟨pk_tb (List.mem_of_getElem? (i := 758) (by decide +kernel)) (by decide +kernel), pk_tb (List.mem_of_getElem? (i := 77) (by decide +kernel)) (by decide +kernel), by decide, by decide +kernel, by decide⟩
theorem yi_X6_drop : Cond.instanceMethod yX6_drop ∈ pk_tbl := pk_tb (List.mem_of_getElem? (i := 756) (by decide +kernel)) (by decide +kernel)
theorem yv_X6_drop : Cond.instanceMethod yX6_drop ∈ pk_tbl ∧ Cond.selects (pk_cls 6) yX6_drop yX6_drop ∈ pk_tbl ∧ 6 < 8 := ⟨yi_X6_drop, pk_tb (List.mem_of_getElem? (i := 757) (by decide +kernel)) (by decide +kernel), by decide⟩
theorem yw_X6_item : pk_YW yX6_item cX6_item 7 (some .int) 4 := ⟨pk_tb (List.mem_of_getElem? (i := 762) (by decide +kernel)) (by decide +kernel), pk_tb (List.mem_of_getElem? (i := 77) (by decide +kernel)) (by decide +kernel), by decide, by decide +kernel, by decide⟩
theorem yi_X6_item : Cond.instanceMethod yX6_item ∈ pk_tbl := pk_tb (List.mem_of_getElem? (i := 760) (by decide +kernel)) (by decide +kernel)
theorem yv_X6_item : Cond.instanceMethod yX6_item ∈ pk_tbl ∧ Cond.selects (pk_cls 6) yX6_item yX6_item ∈ pk_tbl ∧ 6 < 8 := ⟨yi_X6_item, pk_tb (List.mem_of_getElem? (i := 761) (by decide +kernel)) (by decide +kernel), by decide⟩
theorem yw_X6_copy : pk_YW yX6_copy cX6_copy 8 (some .int) 5 := ⟨pk_tb (List.mem_of_getElem? (i := 766) (by decide +kernel)) (by decide +kernel), pk_tb (List.mem_of_getElem? (i := 77) (by decide +kernel)) (by decide +kernel), by decide, by decide +kernel, by decide⟩
theorem yi_X6_copy : Cond.instanceMethod yX6_copy ∈ pk_tbl := pk_tb (List.mem_of_getElem? (i := 764) (by decide +kernel)) (by decide +kernel)
theorem yv_X6_copy : Cond.instanceMethod yX6_copy ∈ pk_tbl ∧ Cond.selects (pk_cls 6) yX6_copy yX6_copy ∈ pk_tbl ∧ 6 < 8 := ⟨yi_X6_copy, pk_tb (List.mem_of_getElem? (i := 765) (by decide +kernel)) (by decide +kernel), by decide⟩
theorem yw_X7_init : pk_YW yX7_init cX7_init 2 none 0 := ⟨pk_tb (List.mem_of_getElem? (i := 772) (by decide +kernel)) (by decide +kernel), pk_tb (List.mem_of_getElem? (i := 84) (by decide +kernel)) (by decide +kernel), by decide, by decide +kernel, by decide⟩
theorem yi_X7_init : Cond.instanceMethod yX7_init ∈ pk_tbl := pk_tb (List.mem_of_getElem? (i := 771) (by decide +kernel)) (by decide +kernel)
theorem yw_X7_area : pk_YW yX7_area cX7_area 4 (some .int) 2 := ⟨pk_tb (List.mem_of_getElem? (i := 841) (by decide +kernel)) (by decide +kernel), pk_tb (List.mem_of_getElem? (i := 84) (by decide +kernel)) (by decide +kernel), by decide, by decide +kernel, by decide⟩
theorem yi_X7_area : Cond.instanceMethod yX7_area ∈ pk_tbl := pk_tb (List.mem_of_getElem? (i := 839) (by decide +kernel)) (by decide +kernel)
theorem yv_X7_area : Cond.instanceMethod yX7_area ∈ pk_tbl ∧ Cond.selects (pk_cls 7) yX7_area yX7_area ∈ pk_tbl ∧ 7 < 8 := ⟨yi_X7_area, pk_tb (List.mem_of_getElem? (i := 840) (by decide +kernel)) (by decide +kernel), by decide⟩
theorem yw_X7_areas : pk_YW yX7_areas cX7_areas 5 (some .int) 0 := ⟨pk_tb (List.mem_of_getElem? (i := 845) (by decide +kernel)) (by decide +kernel), pk_tb (List.mem_of_getElem? (i := 84) (by decide +kernel)) (by decide +kernel), by decide, by decide +kernel, by decide⟩
theorem yi_X7_areas : Cond.instanceMethod yX7_areas ∈ pk_tbl := pk_tb (List.mem_of_getElem? (i := 844) (by decide +kernel)) (by decide +kernel)
theorem yv_X7_areas : Cond.instanceMethod yX7_areas ∈ pk_tbl ∧ Cond.selects (pk_cls 7) yX7_areas yX7_areas ∈ pk_tbl ∧ 7 < 8 := ⟨yi_X7_areas, pk_tb (List.mem_of_getElem? (i := 34) (by decide +kernel)) (by decide +kernel), by decide⟩
theorem yw_X7_isIn : pk_YW yX7_isIn cX7_isIn 2 (some .boolean) 1 := ⟨pk_tb (List.mem_of_getElem? (i := 849) (by decide +kernel)) (by decide +kernel), pk_tb (List.mem_of_getElem? (i := 84) (by decide +kernel)) (by decide +kernel), by decide, by decide +kernel, by decide⟩
theorem yi_X7_isIn : Cond.instanceMethod yX7_isIn ∈ pk_tbl := pk_tb (List.mem_of_getElem? (i := 848) (by decide +kernel)) (by decide +kernel)
theorem yv_X7_isIn : Cond.instanceMethod yX7_isIn ∈ pk_tbl ∧ Cond.selects (pk_cls 7) yX7_isIn yX7_isIn ∈ pk_tbl ∧ 7 < 8 := ⟨yi_X7_isIn, pk_tb (List.mem_of_getElem? (i := 35) (by decide +kernel)) (by decide +kernel), by decide⟩
theorem yw_X7_isPlace : pk_YW yX7_isPlace cX7_isPlace 3 (some .boolean) 2 := ⟨pk_tb (List.mem_of_getElem? (i := 853) (by decide +kernel)) (by decide +kernel), pk_tb (List.mem_of_getElem? (i := 84) (by decide +kernel)) (by decide +kernel), by decide, by decide +kernel, by decide⟩
theorem yi_X7_isPlace : Cond.instanceMethod yX7_isPlace ∈ pk_tbl := pk_tb (List.mem_of_getElem? (i := 852) (by decide +kernel)) (by decide +kernel)
theorem yv_X7_isPlace : Cond.instanceMethod yX7_isPlace ∈ pk_tbl ∧ Cond.selects (pk_cls 7) yX7_isPlace yX7_isPlace ∈ pk_tbl ∧ 7 < 8 := ⟨yi_X7_isPlace, pk_tb (List.mem_of_getElem? (i := 36) (by decide +kernel)) (by decide +kernel), by decide⟩
theorem yw_X7_in : pk_YW yX7_in cX7_in 6 (some .boolean) 3 := ⟨pk_tb (List.mem_of_getElem? (i := 856) (by decide +kernel)) (by decide +kernel), pk_tb (List.mem_of_getElem? (i := 84) (by decide +kernel)) (by decide +kernel), by decide, by decide +kernel, by decide⟩
theorem ys_X7_in : Cond.static yX7_in ∈ pk_tbl := pk_tb (List.mem_of_getElem? (i := 855) (by decide +kernel)) (by decide +kernel)
theorem yw_X7_leastBeside : pk_YW yX7_leastBeside cX7_leastBeside 5 (some .int) 1 := ⟨pk_tb (List.mem_of_getElem? (i := 860) (by decide +kernel)) (by decide +kernel), pk_tb (List.mem_of_getElem? (i := 84) (by decide +kernel)) (by decide +kernel), by decide, by decide +kernel, by decide⟩
theorem yi_X7_leastBeside : Cond.instanceMethod yX7_leastBeside ∈ pk_tbl := pk_tb (List.mem_of_getElem? (i := 859) (by decide +kernel)) (by decide +kernel)
theorem yv_X7_leastBeside : Cond.instanceMethod yX7_leastBeside ∈ pk_tbl ∧ Cond.selects (pk_cls 7) yX7_leastBeside yX7_leastBeside ∈ pk_tbl ∧ 7 < 8 := ⟨yi_X7_leastBeside, pk_tb (List.mem_of_getElem? (i := 37) (by decide +kernel)) (by decide +kernel), by decide⟩
theorem yw_X7_beside : pk_YW yX7_beside cX7_beside 5 (some .int) 2 := ⟨pk_tb (List.mem_of_getElem? (i := 864) (by decide +kernel)) (by decide +kernel), pk_tb (List.mem_of_getElem? (i := 84) (by decide +kernel)) (by decide +kernel), by decide, by decide +kernel, by decide⟩
theorem yi_X7_beside : Cond.instanceMethod yX7_beside ∈ pk_tbl := pk_tb (List.mem_of_getElem? (i := 863) (by decide +kernel)) (by decide +kernel)
theorem yv_X7_beside : Cond.instanceMethod yX7_beside ∈ pk_tbl ∧ Cond.selects (pk_cls 7) yX7_beside yX7_beside ∈ pk_tbl ∧ 7 < 8 := ⟨yi_X7_beside, pk_tb (List.mem_of_getElem? (i := 38) (by decide +kernel)) (by decide +kernel), by decide⟩
theorem yw_X7_setAt : pk_YW yX7_setAt cX7_setAt 2 (some .int) 1 := ⟨pk_tb (List.mem_of_getElem? (i := 868) (by decide +kernel)) (by decide +kernel), pk_tb (List.mem_of_getElem? (i := 84) (by decide +kernel)) (by decide +kernel), by decide, by decide +kernel, by decide⟩
theorem yi_X7_setAt : Cond.instanceMethod yX7_setAt ∈ pk_tbl := pk_tb (List.mem_of_getElem? (i := 867) (by decide +kernel)) (by decide +kernel)
theorem yv_X7_setAt : Cond.instanceMethod yX7_setAt ∈ pk_tbl ∧ Cond.selects (pk_cls 7) yX7_setAt yX7_setAt ∈ pk_tbl ∧ 7 < 8 := ⟨yi_X7_setAt, pk_tb (List.mem_of_getElem? (i := 39) (by decide +kernel)) (by decide +kernel), by decide⟩
theorem yw_X7_placesOfArea : pk_YW yX7_placesOfArea cX7_placesOfArea 4 (some .int) 1 := ⟨pk_tb (List.mem_of_getElem? (i := 872) (by decide +kernel)) (by decide +kernel), pk_tb (List.mem_of_getElem? (i := 84) (by decide +kernel)) (by decide +kernel), by decide, by decide +kernel, by decide⟩
theorem yi_X7_placesOfArea : Cond.instanceMethod yX7_placesOfArea ∈ pk_tbl := pk_tb (List.mem_of_getElem? (i := 871) (by decide +kernel)) (by decide +kernel)
theorem yv_X7_placesOfArea : Cond.instanceMethod yX7_placesOfArea ∈ pk_tbl ∧ Cond.selects (pk_cls 7) yX7_placesOfArea yX7_placesOfArea ∈ pk_tbl ∧ 7 < 8 := ⟨yi_X7_placesOfArea, pk_tb (List.mem_of_getElem? (i := 40) (by decide +kernel)) (by decide +kernel), by decide⟩
theorem yw_X7_isOf : pk_YW yX7_isOf cX7_isOf 3 (some .boolean) 2 := ⟨pk_tb (List.mem_of_getElem? (i := 876) (by decide +kernel)) (by decide +kernel), pk_tb (List.mem_of_getElem? (i := 84) (by decide +kernel)) (by decide +kernel), by decide, by decide +kernel, by decide⟩
theorem yi_X7_isOf : Cond.instanceMethod yX7_isOf ∈ pk_tbl := pk_tb (List.mem_of_getElem? (i := 875) (by decide +kernel)) (by decide +kernel)
theorem yv_X7_isOf : Cond.instanceMethod yX7_isOf ∈ pk_tbl ∧ Cond.selects (pk_cls 7) yX7_isOf yX7_isOf ∈ pk_tbl ∧ 7 < 8 := ⟨yi_X7_isOf, pk_tb (List.mem_of_getElem? (i := 41) (by decide +kernel)) (by decide +kernel), by decide⟩
theorem yw_X7_neighbours : pk_YW yX7_neighbours cX7_neighbours 5 (some .int) 2 := ⟨pk_tb (List.mem_of_getElem? (i := 880) (by decide +kernel)) (by decide +kernel), pk_tb (List.mem_of_getElem? (i := 84) (by decide +kernel)) (by decide +kernel), by decide, by decide +kernel, by decide⟩
theorem yi_X7_neighbours : Cond.instanceMethod yX7_neighbours ∈ pk_tbl := pk_tb (List.mem_of_getElem? (i := 879) (by decide +kernel)) (by decide +kernel)
theorem yv_X7_neighbours : Cond.instanceMethod yX7_neighbours ∈ pk_tbl ∧ Cond.selects (pk_cls 7) yX7_neighbours yX7_neighbours ∈ pk_tbl ∧ 7 < 8 := ⟨yi_X7_neighbours, pk_tb (List.mem_of_getElem? (i := 42) (by decide +kernel)) (by decide +kernel), by decide⟩
theorem yw_X7_isBeside : pk_YW yX7_isBeside cX7_isBeside 7 (some .boolean) 2 := ⟨pk_tb (List.mem_of_getElem? (i := 884) (by decide +kernel)) (by decide +kernel), pk_tb (List.mem_of_getElem? (i := 84) (by decide +kernel)) (by decide +kernel), by decide, by decide +kernel, by decide⟩
theorem yi_X7_isBeside : Cond.instanceMethod yX7_isBeside ∈ pk_tbl := pk_tb (List.mem_of_getElem? (i := 883) (by decide +kernel)) (by decide +kernel)
theorem yv_X7_isBeside : Cond.instanceMethod yX7_isBeside ∈ pk_tbl ∧ Cond.selects (pk_cls 7) yX7_isBeside yX7_isBeside ∈ pk_tbl ∧ 7 < 8 := ⟨yi_X7_isBeside, pk_tb (List.mem_of_getElem? (i := 43) (by decide +kernel)) (by decide +kernel), by decide⟩
theorem yw_X7_greater : pk_YW yX7_greater cX7_greater 7 (some .int) 2 := ⟨pk_tb (List.mem_of_getElem? (i := 888) (by decide +kernel)) (by decide +kernel), pk_tb (List.mem_of_getElem? (i := 84) (by decide +kernel)) (by decide +kernel), by decide, by decide +kernel, by decide⟩
theorem yi_X7_greater : Cond.instanceMethod yX7_greater ∈ pk_tbl := pk_tb (List.mem_of_getElem? (i := 887) (by decide +kernel)) (by decide +kernel)
theorem yv_X7_greater : Cond.instanceMethod yX7_greater ∈ pk_tbl ∧ Cond.selects (pk_cls 7) yX7_greater yX7_greater ∈ pk_tbl ∧ 7 < 8 := ⟨yi_X7_greater, pk_tb (List.mem_of_getElem? (i := 44) (by decide +kernel)) (by decide +kernel), by decide⟩
theorem yw_X7_ink : pk_YW yX7_ink cX7_ink 3 (some .int) 2 := ⟨pk_tb (List.mem_of_getElem? (i := 892) (by decide +kernel)) (by decide +kernel), pk_tb (List.mem_of_getElem? (i := 84) (by decide +kernel)) (by decide +kernel), by decide, by decide +kernel, by decide⟩
theorem yi_X7_ink : Cond.instanceMethod yX7_ink ∈ pk_tbl := pk_tb (List.mem_of_getElem? (i := 890) (by decide +kernel)) (by decide +kernel)
theorem yv_X7_ink : Cond.instanceMethod yX7_ink ∈ pk_tbl ∧ Cond.selects (pk_cls 7) yX7_ink yX7_ink ∈ pk_tbl ∧ 7 < 8 := ⟨yi_X7_ink, pk_tb (List.mem_of_getElem? (i := 891) (by decide +kernel)) (by decide +kernel), by decide⟩
theorem yw_X7_isInk : pk_YW yX7_isInk cX7_isInk 1 (some .boolean) 1 := ⟨pk_tb (List.mem_of_getElem? (i := 895) (by decide +kernel)) (by decide +kernel), pk_tb (List.mem_of_getElem? (i := 84) (by decide +kernel)) (by decide +kernel), by decide, by decide +kernel, by decide⟩
theorem ys_X7_isInk : Cond.static yX7_isInk ∈ pk_tbl := pk_tb (List.mem_of_getElem? (i := 894) (by decide +kernel)) (by decide +kernel)
theorem yw_X7_rankIn : pk_YW yX7_rankIn cX7_rankIn 5 (some .int) 2 := ⟨pk_tb (List.mem_of_getElem? (i := 899) (by decide +kernel)) (by decide +kernel), pk_tb (List.mem_of_getElem? (i := 84) (by decide +kernel)) (by decide +kernel), by decide, by decide +kernel, by decide⟩
theorem ys_X7_rankIn : Cond.static yX7_rankIn ∈ pk_tbl := pk_tb (List.mem_of_getElem? (i := 898) (by decide +kernel)) (by decide +kernel)
theorem yw_X7_dark : pk_YW yX7_dark cX7_dark 3 (some .int) 1 := ⟨pk_tb (List.mem_of_getElem? (i := 903) (by decide +kernel)) (by decide +kernel), pk_tb (List.mem_of_getElem? (i := 84) (by decide +kernel)) (by decide +kernel), by decide, by decide +kernel, by decide⟩
theorem yi_X7_dark : Cond.instanceMethod yX7_dark ∈ pk_tbl := pk_tb (List.mem_of_getElem? (i := 902) (by decide +kernel)) (by decide +kernel)
theorem yv_X7_dark : Cond.instanceMethod yX7_dark ∈ pk_tbl ∧ Cond.selects (pk_cls 7) yX7_dark yX7_dark ∈ pk_tbl ∧ 7 < 8 := ⟨yi_X7_dark, pk_tb (List.mem_of_getElem? (i := 45) (by decide +kernel)) (by decide +kernel), by decide⟩
theorem yw_X7_lookOf : pk_YW yX7_lookOf cX7_lookOf 2 (some .int) 1 := ⟨pk_tb (List.mem_of_getElem? (i := 907) (by decide +kernel)) (by decide +kernel), pk_tb (List.mem_of_getElem? (i := 84) (by decide +kernel)) (by decide +kernel), by decide, by decide +kernel, by decide⟩
theorem yi_X7_lookOf : Cond.instanceMethod yX7_lookOf ∈ pk_tbl := pk_tb (List.mem_of_getElem? (i := 906) (by decide +kernel)) (by decide +kernel)
theorem yv_X7_lookOf : Cond.instanceMethod yX7_lookOf ∈ pk_tbl ∧ Cond.selects (pk_cls 7) yX7_lookOf yX7_lookOf ∈ pk_tbl ∧ 7 < 8 := ⟨yi_X7_lookOf, pk_tb (List.mem_of_getElem? (i := 46) (by decide +kernel)) (by decide +kernel), by decide⟩
theorem yw_X7_lookBy : pk_YW yX7_lookBy cX7_lookBy 5 (some .int) 4 := ⟨pk_tb (List.mem_of_getElem? (i := 911) (by decide +kernel)) (by decide +kernel), pk_tb (List.mem_of_getElem? (i := 84) (by decide +kernel)) (by decide +kernel), by decide, by decide +kernel, by decide⟩
theorem yi_X7_lookBy : Cond.instanceMethod yX7_lookBy ∈ pk_tbl := pk_tb (List.mem_of_getElem? (i := 910) (by decide +kernel)) (by decide +kernel)
theorem yv_X7_lookBy : Cond.instanceMethod yX7_lookBy ∈ pk_tbl ∧ Cond.selects (pk_cls 7) yX7_lookBy yX7_lookBy ∈ pk_tbl ∧ 7 < 8 := ⟨yi_X7_lookBy, pk_tb (List.mem_of_getElem? (i := 47) (by decide +kernel)) (by decide +kernel), by decide⟩
theorem yw_X7_number : pk_YW yX7_number cX7_number 9 (some .int) 5 := ⟨pk_tb (List.mem_of_getElem? (i := 915) (by decide +kernel)) (by decide +kernel), pk_tb (List.mem_of_getElem? (i := 84) (by decide +kernel)) (by decide +kernel), by decide, by decide +kernel, by decide⟩
theorem yi_X7_number : Cond.instanceMethod yX7_number ∈ pk_tbl := pk_tb (List.mem_of_getElem? (i := 914) (by decide +kernel)) (by decide +kernel)
theorem yv_X7_number : Cond.instanceMethod yX7_number ∈ pk_tbl ∧ Cond.selects (pk_cls 7) yX7_number yX7_number ∈ pk_tbl ∧ 7 < 8 := ⟨yi_X7_number, pk_tb (List.mem_of_getElem? (i := 48) (by decide +kernel)) (by decide +kernel), by decide⟩
theorem yw_X7_hasInk : pk_YW yX7_hasInk cX7_hasInk 2 (some .boolean) 2 := ⟨pk_tb (List.mem_of_getElem? (i := 918) (by decide +kernel)) (by decide +kernel), pk_tb (List.mem_of_getElem? (i := 84) (by decide +kernel)) (by decide +kernel), by decide, by decide +kernel, by decide⟩
theorem ys_X7_hasInk : Cond.static yX7_hasInk ∈ pk_tbl := pk_tb (List.mem_of_getElem? (i := 917) (by decide +kernel)) (by decide +kernel)
theorem yw_X7_over : pk_YW yX7_over cX7_over 4 (some .int) 3 := ⟨pk_tb (List.mem_of_getElem? (i := 921) (by decide +kernel)) (by decide +kernel), pk_tb (List.mem_of_getElem? (i := 84) (by decide +kernel)) (by decide +kernel), by decide, by decide +kernel, by decide⟩
theorem ys_X7_over : Cond.static yX7_over ∈ pk_tbl := pk_tb (List.mem_of_getElem? (i := 920) (by decide +kernel)) (by decide +kernel)
theorem yw_X7_placesWith : pk_YW yX7_placesWith cX7_placesWith 4 (some .int) 1 := ⟨pk_tb (List.mem_of_getElem? (i := 925) (by decide +kernel)) (by decide +kernel), pk_tb (List.mem_of_getElem? (i := 84) (by decide +kernel)) (by decide +kernel), by decide, by decide +kernel, by decide⟩
theorem yi_X7_placesWith : Cond.instanceMethod yX7_placesWith ∈ pk_tbl := pk_tb (List.mem_of_getElem? (i := 924) (by decide +kernel)) (by decide +kernel)
theorem yv_X7_placesWith : Cond.instanceMethod yX7_placesWith ∈ pk_tbl ∧ Cond.selects (pk_cls 7) yX7_placesWith yX7_placesWith ∈ pk_tbl ∧ 7 < 8 := ⟨yi_X7_placesWith, pk_tb (List.mem_of_getElem? (i := 49) (by decide +kernel)) (by decide +kernel), by decide⟩
theorem yw_X7_set : pk_YW yX7_set cX7_set 3 (some .int) 2 := ⟨pk_tb (List.mem_of_getElem? (i := 929) (by decide +kernel)) (by decide +kernel), pk_tb (List.mem_of_getElem? (i := 84) (by decide +kernel)) (by decide +kernel), by decide, by decide +kernel, by decide⟩
theorem yi_X7_set : Cond.instanceMethod yX7_set ∈ pk_tbl := pk_tb (List.mem_of_getElem? (i := 927) (by decide +kernel)) (by decide +kernel)
theorem yv_X7_set : Cond.instanceMethod yX7_set ∈ pk_tbl ∧ Cond.selects (pk_cls 7) yX7_set yX7_set ∈ pk_tbl ∧ 7 < 8 := ⟨yi_X7_set, pk_tb (List.mem_of_getElem? (i := 928) (by decide +kernel)) (by decide +kernel), by decide⟩
theorem yw_X7_isSet : pk_YW yX7_isSet cX7_isSet 2 (some .boolean) 1 := ⟨pk_tb (List.mem_of_getElem? (i := 932) (by decide +kernel)) (by decide +kernel), pk_tb (List.mem_of_getElem? (i := 84) (by decide +kernel)) (by decide +kernel), by decide, by decide +kernel, by decide⟩
theorem ys_X7_isSet : Cond.static yX7_isSet ∈ pk_tbl := pk_tb (List.mem_of_getElem? (i := 931) (by decide +kernel)) (by decide +kernel)
theorem yw_X7_alike : pk_YW yX7_alike cX7_alike 4 (some .int) 1 := ⟨pk_tb (List.mem_of_getElem? (i := 937) (by decide +kernel)) (by decide +kernel), pk_tb (List.mem_of_getElem? (i := 84) (by decide +kernel)) (by decide +kernel), by decide, by decide +kernel, by decide⟩
theorem yi_X7_alike : Cond.instanceMethod yX7_alike ∈ pk_tbl := pk_tb (List.mem_of_getElem? (i := 936) (by decide +kernel)) (by decide +kernel)
theorem yv_X7_alike : Cond.instanceMethod yX7_alike ∈ pk_tbl ∧ Cond.selects (pk_cls 7) yX7_alike yX7_alike ∈ pk_tbl ∧ 7 < 8 := ⟨yi_X7_alike, pk_tb (List.mem_of_getElem? (i := 50) (by decide +kernel)) (by decide +kernel), by decide⟩
theorem yw_X7_placesOf : pk_YW yX7_placesOf cX7_placesOf 4 (some .int) 1 := ⟨pk_tb (List.mem_of_getElem? (i := 941) (by decide +kernel)) (by decide +kernel), pk_tb (List.mem_of_getElem? (i := 84) (by decide +kernel)) (by decide +kernel), by decide, by decide +kernel, by decide⟩
theorem yi_X7_placesOf : Cond.instanceMethod yX7_placesOf ∈ pk_tbl := pk_tb (List.mem_of_getElem? (i := 940) (by decide +kernel)) (by decide +kernel)
theorem yv_X7_placesOf : Cond.instanceMethod yX7_placesOf ∈ pk_tbl ∧ Cond.selects (pk_cls 7) yX7_placesOf yX7_placesOf ∈ pk_tbl ∧ 7 < 8 := ⟨yi_X7_placesOf, pk_tb (List.mem_of_getElem? (i := 51) (by decide +kernel)) (by decide +kernel), by decide⟩
theorem yw_X7_place : pk_YW yX7_place cX7_place 5 (some .int) 3 := ⟨pk_tb (List.mem_of_getElem? (i := 945) (by decide +kernel)) (by decide +kernel), pk_tb (List.mem_of_getElem? (i := 84) (by decide +kernel)) (by decide +kernel), by decide, by decide +kernel, by decide⟩
theorem yi_X7_place : Cond.instanceMethod yX7_place ∈ pk_tbl := pk_tb (List.mem_of_getElem? (i := 943) (by decide +kernel)) (by decide +kernel)
theorem yv_X7_place : Cond.instanceMethod yX7_place ∈ pk_tbl ∧ Cond.selects (pk_cls 7) yX7_place yX7_place ∈ pk_tbl ∧ 7 < 8 := ⟨yi_X7_place, pk_tb (List.mem_of_getElem? (i := 944) (by decide +kernel)) (by decide +kernel), by decide⟩
theorem yw_X7_areaOf : pk_YW yX7_areaOf cX7_areaOf 3 (some .int) 1 := ⟨pk_tb (List.mem_of_getElem? (i := 950) (by decide +kernel)) (by decide +kernel), pk_tb (List.mem_of_getElem? (i := 84) (by decide +kernel)) (by decide +kernel), by decide, by decide +kernel, by decide⟩
theorem yi_X7_areaOf : Cond.instanceMethod yX7_areaOf ∈ pk_tbl := pk_tb (List.mem_of_getElem? (i := 949) (by decide +kernel)) (by decide +kernel)
theorem yv_X7_areaOf : Cond.instanceMethod yX7_areaOf ∈ pk_tbl ∧ Cond.selects (pk_cls 7) yX7_areaOf yX7_areaOf ∈ pk_tbl ∧ 7 < 8 := ⟨yi_X7_areaOf, pk_tb (List.mem_of_getElem? (i := 52) (by decide +kernel)) (by decide +kernel), by decide⟩
theorem yw_X7_gaps : pk_YW yX7_gaps cX7_gaps 4 (some .int) 3 := ⟨pk_tb (List.mem_of_getElem? (i := 954) (by decide +kernel)) (by decide +kernel), pk_tb (List.mem_of_getElem? (i := 84) (by decide +kernel)) (by decide +kernel), by decide, by decide +kernel, by decide⟩
theorem yi_X7_gaps : Cond.instanceMethod yX7_gaps ∈ pk_tbl := pk_tb (List.mem_of_getElem? (i := 952) (by decide +kernel)) (by decide +kernel)
theorem yv_X7_gaps : Cond.instanceMethod yX7_gaps ∈ pk_tbl ∧ Cond.selects (pk_cls 7) yX7_gaps yX7_gaps ∈ pk_tbl ∧ 7 < 8 := ⟨yi_X7_gaps, pk_tb (List.mem_of_getElem? (i := 953) (by decide +kernel)) (by decide +kernel), by decide⟩
theorem yw_X7_isAside : pk_YW yX7_isAside cX7_isAside 3 (some .boolean) 3 := ⟨pk_tb (List.mem_of_getElem? (i := 957) (by decide +kernel)) (by decide +kernel), pk_tb (List.mem_of_getElem? (i := 84) (by decide +kernel)) (by decide +kernel), by decide, by decide +kernel, by decide⟩
theorem ys_X7_isAside : Cond.static yX7_isAside ∈ pk_tbl := pk_tb (List.mem_of_getElem? (i := 956) (by decide +kernel)) (by decide +kernel)
theorem yw_X7_gapsBy : pk_YW yX7_gapsBy cX7_gapsBy 6 (some .int) 3 := ⟨pk_tb (List.mem_of_getElem? (i := 962) (by decide +kernel)) (by decide +kernel), pk_tb (List.mem_of_getElem? (i := 84) (by decide +kernel)) (by decide +kernel), by decide, by decide +kernel, by decide⟩
theorem yi_X7_gapsBy : Cond.instanceMethod yX7_gapsBy ∈ pk_tbl := pk_tb (List.mem_of_getElem? (i := 961) (by decide +kernel)) (by decide +kernel)
theorem yv_X7_gapsBy : Cond.instanceMethod yX7_gapsBy ∈ pk_tbl ∧ Cond.selects (pk_cls 7) yX7_gapsBy yX7_gapsBy ∈ pk_tbl ∧ 7 < 8 := ⟨yi_X7_gapsBy, pk_tb (List.mem_of_getElem? (i := 53) (by decide +kernel)) (by decide +kernel), by decide⟩
theorem yw_X7_printed : pk_YW yX7_printed cX7_printed 8 (some .int) 4 := ⟨pk_tb (List.mem_of_getElem? (i := 966) (by decide +kernel)) (by decide +kernel), pk_tb (List.mem_of_getElem? (i := 84) (by decide +kernel)) (by decide +kernel), by decide, by decide +kernel, by decide⟩
theorem yi_X7_printed : Cond.instanceMethod yX7_printed ∈ pk_tbl := pk_tb (List.mem_of_getElem? (i := 965) (by decide +kernel)) (by decide +kernel)
theorem yv_X7_printed : Cond.instanceMethod yX7_printed ∈ pk_tbl ∧ Cond.selects (pk_cls 7) yX7_printed yX7_printed ∈ pk_tbl ∧ 7 < 8 := ⟨yi_X7_printed, pk_tb (List.mem_of_getElem? (i := 54) (by decide +kernel)) (by decide +kernel), by decide⟩
theorem yw_X7_aside : pk_YW yX7_aside cX7_aside 6 (some .int) 5 := ⟨pk_tb (List.mem_of_getElem? (i := 970) (by decide +kernel)) (by decide +kernel), pk_tb (List.mem_of_getElem? (i := 84) (by decide +kernel)) (by decide +kernel), by decide, by decide +kernel, by decide⟩
theorem yi_X7_aside : Cond.instanceMethod yX7_aside ∈ pk_tbl := pk_tb (List.mem_of_getElem? (i := 968) (by decide +kernel)) (by decide +kernel)
theorem yv_X7_aside : Cond.instanceMethod yX7_aside ∈ pk_tbl ∧ Cond.selects (pk_cls 7) yX7_aside yX7_aside ∈ pk_tbl ∧ 7 < 8 := ⟨yi_X7_aside, pk_tb (List.mem_of_getElem? (i := 969) (by decide +kernel)) (by decide +kernel), by decide⟩
theorem yw_X7_count : pk_YW yX7_count cX7_count 2 (some .int) 1 := ⟨pk_tb (List.mem_of_getElem? (i := 974) (by decide +kernel)) (by decide +kernel), pk_tb (List.mem_of_getElem? (i := 84) (by decide +kernel)) (by decide +kernel), by decide, by decide +kernel, by decide⟩
theorem yi_X7_count : Cond.instanceMethod yX7_count ∈ pk_tbl := pk_tb (List.mem_of_getElem? (i := 972) (by decide +kernel)) (by decide +kernel)
theorem yv_X7_count : Cond.instanceMethod yX7_count ∈ pk_tbl ∧ Cond.selects (pk_cls 7) yX7_count yX7_count ∈ pk_tbl ∧ 7 < 8 := ⟨yi_X7_count, pk_tb (List.mem_of_getElem? (i := 973) (by decide +kernel)) (by decide +kernel), by decide⟩
theorem yw_X7_looksOfAll : pk_YW yX7_looksOfAll cX7_looksOfAll 2 none 0 := ⟨pk_tb (List.mem_of_getElem? (i := 978) (by decide +kernel)) (by decide +kernel), pk_tb (List.mem_of_getElem? (i := 84) (by decide +kernel)) (by decide +kernel), by decide, by decide +kernel, by decide⟩
theorem yi_X7_looksOfAll : Cond.instanceMethod yX7_looksOfAll ∈ pk_tbl := pk_tb (List.mem_of_getElem? (i := 977) (by decide +kernel)) (by decide +kernel)
theorem yv_X7_looksOfAll : Cond.instanceMethod yX7_looksOfAll ∈ pk_tbl ∧ Cond.selects (pk_cls 7) yX7_looksOfAll yX7_looksOfAll ∈ pk_tbl ∧ 7 < 8 := ⟨yi_X7_looksOfAll, pk_tb (List.mem_of_getElem? (i := 55) (by decide +kernel)) (by decide +kernel), by decide⟩
theorem yw_X7_unlike : pk_YW yX7_unlike cX7_unlike 5 (some .int) 0 := ⟨pk_tb (List.mem_of_getElem? (i := 982) (by decide +kernel)) (by decide +kernel), pk_tb (List.mem_of_getElem? (i := 84) (by decide +kernel)) (by decide +kernel), by decide, by decide +kernel, by decide⟩
theorem yi_X7_unlike : Cond.instanceMethod yX7_unlike ∈ pk_tbl := pk_tb (List.mem_of_getElem? (i := 981) (by decide +kernel)) (by decide +kernel)
theorem yv_X7_unlike : Cond.instanceMethod yX7_unlike ∈ pk_tbl ∧ Cond.selects (pk_cls 7) yX7_unlike yX7_unlike ∈ pk_tbl ∧ 7 < 8 := ⟨yi_X7_unlike, pk_tb (List.mem_of_getElem? (i := 56) (by decide +kernel)) (by decide +kernel), by decide⟩
theorem yw_X7_few : pk_YW yX7_few cX7_few 3 (some .int) 0 := ⟨pk_tb (List.mem_of_getElem? (i := 986) (by decide +kernel)) (by decide +kernel), pk_tb (List.mem_of_getElem? (i := 84) (by decide +kernel)) (by decide +kernel), by decide, by decide +kernel, by decide⟩
theorem yi_X7_few : Cond.instanceMethod yX7_few ∈ pk_tbl := pk_tb (List.mem_of_getElem? (i := 985) (by decide +kernel)) (by decide +kernel)
theorem yv_X7_few : Cond.instanceMethod yX7_few ∈ pk_tbl ∧ Cond.selects (pk_cls 7) yX7_few yX7_few ∈ pk_tbl ∧ 7 < 8 := ⟨yi_X7_few, pk_tb (List.mem_of_getElem? (i := 57) (by decide +kernel)) (by decide +kernel), by decide⟩
theorem yw_X7_bits : pk_YW yX7_bits cX7_bits 3 (some .int) 1 := ⟨pk_tb (List.mem_of_getElem? (i := 989) (by decide +kernel)) (by decide +kernel), pk_tb (List.mem_of_getElem? (i := 84) (by decide +kernel)) (by decide +kernel), by decide, by decide +kernel, by decide⟩
theorem ys_X7_bits : Cond.static yX7_bits ∈ pk_tbl := pk_tb (List.mem_of_getElem? (i := 988) (by decide +kernel)) (by decide +kernel)
theorem yw_X7_canAll : pk_YW yX7_canAll cX7_canAll 4 (some .boolean) 1 := ⟨pk_tb (List.mem_of_getElem? (i := 993) (by decide +kernel)) (by decide +kernel), pk_tb (List.mem_of_getElem? (i := 84) (by decide +kernel)) (by decide +kernel), by decide, by decide +kernel, by decide⟩
theorem yi_X7_canAll : Cond.instanceMethod yX7_canAll ∈ pk_tbl := pk_tb (List.mem_of_getElem? (i := 992) (by decide +kernel)) (by decide +kernel)
theorem yv_X7_canAll : Cond.instanceMethod yX7_canAll ∈ pk_tbl ∧ Cond.selects (pk_cls 7) yX7_canAll yX7_canAll ∈ pk_tbl ∧ 7 < 8 := ⟨yi_X7_canAll, pk_tb (List.mem_of_getElem? (i := 58) (by decide +kernel)) (by decide +kernel), by decide⟩
theorem yw_X7_canLook : pk_YW yX7_canLook cX7_canLook 5 (some .boolean) 2 := ⟨pk_tb (List.mem_of_getElem? (i := 997) (by decide +kernel)) (by decide +kernel), pk_tb (List.mem_of_getElem? (i := 84) (by decide +kernel)) (by decide +kernel), by decide, by decide +kernel, by decide⟩
theorem yi_X7_canLook : Cond.instanceMethod yX7_canLook ∈ pk_tbl := pk_tb (List.mem_of_getElem? (i := 996) (by decide +kernel)) (by decide +kernel)
theorem yv_X7_canLook : Cond.instanceMethod yX7_canLook ∈ pk_tbl ∧ Cond.selects (pk_cls 7) yX7_canLook yX7_canLook ∈ pk_tbl ∧ 7 < 8 := ⟨yi_X7_canLook, pk_tb (List.mem_of_getElem? (i := 59) (by decide +kernel)) (by decide +kernel), by decide⟩
theorem yw_X7_worst : pk_YW yX7_worst cX7_worst 6 (some .int) 1 := ⟨pk_tb (List.mem_of_getElem? (i := 1001) (by decide +kernel)) (by decide +kernel), pk_tb (List.mem_of_getElem? (i := 84) (by decide +kernel)) (by decide +kernel), by decide, by decide +kernel, by decide⟩
theorem yi_X7_worst : Cond.instanceMethod yX7_worst ∈ pk_tbl := pk_tb (List.mem_of_getElem? (i := 1000) (by decide +kernel)) (by decide +kernel)
theorem yv_X7_worst : Cond.instanceMethod yX7_worst ∈ pk_tbl ∧ Cond.selects (pk_cls 7) yX7_worst yX7_worst ∈ pk_tbl ∧ 7 < 8 := ⟨yi_X7_worst, pk_tb (List.mem_of_getElem? (i := 60) (by decide +kernel)) (by decide +kernel), by decide⟩
theorem yw_X7_orders : pk_YW yX7_orders cX7_orders 5 (some .int) 1 := ⟨pk_tb (List.mem_of_getElem? (i := 1005) (by decide +kernel)) (by decide +kernel), pk_tb (List.mem_of_getElem? (i := 84) (by decide +kernel)) (by decide +kernel), by decide, by decide +kernel, by decide⟩
theorem yi_X7_orders : Cond.instanceMethod yX7_orders ∈ pk_tbl := pk_tb (List.mem_of_getElem? (i := 1004) (by decide +kernel)) (by decide +kernel)
theorem yv_X7_orders : Cond.instanceMethod yX7_orders ∈ pk_tbl ∧ Cond.selects (pk_cls 7) yX7_orders yX7_orders ∈ pk_tbl ∧ 7 < 8 := ⟨yi_X7_orders, pk_tb (List.mem_of_getElem? (i := 61) (by decide +kernel)) (by decide +kernel), by decide⟩
theorem yw_X7_isOrder : pk_YW yX7_isOrder cX7_isOrder 4 (some .boolean) 1 := ⟨pk_tb (List.mem_of_getElem? (i := 1009) (by decide +kernel)) (by decide +kernel), pk_tb (List.mem_of_getElem? (i := 84) (by decide +kernel)) (by decide +kernel), by decide, by decide +kernel, by decide⟩
theorem ys_X7_isOrder : Cond.static yX7_isOrder ∈ pk_tbl := pk_tb (List.mem_of_getElem? (i := 1008) (by decide +kernel)) (by decide +kernel)
theorem yw_X7_leaves : pk_YW yX7_leaves cX7_leaves 4 (some .boolean) 1 := ⟨pk_tb (List.mem_of_getElem? (i := 1014) (by decide +kernel)) (by decide +kernel), pk_tb (List.mem_of_getElem? (i := 84) (by decide +kernel)) (by decide +kernel), by decide, by decide +kernel, by decide⟩
theorem yi_X7_leaves : Cond.instanceMethod yX7_leaves ∈ pk_tbl := pk_tb (List.mem_of_getElem? (i := 1013) (by decide +kernel)) (by decide +kernel)
theorem yv_X7_leaves : Cond.instanceMethod yX7_leaves ∈ pk_tbl ∧ Cond.selects (pk_cls 7) yX7_leaves yX7_leaves ∈ pk_tbl ∧ 7 < 8 := ⟨yi_X7_leaves, pk_tb (List.mem_of_getElem? (i := 62) (by decide +kernel)) (by decide +kernel), by decide⟩
theorem yw_X7_byDark : pk_YW yX7_byDark cX7_byDark 6 (some .int) 0 := ⟨pk_tb (List.mem_of_getElem? (i := 1018) (by decide +kernel)) (by decide +kernel), pk_tb (List.mem_of_getElem? (i := 84) (by decide +kernel)) (by decide +kernel), by decide, by decide +kernel, by decide⟩
theorem yi_X7_byDark : Cond.instanceMethod yX7_byDark ∈ pk_tbl := pk_tb (List.mem_of_getElem? (i := 1017) (by decide +kernel)) (by decide +kernel)
theorem yv_X7_byDark : Cond.instanceMethod yX7_byDark ∈ pk_tbl ∧ Cond.selects (pk_cls 7) yX7_byDark yX7_byDark ∈ pk_tbl ∧ 7 < 8 := ⟨yi_X7_byDark, pk_tb (List.mem_of_getElem? (i := 63) (by decide +kernel)) (by decide +kernel), by decide⟩
theorem yw_X7_drawn : pk_YW yX7_drawn cX7_drawn 3 (some .int) 0 := ⟨pk_tb (List.mem_of_getElem? (i := 1022) (by decide +kernel)) (by decide +kernel), pk_tb (List.mem_of_getElem? (i := 84) (by decide +kernel)) (by decide +kernel), by decide, by decide +kernel, by decide⟩
theorem yi_X7_drawn : Cond.instanceMethod yX7_drawn ∈ pk_tbl := pk_tb (List.mem_of_getElem? (i := 1021) (by decide +kernel)) (by decide +kernel)
theorem yv_X7_drawn : Cond.instanceMethod yX7_drawn ∈ pk_tbl ∧ Cond.selects (pk_cls 7) yX7_drawn yX7_drawn ∈ pk_tbl ∧ 7 < 8 := ⟨yi_X7_drawn, pk_tb (List.mem_of_getElem? (i := 64) (by decide +kernel)) (by decide +kernel), by decide⟩
theorem yw_X7_fail : pk_YW yX7_fail cX7_fail 9 (some .int) 2 := ⟨pk_tb (List.mem_of_getElem? (i := 1026) (by decide +kernel)) (by decide +kernel), pk_tb (List.mem_of_getElem? (i := 84) (by decide +kernel)) (by decide +kernel), by decide, by decide +kernel, by decide⟩
theorem yi_X7_fail : Cond.instanceMethod yX7_fail ∈ pk_tbl := pk_tb (List.mem_of_getElem? (i := 1024) (by decide +kernel)) (by decide +kernel)
theorem yv_X7_fail : Cond.instanceMethod yX7_fail ∈ pk_tbl ∧ Cond.selects (pk_cls 7) yX7_fail yX7_fail ∈ pk_tbl ∧ 7 < 8 := ⟨yi_X7_fail, pk_tb (List.mem_of_getElem? (i := 1025) (by decide +kernel)) (by decide +kernel), by decide⟩
theorem yw_X7_isWhole : pk_YW yX7_isWhole cX7_isWhole 4 (some .boolean) 1 := ⟨pk_tb (List.mem_of_getElem? (i := 1031) (by decide +kernel)) (by decide +kernel), pk_tb (List.mem_of_getElem? (i := 84) (by decide +kernel)) (by decide +kernel), by decide, by decide +kernel, by decide⟩
theorem yi_X7_isWhole : Cond.instanceMethod yX7_isWhole ∈ pk_tbl := pk_tb (List.mem_of_getElem? (i := 1030) (by decide +kernel)) (by decide +kernel)
theorem yv_X7_isWhole : Cond.instanceMethod yX7_isWhole ∈ pk_tbl ∧ Cond.selects (pk_cls 7) yX7_isWhole yX7_isWhole ∈ pk_tbl ∧ 7 < 8 := ⟨yi_X7_isWhole, pk_tb (List.mem_of_getElem? (i := 65) (by decide +kernel)) (by decide +kernel), by decide⟩
theorem yw_X7_parts : pk_YW yX7_parts cX7_parts 5 (some .int) 3 := ⟨pk_tb (List.mem_of_getElem? (i := 1034) (by decide +kernel)) (by decide +kernel), pk_tb (List.mem_of_getElem? (i := 84) (by decide +kernel)) (by decide +kernel), by decide, by decide +kernel, by decide⟩
theorem ys_X7_parts : Cond.static yX7_parts ∈ pk_tbl := pk_tb (List.mem_of_getElem? (i := 1033) (by decide +kernel)) (by decide +kernel)
theorem yw_X7_undo : pk_YW yX7_undo cX7_undo 2 (some .int) 0 := ⟨pk_tb (List.mem_of_getElem? (i := 1038) (by decide +kernel)) (by decide +kernel), pk_tb (List.mem_of_getElem? (i := 84) (by decide +kernel)) (by decide +kernel), by decide, by decide +kernel, by decide⟩
theorem yi_X7_undo : Cond.instanceMethod yX7_undo ∈ pk_tbl := pk_tb (List.mem_of_getElem? (i := 1036) (by decide +kernel)) (by decide +kernel)
theorem yv_X7_undo : Cond.instanceMethod yX7_undo ∈ pk_tbl ∧ Cond.selects (pk_cls 7) yX7_undo yX7_undo ∈ pk_tbl ∧ 7 < 8 := ⟨yi_X7_undo, pk_tb (List.mem_of_getElem? (i := 1037) (by decide +kernel)) (by decide +kernel), by decide⟩
theorem yw_X7_tell : pk_YW yX7_tell cX7_tell 4 (some .int) 3 := ⟨pk_tb (List.mem_of_getElem? (i := 1042) (by decide +kernel)) (by decide +kernel), pk_tb (List.mem_of_getElem? (i := 84) (by decide +kernel)) (by decide +kernel), by decide, by decide +kernel, by decide⟩
theorem yi_X7_tell : Cond.instanceMethod yX7_tell ∈ pk_tbl := pk_tb (List.mem_of_getElem? (i := 1040) (by decide +kernel)) (by decide +kernel)
theorem yv_X7_tell : Cond.instanceMethod yX7_tell ∈ pk_tbl ∧ Cond.selects (pk_cls 7) yX7_tell yX7_tell ∈ pk_tbl ∧ 7 < 8 := ⟨yi_X7_tell, pk_tb (List.mem_of_getElem? (i := 1041) (by decide +kernel)) (by decide +kernel), by decide⟩
theorem yw_X7_notes : pk_YW yX7_notes cX7_notes 2 none 0 := ⟨pk_tb (List.mem_of_getElem? (i := 1048) (by decide +kernel)) (by decide +kernel), pk_tb (List.mem_of_getElem? (i := 84) (by decide +kernel)) (by decide +kernel), by decide, by decide +kernel, by decide⟩
theorem yi_X7_notes : Cond.instanceMethod yX7_notes ∈ pk_tbl := pk_tb (List.mem_of_getElem? (i := 1047) (by decide +kernel)) (by decide +kernel)
theorem yv_X7_notes : Cond.instanceMethod yX7_notes ∈ pk_tbl ∧ Cond.selects (pk_cls 7) yX7_notes yX7_notes ∈ pk_tbl ∧ 7 < 8 := ⟨yi_X7_notes, pk_tb (List.mem_of_getElem? (i := 66) (by decide +kernel)) (by decide +kernel), by decide⟩
theorem yw_X7_order : pk_YW yX7_order cX7_order 3 (some .int) 1 := ⟨pk_tb (List.mem_of_getElem? (i := 1052) (by decide +kernel)) (by decide +kernel), pk_tb (List.mem_of_getElem? (i := 84) (by decide +kernel)) (by decide +kernel), by decide, by decide +kernel, by decide⟩
theorem yi_X7_order : Cond.instanceMethod yX7_order ∈ pk_tbl := pk_tb (List.mem_of_getElem? (i := 1050) (by decide +kernel)) (by decide +kernel)
theorem yv_X7_order : Cond.instanceMethod yX7_order ∈ pk_tbl ∧ Cond.selects (pk_cls 7) yX7_order yX7_order ∈ pk_tbl ∧ 7 < 8 := ⟨yi_X7_order, pk_tb (List.mem_of_getElem? (i := 1051) (by decide +kernel)) (by decide +kernel), by decide⟩
theorem yw_X7_put : pk_YW yX7_put cX7_put 5 (some .int) 3 := ⟨pk_tb (List.mem_of_getElem? (i := 1056) (by decide +kernel)) (by decide +kernel), pk_tb (List.mem_of_getElem? (i := 84) (by decide +kernel)) (by decide +kernel), by decide, by decide +kernel, by decide⟩
theorem yi_X7_put : Cond.instanceMethod yX7_put ∈ pk_tbl := pk_tb (List.mem_of_getElem? (i := 1054) (by decide +kernel)) (by decide +kernel)
theorem yv_X7_put : Cond.instanceMethod yX7_put ∈ pk_tbl ∧ Cond.selects (pk_cls 7) yX7_put yX7_put ∈ pk_tbl ∧ 7 < 8 := ⟨yi_X7_put, pk_tb (List.mem_of_getElem? (i := 1055) (by decide +kernel)) (by decide +kernel), by decide⟩
theorem yw_X7_fill : pk_YW yX7_fill cX7_fill 6 (some .int) 2 := ⟨pk_tb (List.mem_of_getElem? (i := 1060) (by decide +kernel)) (by decide +kernel), pk_tb (List.mem_of_getElem? (i := 84) (by decide +kernel)) (by decide +kernel), by decide, by decide +kernel, by decide⟩
theorem yi_X7_fill : Cond.instanceMethod yX7_fill ∈ pk_tbl := pk_tb (List.mem_of_getElem? (i := 1058) (by decide +kernel)) (by decide +kernel)
theorem yv_X7_fill : Cond.instanceMethod yX7_fill ∈ pk_tbl ∧ Cond.selects (pk_cls 7) yX7_fill yX7_fill ∈ pk_tbl ∧ 7 < 8 := ⟨yi_X7_fill, pk_tb (List.mem_of_getElem? (i := 1059) (by decide +kernel)) (by decide +kernel), by decide⟩
theorem yw_X7_grow : pk_YW yX7_grow cX7_grow 5 (some .int) 0 := ⟨pk_tb (List.mem_of_getElem? (i := 1064) (by decide +kernel)) (by decide +kernel), pk_tb (List.mem_of_getElem? (i := 84) (by decide +kernel)) (by decide +kernel), by decide, by decide +kernel, by decide⟩
theorem yi_X7_grow : Cond.instanceMethod yX7_grow ∈ pk_tbl := pk_tb (List.mem_of_getElem? (i := 1062) (by decide +kernel)) (by decide +kernel)
theorem yv_X7_grow : Cond.instanceMethod yX7_grow ∈ pk_tbl ∧ Cond.selects (pk_cls 7) yX7_grow yX7_grow ∈ pk_tbl ∧ 7 < 8 := ⟨yi_X7_grow, pk_tb (List.mem_of_getElem? (i := 1063) (by decide +kernel)) (by decide +kernel), by decide⟩
theorem yw_X7_comesTo : pk_YW yX7_comesTo cX7_comesTo 6 (some .int) 2 := ⟨pk_tb (List.mem_of_getElem? (i := 1068) (by decide +kernel)) (by decide +kernel), pk_tb (List.mem_of_getElem? (i := 84) (by decide +kernel)) (by decide +kernel), by decide, by decide +kernel, by decide⟩
theorem yi_X7_comesTo : Cond.instanceMethod yX7_comesTo ∈ pk_tbl := pk_tb (List.mem_of_getElem? (i := 1067) (by decide +kernel)) (by decide +kernel)
theorem yv_X7_comesTo : Cond.instanceMethod yX7_comesTo ∈ pk_tbl ∧ Cond.selects (pk_cls 7) yX7_comesTo yX7_comesTo ∈ pk_tbl ∧ 7 < 8 := ⟨yi_X7_comesTo, pk_tb (List.mem_of_getElem? (i := 67) (by decide +kernel)) (by decide +kernel), by decide⟩
theorem yw_X7_size : pk_YW yX7_size cX7_size 5 (some .int) 2 := ⟨pk_tb (List.mem_of_getElem? (i := 1072) (by decide +kernel)) (by decide +kernel), pk_tb (List.mem_of_getElem? (i := 84) (by decide +kernel)) (by decide +kernel), by decide, by decide +kernel, by decide⟩
theorem yi_X7_size : Cond.instanceMethod yX7_size ∈ pk_tbl := pk_tb (List.mem_of_getElem? (i := 1070) (by decide +kernel)) (by decide +kernel)
theorem yv_X7_size : Cond.instanceMethod yX7_size ∈ pk_tbl ∧ Cond.selects (pk_cls 7) yX7_size yX7_size ∈ pk_tbl ∧ 7 < 8 := ⟨yi_X7_size, pk_tb (List.mem_of_getElem? (i := 1071) (by decide +kernel)) (by decide +kernel), by decide⟩
theorem yw_X7_drift : pk_YW yX7_drift cX7_drift 6 (some .int) 1 := ⟨pk_tb (List.mem_of_getElem? (i := 1078) (by decide +kernel)) (by decide +kernel), pk_tb (List.mem_of_getElem? (i := 84) (by decide +kernel)) (by decide +kernel), by decide, by decide +kernel, by decide⟩
theorem yi_X7_drift : Cond.instanceMethod yX7_drift ∈ pk_tbl := pk_tb (List.mem_of_getElem? (i := 1076) (by decide +kernel)) (by decide +kernel)
theorem yv_X7_drift : Cond.instanceMethod yX7_drift ∈ pk_tbl ∧ Cond.selects (pk_cls 7) yX7_drift yX7_drift ∈ pk_tbl ∧ 7 < 8 := ⟨yi_X7_drift, pk_tb (List.mem_of_getElem? (i := 1077) (by decide +kernel)) (by decide +kernel), by decide⟩
theorem yw_X7_seed : pk_YW yX7_seed cX7_seed 3 (some .int) 1 := ⟨pk_tb (List.mem_of_getElem? (i := 1087) (by decide +kernel)) (by decide +kernel), pk_tb (List.mem_of_getElem? (i := 84) (by decide +kernel)) (by decide +kernel), by decide, by decide +kernel, by decide⟩
theorem yi_X7_seed : Cond.instanceMethod yX7_seed ∈ pk_tbl := pk_tb (List.mem_of_getElem? (i := 1085) (by decide +kernel)) (by decide +kernel)
theorem yv_X7_seed : Cond.instanceMethod yX7_seed ∈ pk_tbl ∧ Cond.selects (pk_cls 7) yX7_seed yX7_seed ∈ pk_tbl ∧ 7 < 8 := ⟨yi_X7_seed, pk_tb (List.mem_of_getElem? (i := 1086) (by decide +kernel)) (by decide +kernel), by decide⟩
theorem yw_X7_type : pk_YW yX7_type cX7_type 2 (some .int) 1 := ⟨pk_tb (List.mem_of_getElem? (i := 1091) (by decide +kernel)) (by decide +kernel), pk_tb (List.mem_of_getElem? (i := 84) (by decide +kernel)) (by decide +kernel), by decide, by decide +kernel, by decide⟩
theorem yi_X7_type : Cond.instanceMethod yX7_type ∈ pk_tbl := pk_tb (List.mem_of_getElem? (i := 1089) (by decide +kernel)) (by decide +kernel)
theorem yv_X7_type : Cond.instanceMethod yX7_type ∈ pk_tbl ∧ Cond.selects (pk_cls 7) yX7_type yX7_type ∈ pk_tbl ∧ 7 < 8 := ⟨yi_X7_type, pk_tb (List.mem_of_getElem? (i := 1090) (by decide +kernel)) (by decide +kernel), by decide⟩
theorem yw_X7_draw : pk_YW yX7_draw cX7_draw 4 (some .int) 0 := ⟨pk_tb (List.mem_of_getElem? (i := 1097) (by decide +kernel)) (by decide +kernel), pk_tb (List.mem_of_getElem? (i := 84) (by decide +kernel)) (by decide +kernel), by decide, by decide +kernel, by decide⟩
theorem yi_X7_draw : Cond.instanceMethod yX7_draw ∈ pk_tbl := pk_tb (List.mem_of_getElem? (i := 1095) (by decide +kernel)) (by decide +kernel)
theorem yv_X7_draw : Cond.instanceMethod yX7_draw ∈ pk_tbl ∧ Cond.selects (pk_cls 7) yX7_draw yX7_draw ∈ pk_tbl ∧ 7 < 8 := ⟨yi_X7_draw, pk_tb (List.mem_of_getElem? (i := 1096) (by decide +kernel)) (by decide +kernel), by decide⟩
theorem yw_X7_isText : pk_YW yX7_isText cX7_isText 2 (some .boolean) 0 := ⟨pk_tb (List.mem_of_getElem? (i := 1101) (by decide +kernel)) (by decide +kernel), pk_tb (List.mem_of_getElem? (i := 84) (by decide +kernel)) (by decide +kernel), by decide, by decide +kernel, by decide⟩
theorem yi_X7_isText : Cond.instanceMethod yX7_isText ∈ pk_tbl := pk_tb (List.mem_of_getElem? (i := 1100) (by decide +kernel)) (by decide +kernel)
theorem yv_X7_isText : Cond.instanceMethod yX7_isText ∈ pk_tbl ∧ Cond.selects (pk_cls 7) yX7_isText yX7_isText ∈ pk_tbl ∧ 7 < 8 := ⟨yi_X7_isText, pk_tb (List.mem_of_getElem? (i := 68) (by decide +kernel)) (by decide +kernel), by decide⟩
theorem yw_X7_readsLine : pk_YW yX7_readsLine cX7_readsLine 3 (some .boolean) 0 := ⟨pk_tb (List.mem_of_getElem? (i := 1105) (by decide +kernel)) (by decide +kernel), pk_tb (List.mem_of_getElem? (i := 84) (by decide +kernel)) (by decide +kernel), by decide, by decide +kernel, by decide⟩
theorem yi_X7_readsLine : Cond.instanceMethod yX7_readsLine ∈ pk_tbl := pk_tb (List.mem_of_getElem? (i := 1104) (by decide +kernel)) (by decide +kernel)
theorem yv_X7_readsLine : Cond.instanceMethod yX7_readsLine ∈ pk_tbl ∧ Cond.selects (pk_cls 7) yX7_readsLine yX7_readsLine ∈ pk_tbl ∧ 7 < 8 := ⟨yi_X7_readsLine, pk_tb (List.mem_of_getElem? (i := 69) (by decide +kernel)) (by decide +kernel), by decide⟩
theorem yw_X7_isRun : pk_YW yX7_isRun cX7_isRun 1 (some .boolean) 0 := ⟨pk_tb (List.mem_of_getElem? (i := 1109) (by decide +kernel)) (by decide +kernel), pk_tb (List.mem_of_getElem? (i := 84) (by decide +kernel)) (by decide +kernel), by decide, by decide +kernel, by decide⟩
theorem yi_X7_isRun : Cond.instanceMethod yX7_isRun ∈ pk_tbl := pk_tb (List.mem_of_getElem? (i := 1108) (by decide +kernel)) (by decide +kernel)
theorem yv_X7_isRun : Cond.instanceMethod yX7_isRun ∈ pk_tbl ∧ Cond.selects (pk_cls 7) yX7_isRun yX7_isRun ∈ pk_tbl ∧ 7 < 8 := ⟨yi_X7_isRun, pk_tb (List.mem_of_getElem? (i := 70) (by decide +kernel)) (by decide +kernel), by decide⟩
theorem yw_X7_here : pk_YW yX7_here cX7_here 1 (some .int) 0 := ⟨pk_tb (List.mem_of_getElem? (i := 1113) (by decide +kernel)) (by decide +kernel), pk_tb (List.mem_of_getElem? (i := 84) (by decide +kernel)) (by decide +kernel), by decide, by decide +kernel, by decide⟩
theorem yi_X7_here : Cond.instanceMethod yX7_here ∈ pk_tbl := pk_tb (List.mem_of_getElem? (i := 1112) (by decide +kernel)) (by decide +kernel)
theorem yv_X7_here : Cond.instanceMethod yX7_here ∈ pk_tbl ∧ Cond.selects (pk_cls 7) yX7_here yX7_here ∈ pk_tbl ∧ 7 < 8 := ⟨yi_X7_here, pk_tb (List.mem_of_getElem? (i := 71) (by decide +kernel)) (by decide +kernel), by decide⟩
theorem yw_X7_readsRun : pk_YW yX7_readsRun cX7_readsRun 6 (some .boolean) 1 := ⟨pk_tb (List.mem_of_getElem? (i := 1121) (by decide +kernel)) (by decide +kernel), pk_tb (List.mem_of_getElem? (i := 84) (by decide +kernel)) (by decide +kernel), by decide, by decide +kernel, by decide⟩
theorem yi_X7_readsRun : Cond.instanceMethod yX7_readsRun ∈ pk_tbl := pk_tb (List.mem_of_getElem? (i := 1120) (by decide +kernel)) (by decide +kernel)
theorem yv_X7_readsRun : Cond.instanceMethod yX7_readsRun ∈ pk_tbl ∧ Cond.selects (pk_cls 7) yX7_readsRun yX7_readsRun ∈ pk_tbl ∧ 7 < 8 := ⟨yi_X7_readsRun, pk_tb (List.mem_of_getElem? (i := 72) (by decide +kernel)) (by decide +kernel), by decide⟩
theorem yw_X7_readsSet : pk_YW yX7_readsSet cX7_readsSet 3 (some .int) 0 := ⟨pk_tb (List.mem_of_getElem? (i := 1125) (by decide +kernel)) (by decide +kernel), pk_tb (List.mem_of_getElem? (i := 84) (by decide +kernel)) (by decide +kernel), by decide, by decide +kernel, by decide⟩
theorem yi_X7_readsSet : Cond.instanceMethod yX7_readsSet ∈ pk_tbl := pk_tb (List.mem_of_getElem? (i := 1124) (by decide +kernel)) (by decide +kernel)
theorem yv_X7_readsSet : Cond.instanceMethod yX7_readsSet ∈ pk_tbl ∧ Cond.selects (pk_cls 7) yX7_readsSet yX7_readsSet ∈ pk_tbl ∧ 7 < 8 := ⟨yi_X7_readsSet, pk_tb (List.mem_of_getElem? (i := 73) (by decide +kernel)) (by decide +kernel), by decide⟩
theorem yw_X7_image : pk_YW yX7_image cX7_image 2 (some .int) 0 := ⟨pk_tb (List.mem_of_getElem? (i := 1129) (by decide +kernel)) (by decide +kernel), pk_tb (List.mem_of_getElem? (i := 84) (by decide +kernel)) (by decide +kernel), by decide, by decide +kernel, by decide⟩
theorem yi_X7_image : Cond.instanceMethod yX7_image ∈ pk_tbl := pk_tb (List.mem_of_getElem? (i := 1127) (by decide +kernel)) (by decide +kernel)
theorem yv_X7_image : Cond.instanceMethod yX7_image ∈ pk_tbl ∧ Cond.selects (pk_cls 7) yX7_image yX7_image ∈ pk_tbl ∧ 7 < 8 := ⟨yi_X7_image, pk_tb (List.mem_of_getElem? (i := 1128) (by decide +kernel)) (by decide +kernel), by decide⟩
theorem yw_X7_restore : pk_YW yX7_restore cX7_restore 2 (some .int) 0 := ⟨pk_tb (List.mem_of_getElem? (i := 1133) (by decide +kernel)) (by decide +kernel), pk_tb (List.mem_of_getElem? (i := 84) (by decide +kernel)) (by decide +kernel), by decide, by decide +kernel, by decide⟩
theorem yi_X7_restore : Cond.instanceMethod yX7_restore ∈ pk_tbl := pk_tb (List.mem_of_getElem? (i := 1131) (by decide +kernel)) (by decide +kernel)
theorem yv_X7_restore : Cond.instanceMethod yX7_restore ∈ pk_tbl ∧ Cond.selects (pk_cls 7) yX7_restore yX7_restore ∈ pk_tbl ∧ 7 < 8 := ⟨yi_X7_restore, pk_tb (List.mem_of_getElem? (i := 1132) (by decide +kernel)) (by decide +kernel), by decide⟩
theorem yw_X7_sheet : pk_YW yX7_sheet cX7_sheet 5 (some .int) 3 := ⟨pk_tb (List.mem_of_getElem? (i := 1137) (by decide +kernel)) (by decide +kernel), pk_tb (List.mem_of_getElem? (i := 84) (by decide +kernel)) (by decide +kernel), by decide, by decide +kernel, by decide⟩
theorem yi_X7_sheet : Cond.instanceMethod yX7_sheet ∈ pk_tbl := pk_tb (List.mem_of_getElem? (i := 1135) (by decide +kernel)) (by decide +kernel)
theorem yv_X7_sheet : Cond.instanceMethod yX7_sheet ∈ pk_tbl ∧ Cond.selects (pk_cls 7) yX7_sheet yX7_sheet ∈ pk_tbl ∧ 7 < 8 := ⟨yi_X7_sheet, pk_tb (List.mem_of_getElem? (i := 1136) (by decide +kernel)) (by decide +kernel), by decide⟩
theorem yw_X7_isSheet : pk_YW yX7_isSheet cX7_isSheet 1 (some .boolean) 1 := ⟨pk_tb (List.mem_of_getElem? (i := 1140) (by decide +kernel)) (by decide +kernel), pk_tb (List.mem_of_getElem? (i := 84) (by decide +kernel)) (by decide +kernel), by decide, by decide +kernel, by decide⟩
theorem ys_X7_isSheet : Cond.static yX7_isSheet ∈ pk_tbl := pk_tb (List.mem_of_getElem? (i := 1139) (by decide +kernel)) (by decide +kernel)
theorem yw_X7_drop : pk_YW yX7_drop cX7_drop 2 (some .int) 1 := ⟨pk_tb (List.mem_of_getElem? (i := 1144) (by decide +kernel)) (by decide +kernel), pk_tb (List.mem_of_getElem? (i := 84) (by decide +kernel)) (by decide +kernel), by decide, by decide +kernel, by decide⟩
theorem yi_X7_drop : Cond.instanceMethod yX7_drop ∈ pk_tbl := pk_tb (List.mem_of_getElem? (i := 1142) (by decide +kernel)) (by decide +kernel)
theorem yv_X7_drop : Cond.instanceMethod yX7_drop ∈ pk_tbl ∧ Cond.selects (pk_cls 7) yX7_drop yX7_drop ∈ pk_tbl ∧ 7 < 8 := ⟨yi_X7_drop, pk_tb (List.mem_of_getElem? (i := 1143) (by decide +kernel)) (by decide +kernel), by decide⟩
theorem yw_X7_item : pk_YW yX7_item cX7_item 7 (some .int) 4 := ⟨pk_tb (List.mem_of_getElem? (i := 1148) (by decide +kernel)) (by decide +kernel), pk_tb (List.mem_of_getElem? (i := 84) (by decide +kernel)) (by decide +kernel), by decide, by decide +kernel, by decide⟩
theorem yi_X7_item : Cond.instanceMethod yX7_item ∈ pk_tbl := pk_tb (List.mem_of_getElem? (i := 1146) (by decide +kernel)) (by decide +kernel)
theorem yv_X7_item : Cond.instanceMethod yX7_item ∈ pk_tbl ∧ Cond.selects (pk_cls 7) yX7_item yX7_item ∈ pk_tbl ∧ 7 < 8 := ⟨yi_X7_item, pk_tb (List.mem_of_getElem? (i := 1147) (by decide +kernel)) (by decide +kernel), by decide⟩
theorem yw_X7_why : pk_YW yX7_why cX7_why 5 (some .int) 4 := ⟨pk_tb (List.mem_of_getElem? (i := 1152) (by decide +kernel)) (by decide +kernel), pk_tb (List.mem_of_getElem? (i := 84) (by decide +kernel)) (by decide +kernel), by decide, by decide +kernel, by decide⟩
theorem yi_X7_why : Cond.instanceMethod yX7_why ∈ pk_tbl := pk_tb (List.mem_of_getElem? (i := 1151) (by decide +kernel)) (by decide +kernel)
theorem yv_X7_why : Cond.instanceMethod yX7_why ∈ pk_tbl ∧ Cond.selects (pk_cls 7) yX7_why yX7_why ∈ pk_tbl ∧ 7 < 8 := ⟨yi_X7_why, pk_tb (List.mem_of_getElem? (i := 74) (by decide +kernel)) (by decide +kernel), by decide⟩
theorem yw_X7_cut : pk_YW yX7_cut cX7_cut 3 (some .long) 2 := ⟨pk_tb (List.mem_of_getElem? (i := 1155) (by decide +kernel)) (by decide +kernel), pk_tb (List.mem_of_getElem? (i := 84) (by decide +kernel)) (by decide +kernel), by decide, by decide +kernel, by decide⟩
theorem ys_X7_cut : Cond.static yX7_cut ∈ pk_tbl := pk_tb (List.mem_of_getElem? (i := 1154) (by decide +kernel)) (by decide +kernel)
theorem yw_X7_copy : pk_YW yX7_copy cX7_copy 7 (some .int) 5 := ⟨pk_tb (List.mem_of_getElem? (i := 1159) (by decide +kernel)) (by decide +kernel), pk_tb (List.mem_of_getElem? (i := 84) (by decide +kernel)) (by decide +kernel), by decide, by decide +kernel, by decide⟩
theorem yi_X7_copy : Cond.instanceMethod yX7_copy ∈ pk_tbl := pk_tb (List.mem_of_getElem? (i := 1157) (by decide +kernel)) (by decide +kernel)
theorem yv_X7_copy : Cond.instanceMethod yX7_copy ∈ pk_tbl ∧ Cond.selects (pk_cls 7) yX7_copy yX7_copy ∈ pk_tbl ∧ 7 < 8 := ⟨yi_X7_copy, pk_tb (List.mem_of_getElem? (i := 1158) (by decide +kernel)) (by decide +kernel), by decide⟩
theorem yw_X7_seen : pk_YW yX7_seen cX7_seen 10 (some .int) 5 := ⟨pk_tb (List.mem_of_getElem? (i := 1163) (by decide +kernel)) (by decide +kernel), pk_tb (List.mem_of_getElem? (i := 84) (by decide +kernel)) (by decide +kernel), by decide, by decide +kernel, by decide⟩
theorem yi_X7_seen : Cond.instanceMethod yX7_seen ∈ pk_tbl := pk_tb (List.mem_of_getElem? (i := 1161) (by decide +kernel)) (by decide +kernel)
theorem yv_X7_seen : Cond.instanceMethod yX7_seen ∈ pk_tbl ∧ Cond.selects (pk_cls 7) yX7_seen yX7_seen ∈ pk_tbl ∧ 7 < 8 := ⟨yi_X7_seen, pk_tb (List.mem_of_getElem? (i := 1162) (by decide +kernel)) (by decide +kernel), by decide⟩
theorem yw_X7_isSo : pk_YW yX7_isSo cX7_isSo 7 (some .boolean) 4 := ⟨pk_tb (List.mem_of_getElem? (i := 1167) (by decide +kernel)) (by decide +kernel), pk_tb (List.mem_of_getElem? (i := 84) (by decide +kernel)) (by decide +kernel), by decide, by decide +kernel, by decide⟩
theorem yi_X7_isSo : Cond.instanceMethod yX7_isSo ∈ pk_tbl := pk_tb (List.mem_of_getElem? (i := 1166) (by decide +kernel)) (by decide +kernel)
theorem yv_X7_isSo : Cond.instanceMethod yX7_isSo ∈ pk_tbl ∧ Cond.selects (pk_cls 7) yX7_isSo yX7_isSo ∈ pk_tbl ∧ 7 < 8 := ⟨yi_X7_isSo, pk_tb (List.mem_of_getElem? (i := 75) (by decide +kernel)) (by decide +kernel), by decide⟩
theorem yw_X7_film : pk_YW yX7_film cX7_film 7 (some .int) 4 := ⟨pk_tb (List.mem_of_getElem? (i := 1171) (by decide +kernel)) (by decide +kernel), pk_tb (List.mem_of_getElem? (i := 84) (by decide +kernel)) (by decide +kernel), by decide, by decide +kernel, by decide⟩
theorem yi_X7_film : Cond.instanceMethod yX7_film ∈ pk_tbl := pk_tb (List.mem_of_getElem? (i := 1169) (by decide +kernel)) (by decide +kernel)
theorem yv_X7_film : Cond.instanceMethod yX7_film ∈ pk_tbl ∧ Cond.selects (pk_cls 7) yX7_film yX7_film ∈ pk_tbl ∧ 7 < 8 := ⟨yi_X7_film, pk_tb (List.mem_of_getElem? (i := 1170) (by decide +kernel)) (by decide +kernel), by decide⟩
theorem st_copy : Cond.static arraycopyName ∈ pk_tbl := pk_tb (List.mem_of_getElem? (i := 474) (by decide +kernel)) (by decide +kernel)
