theorem mm_209 : Cond.code ⟨"RebornDrivers", "isUser", "(I)Z"⟩ prog_1_method_17_code 1 (some .boolean) ∈ kx_tbl := List.mem_filter.mpr ⟨List.mem_append_right _ (List.mem_of_getElem? (i := 209) (by decide +kernel)), by decide +kernel⟩
theorem mm_1 : Cond.initialized "RebornDrivers" ∈ kx_tbl := List.mem_filter.mpr ⟨List.mem_append_right _ (List.mem_of_getElem? (i := 1) (by decide +kernel)), by decide +kernel⟩
theorem mm_207 : Cond.methodLink "RebornDrivers" 109 ⟨"RebornDrivers", "isUser", "(I)Z"⟩ ∈ kx_tbl := List.mem_filter.mpr ⟨List.mem_append_right _ (List.mem_of_getElem? (i := 207) (by decide +kernel)), by decide +kernel⟩
theorem mm_208 : Cond.static ⟨"RebornDrivers", "isUser", "(I)Z"⟩ ∈ kx_tbl := List.mem_filter.mpr ⟨List.mem_append_right _ (List.mem_of_getElem? (i := 208) (by decide +kernel)), by decide +kernel⟩
theorem mm_157 : Cond.fieldLink "RebornDrivers" 11 "RebornDrivers" "operations" "[LRebornDrivers$Operation;" ∈ kx_tbl := List.mem_filter.mpr ⟨List.mem_append_right _ (List.mem_of_getElem? (i := 157) (by decide +kernel)), by decide +kernel⟩
theorem mm_140 : Cond.fieldLinkNest "RebornDrivers" 112 "RebornDrivers$Operation" "state" "I" "RebornDrivers" ∈ kx_nl := List.mem_filter.mpr ⟨List.mem_append_right _ (List.mem_of_getElem? (i := 140) (by decide +kernel)), by decide +kernel⟩
theorem mm_206 : Cond.code ⟨"RebornDrivers", "isFree", "(I)Z"⟩ prog_1_method_20_code 2 (some .boolean) ∈ kx_tbl := List.mem_filter.mpr ⟨List.mem_append_right _ (List.mem_of_getElem? (i := 206) (by decide +kernel)), by decide +kernel⟩
theorem mm_203 : Cond.methodLink "RebornDrivers" 64 ⟨"RebornDrivers", "isFree", "(I)Z"⟩ ∈ kx_tbl := List.mem_filter.mpr ⟨List.mem_append_right _ (List.mem_of_getElem? (i := 203) (by decide +kernel)), by decide +kernel⟩
theorem mm_205 : Cond.instanceMethod ⟨"RebornDrivers", "isFree", "(I)Z"⟩ ∈ kx_tbl := List.mem_filter.mpr ⟨List.mem_append_right _ (List.mem_of_getElem? (i := 205) (by decide +kernel)), by decide +kernel⟩
theorem mm_212 : Cond.code ⟨"RebornDrivers", "isBlock", "(I)Z"⟩ prog_1_method_18_code 1 (some .boolean) ∈ kx_tbl := List.mem_filter.mpr ⟨List.mem_append_right _ (List.mem_of_getElem? (i := 212) (by decide +kernel)), by decide +kernel⟩
theorem mm_210 : Cond.methodLink "RebornDrivers" 68 ⟨"RebornDrivers", "isBlock", "(I)Z"⟩ ∈ kx_tbl := List.mem_filter.mpr ⟨List.mem_append_right _ (List.mem_of_getElem? (i := 210) (by decide +kernel)), by decide +kernel⟩
theorem mm_211 : Cond.static ⟨"RebornDrivers", "isBlock", "(I)Z"⟩ ∈ kx_tbl := List.mem_filter.mpr ⟨List.mem_append_right _ (List.mem_of_getElem? (i := 211) (by decide +kernel)), by decide +kernel⟩
theorem mm_216 : Cond.code ⟨"RebornDrivers$Operation", "begin", "(III)V"⟩ prog_5_method_2_code 4 none ∈ kx_tbl := List.mem_filter.mpr ⟨List.mem_append_right _ (List.mem_of_getElem? (i := 216) (by decide +kernel)), by decide +kernel⟩
theorem mm_7 : Cond.initialized "RebornDrivers$Operation" ∈ kx_tbl := List.mem_filter.mpr ⟨List.mem_append_right _ (List.mem_of_getElem? (i := 7) (by decide +kernel)), by decide +kernel⟩
theorem mm_213 : Cond.methodLinkNest "RebornDrivers" 71 ⟨"RebornDrivers$Operation", "begin", "(III)V"⟩ "RebornDrivers" ∈ kx_nl := List.mem_filter.mpr ⟨List.mem_append_right _ (List.mem_of_getElem? (i := 213) (by decide +kernel)), by decide +kernel⟩
theorem mm_215 : Cond.instanceMethod ⟨"RebornDrivers$Operation", "begin", "(III)V"⟩ ∈ kx_tbl := List.mem_filter.mpr ⟨List.mem_append_right _ (List.mem_of_getElem? (i := 215) (by decide +kernel)), by decide +kernel⟩
theorem mm_158 : Cond.fieldLink "RebornDrivers" 18 "RebornDrivers" "fileLine" "LRebornDrivers$Line;" ∈ kx_tbl := List.mem_filter.mpr ⟨List.mem_append_right _ (List.mem_of_getElem? (i := 158) (by decide +kernel)), by decide +kernel⟩
theorem mm_220 : Cond.code ⟨"RebornDrivers$Line", "join", "(I)V"⟩ prog_4_method_4_code 2 none ∈ kx_tbl := List.mem_filter.mpr ⟨List.mem_append_right _ (List.mem_of_getElem? (i := 220) (by decide +kernel)), by decide +kernel⟩
theorem mm_2 : Cond.initialized "RebornDrivers$Line" ∈ kx_tbl := List.mem_filter.mpr ⟨List.mem_append_right _ (List.mem_of_getElem? (i := 2) (by decide +kernel)), by decide +kernel⟩
theorem mm_217 : Cond.methodLinkNest "RebornDrivers" 75 ⟨"RebornDrivers$Line", "join", "(I)V"⟩ "RebornDrivers" ∈ kx_nl := List.mem_filter.mpr ⟨List.mem_append_right _ (List.mem_of_getElem? (i := 217) (by decide +kernel)), by decide +kernel⟩
theorem mm_219 : Cond.instanceMethod ⟨"RebornDrivers$Line", "join", "(I)V"⟩ ∈ kx_tbl := List.mem_filter.mpr ⟨List.mem_append_right _ (List.mem_of_getElem? (i := 219) (by decide +kernel)), by decide +kernel⟩
theorem mm_159 : Cond.fieldLink "RebornDrivers" 22 "RebornDrivers" "terminalLine" "LRebornDrivers$Line;" ∈ kx_tbl := List.mem_filter.mpr ⟨List.mem_append_right _ (List.mem_of_getElem? (i := 159) (by decide +kernel)), by decide +kernel⟩
theorem mm_160 : Cond.fieldLink "RebornDrivers" 28 "RebornDrivers" "disk" "LRebornDrivers$Driver;" ∈ kx_tbl := List.mem_filter.mpr ⟨List.mem_append_right _ (List.mem_of_getElem? (i := 160) (by decide +kernel)), by decide +kernel⟩
theorem mm_161 : Cond.fieldLink "RebornDrivers" 32 "RebornDrivers" "console" "LRebornDrivers$Driver;" ∈ kx_tbl := List.mem_filter.mpr ⟨List.mem_append_right _ (List.mem_of_getElem? (i := 161) (by decide +kernel)), by decide +kernel⟩
theorem mm_380 : Cond.code ⟨"RebornDrivers", "isDriver", "(I)Z"⟩ prog_1_method_19_code 1 (some .boolean) ∈ kx_tbl := List.mem_filter.mpr ⟨List.mem_append_right _ (List.mem_of_getElem? (i := 380) (by decide +kernel)), by decide +kernel⟩
theorem mm_378 : Cond.methodLink "RebornDrivers" 99 ⟨"RebornDrivers", "isDriver", "(I)Z"⟩ ∈ kx_tbl := List.mem_filter.mpr ⟨List.mem_append_right _ (List.mem_of_getElem? (i := 378) (by decide +kernel)), by decide +kernel⟩
theorem mm_379 : Cond.static ⟨"RebornDrivers", "isDriver", "(I)Z"⟩ ∈ kx_tbl := List.mem_filter.mpr ⟨List.mem_append_right _ (List.mem_of_getElem? (i := 379) (by decide +kernel)), by decide +kernel⟩
theorem mm_384 : Cond.code ⟨"RebornDrivers", "driverOf", "(I)LRebornDrivers$Driver;"⟩ prog_1_method_21_code 2 (some (.object "RebornDrivers$Driver")) ∈ kx_tbl := List.mem_filter.mpr ⟨List.mem_append_right _ (List.mem_of_getElem? (i := 384) (by decide +kernel)), by decide +kernel⟩
theorem mm_381 : Cond.methodLink "RebornDrivers" 102 ⟨"RebornDrivers", "driverOf", "(I)LRebornDrivers$Driver;"⟩ ∈ kx_tbl := List.mem_filter.mpr ⟨List.mem_append_right _ (List.mem_of_getElem? (i := 381) (by decide +kernel)), by decide +kernel⟩
theorem mm_383 : Cond.instanceMethod ⟨"RebornDrivers", "driverOf", "(I)LRebornDrivers$Driver;"⟩ ∈ kx_tbl := List.mem_filter.mpr ⟨List.mem_append_right _ (List.mem_of_getElem? (i := 383) (by decide +kernel)), by decide +kernel⟩
theorem mm_388 : Cond.code ⟨"RebornDrivers$Driver", "suffer", "(I)Z"⟩ prog_3_method_2_code 2 (some .boolean) ∈ kx_tbl := List.mem_filter.mpr ⟨List.mem_append_right _ (List.mem_of_getElem? (i := 388) (by decide +kernel)), by decide +kernel⟩
theorem mm_385 : Cond.methodLinkNest "RebornDrivers" 106 ⟨"RebornDrivers$Driver", "suffer", "(I)Z"⟩ "RebornDrivers" ∈ kx_nl := List.mem_filter.mpr ⟨List.mem_append_right _ (List.mem_of_getElem? (i := 385) (by decide +kernel)), by decide +kernel⟩
theorem mm_387 : Cond.instanceMethod ⟨"RebornDrivers$Driver", "suffer", "(I)Z"⟩ ∈ kx_tbl := List.mem_filter.mpr ⟨List.mem_append_right _ (List.mem_of_getElem? (i := 387) (by decide +kernel)), by decide +kernel⟩
theorem mm_43 : Cond.fieldLinkNest "RebornDrivers" 134 "RebornDrivers$Driver" "endpoint" "I" "RebornDrivers" ∈ kx_nl := List.mem_filter.mpr ⟨List.mem_append_right _ (List.mem_of_getElem? (i := 43) (by decide +kernel)), by decide +kernel⟩
theorem mm_46 : Cond.fieldLinkNest "RebornDrivers" 137 "RebornDrivers$Driver" "condition" "I" "RebornDrivers" ∈ kx_nl := List.mem_filter.mpr ⟨List.mem_append_right _ (List.mem_of_getElem? (i := 46) (by decide +kernel)), by decide +kernel⟩
theorem mm_49 : Cond.fieldLinkNest "RebornDrivers" 140 "RebornDrivers$Driver" "stage" "I" "RebornDrivers" ∈ kx_nl := List.mem_filter.mpr ⟨List.mem_append_right _ (List.mem_of_getElem? (i := 49) (by decide +kernel)), by decide +kernel⟩
theorem mm_54 : Cond.fieldLinkNest "RebornDrivers" 143 "RebornDrivers$Driver" "refusals" "I" "RebornDrivers" ∈ kx_nl := List.mem_filter.mpr ⟨List.mem_append_right _ (List.mem_of_getElem? (i := 54) (by decide +kernel)), by decide +kernel⟩
theorem mm_51 : Cond.fieldLinkNest "RebornDrivers" 146 "RebornDrivers$Driver" "hasAnswered" "Z" "RebornDrivers" ∈ kx_nl := List.mem_filter.mpr ⟨List.mem_append_right _ (List.mem_of_getElem? (i := 51) (by decide +kernel)), by decide +kernel⟩
theorem mm_142 : Cond.fieldLinkNest "RebornDrivers" 115 "RebornDrivers$Operation" "result" "I" "RebornDrivers" ∈ kx_nl := List.mem_filter.mpr ⟨List.mem_append_right _ (List.mem_of_getElem? (i := 142) (by decide +kernel)), by decide +kernel⟩
theorem mm_28 : Cond.fieldLinkNest "RebornDrivers" 118 "RebornDrivers$Line" "length" "I" "RebornDrivers" ∈ kx_nl := List.mem_filter.mpr ⟨List.mem_append_right _ (List.mem_of_getElem? (i := 28) (by decide +kernel)), by decide +kernel⟩
theorem mm_165 : Cond.fieldLink "RebornDrivers" 52 "RebornDrivers" "deviceBlocks" "[I" ∈ kx_tbl := List.mem_filter.mpr ⟨List.mem_append_right _ (List.mem_of_getElem? (i := 165) (by decide +kernel)), by decide +kernel⟩
theorem mm_164 : Cond.fieldLink "RebornDrivers" 48 "RebornDrivers" "cache" "LRebornDrivers$Cache;" ∈ kx_tbl := List.mem_filter.mpr ⟨List.mem_append_right _ (List.mem_of_getElem? (i := 164) (by decide +kernel)), by decide +kernel⟩
theorem mm_109 : Cond.fieldLinkNest "RebornDrivers" 121 "RebornDrivers$Cache" "blocks" "[I" "RebornDrivers" ∈ kx_nl := List.mem_filter.mpr ⟨List.mem_append_right _ (List.mem_of_getElem? (i := 109) (by decide +kernel)), by decide +kernel⟩
theorem mm_111 : Cond.fieldLinkNest "RebornDrivers" 124 "RebornDrivers$Cache" "values" "[I" "RebornDrivers" ∈ kx_nl := List.mem_filter.mpr ⟨List.mem_append_right _ (List.mem_of_getElem? (i := 111) (by decide +kernel)), by decide +kernel⟩
theorem mm_113 : Cond.fieldLinkNest "RebornDrivers" 127 "RebornDrivers$Cache" "dirty" "[Z" "RebornDrivers" ∈ kx_nl := List.mem_filter.mpr ⟨List.mem_append_right _ (List.mem_of_getElem? (i := 113) (by decide +kernel)), by decide +kernel⟩
theorem mm_167 : Cond.fieldLink "RebornDrivers" 131 "RebornDrivers" "putOutLength" "I" ∈ kx_tbl := List.mem_filter.mpr ⟨List.mem_append_right _ (List.mem_of_getElem? (i := 167) (by decide +kernel)), by decide +kernel⟩
theorem mm_166 : Cond.fieldLink "RebornDrivers" 56 "RebornDrivers" "putOut" "[I" ∈ kx_tbl := List.mem_filter.mpr ⟨List.mem_append_right _ (List.mem_of_getElem? (i := 166) (by decide +kernel)), by decide +kernel⟩
theorem mm_163 : Cond.fieldLink "RebornDrivers" 42 "RebornDrivers" "terminalRequest" "LRebornDrivers$Request;" ∈ kx_tbl := List.mem_filter.mpr ⟨List.mem_append_right _ (List.mem_of_getElem? (i := 163) (by decide +kernel)), by decide +kernel⟩
theorem mm_424 : Cond.code ⟨"RebornDrivers$Request", "progress", "()I"⟩ prog_6_method_7_code 1 (some .int) ∈ kx_tbl := List.mem_filter.mpr ⟨List.mem_append_right _ (List.mem_of_getElem? (i := 424) (by decide +kernel)), by decide +kernel⟩
theorem mm_421 : Cond.methodLinkNest "RebornDrivers" 150 ⟨"RebornDrivers$Request", "progress", "()I"⟩ "RebornDrivers" ∈ kx_nl := List.mem_filter.mpr ⟨List.mem_append_right _ (List.mem_of_getElem? (i := 421) (by decide +kernel)), by decide +kernel⟩
theorem mm_423 : Cond.instanceMethod ⟨"RebornDrivers$Request", "progress", "()I"⟩ ∈ kx_tbl := List.mem_filter.mpr ⟨List.mem_append_right _ (List.mem_of_getElem? (i := 423) (by decide +kernel)), by decide +kernel⟩
theorem mm_162 : Cond.fieldLink "RebornDrivers" 38 "RebornDrivers" "fileRequest" "LRebornDrivers$Request;" ∈ kx_tbl := List.mem_filter.mpr ⟨List.mem_append_right _ (List.mem_of_getElem? (i := 162) (by decide +kernel)), by decide +kernel⟩
theorem mm_169 : Cond.fieldLink "RebornDrivers" 79 "RebornDrivers" "time" "I" ∈ kx_tbl := List.mem_filter.mpr ⟨List.mem_append_right _ (List.mem_of_getElem? (i := 169) (by decide +kernel)), by decide +kernel⟩
theorem fc_RD_109 : kx_m "RebornDrivers" 109 y_RD_isUser b_RD_isUser 1 (some .boolean) 1 ∧ Cond.static y_RD_isUser ∈ kx_tbl := ⟨⟨mm_209, mm_1, by decide +kernel, Or.inl mm_207⟩, mm_208⟩
theorem fg_RD_11 : kx_f "RebornDrivers" 11 0 1 := ⟨R_RD, F_RD, 14, rfl, by decide, in_RD, Or.inl mm_157⟩
theorem fg_RD_112 : kx_f "RebornDrivers" 112 1 4 := ⟨R_Op, F_Op, 6, rfl, by decide, in_Op, Or.inr ⟨_, mm_140⟩⟩
theorem sel_RD_isFree : Cond.selects "RebornDrivers" y_RD_isFree y_RD_isFree ∈ kx_tbl := List.mem_filter.mpr ⟨List.mem_append_left _ (by decide +kernel), by decide +kernel⟩
theorem fc_RD_64 : kx_m "RebornDrivers" 64 y_RD_isFree b_RD_isFree 2 (some .boolean) 1 ∧ Cond.instanceMethod y_RD_isFree ∈ kx_tbl ∧ Cond.selects "RebornDrivers" y_RD_isFree y_RD_isFree ∈ kx_tbl := ⟨⟨mm_206, mm_1, by decide +kernel, Or.inl mm_203⟩, mm_205, sel_RD_isFree⟩
theorem fc_RD_68 : kx_m "RebornDrivers" 68 y_RD_isBlock b_RD_isBlock 1 (some .boolean) 1 ∧ Cond.static y_RD_isBlock ∈ kx_tbl := ⟨⟨mm_212, mm_1, by decide +kernel, Or.inl mm_210⟩, mm_211⟩
theorem sel_Op_begin : Cond.selects "RebornDrivers$Operation" y_Op_begin y_Op_begin ∈ kx_tbl := List.mem_filter.mpr ⟨List.mem_append_left _ (by decide +kernel), by decide +kernel⟩
theorem fc_RD_71 : kx_m "RebornDrivers" 71 y_Op_begin b_Op_begin 4 none 3 ∧ Cond.instanceMethod y_Op_begin ∈ kx_tbl ∧ Cond.selects "RebornDrivers$Operation" y_Op_begin y_Op_begin ∈ kx_tbl := ⟨⟨mm_216, mm_7, by decide +kernel, Or.inr ⟨_, mm_213⟩⟩, mm_215, sel_Op_begin⟩
theorem fg_RD_18 : kx_f "RebornDrivers" 18 0 2 := ⟨R_RD, F_RD, 14, rfl, by decide, in_RD, Or.inl mm_158⟩
theorem sel_Ln_join : Cond.selects "RebornDrivers$Line" y_Ln_join y_Ln_join ∈ kx_tbl := List.mem_filter.mpr ⟨List.mem_append_left _ (by decide +kernel), by decide +kernel⟩
theorem fc_RD_75 : kx_m "RebornDrivers" 75 y_Ln_join b_Ln_join 2 none 1 ∧ Cond.instanceMethod y_Ln_join ∈ kx_tbl ∧ Cond.selects "RebornDrivers$Line" y_Ln_join y_Ln_join ∈ kx_tbl := ⟨⟨mm_220, mm_2, by decide +kernel, Or.inr ⟨_, mm_217⟩⟩, mm_219, sel_Ln_join⟩
theorem fg_RD_22 : kx_f "RebornDrivers" 22 0 3 := ⟨R_RD, F_RD, 14, rfl, by decide, in_RD, Or.inl mm_159⟩
theorem fg_RD_28 : kx_f "RebornDrivers" 28 0 4 := ⟨R_RD, F_RD, 14, rfl, by decide, in_RD, Or.inl mm_160⟩
theorem fg_RD_32 : kx_f "RebornDrivers" 32 0 5 := ⟨R_RD, F_RD, 14, rfl, by decide, in_RD, Or.inl mm_161⟩
theorem fc_RD_99 : kx_m "RebornDrivers" 99 y_RD_isDriver b_RD_isDriver 1 (some .boolean) 1 ∧ Cond.static y_RD_isDriver ∈ kx_tbl := ⟨⟨mm_380, mm_1, by decide +kernel, Or.inl mm_378⟩, mm_379⟩
theorem sel_RD_driverOf : Cond.selects "RebornDrivers" y_RD_driverOf y_RD_driverOf ∈ kx_tbl := List.mem_filter.mpr ⟨List.mem_append_left _ (by decide +kernel), by decide +kernel⟩
theorem fc_RD_102 : kx_m "RebornDrivers" 102 y_RD_driverOf b_RD_driverOf 2 (some (.object "RebornDrivers$Driver")) 1 ∧ Cond.instanceMethod y_RD_driverOf ∈ kx_tbl ∧ Cond.selects "RebornDrivers" y_RD_driverOf y_RD_driverOf ∈ kx_tbl := ⟨⟨mm_384, mm_1, by decide +kernel, Or.inl mm_381⟩, mm_383, sel_RD_driverOf⟩
theorem sel_Dr_suffer : Cond.selects "RebornDrivers$Driver" y_Dr_suffer y_Dr_suffer ∈ kx_tbl := List.mem_filter.mpr ⟨List.mem_append_left _ (by decide +kernel), by decide +kernel⟩
theorem fc_RD_106 : kx_m "RebornDrivers" 106 y_Dr_suffer b_Dr_suffer 2 (some .boolean) 1 ∧ Cond.instanceMethod y_Dr_suffer ∈ kx_tbl ∧ Cond.selects "RebornDrivers$Driver" y_Dr_suffer y_Dr_suffer ∈ kx_tbl := ⟨⟨mm_388, mm_3, by decide +kernel, Or.inr ⟨_, mm_385⟩⟩, mm_387, sel_Dr_suffer⟩
theorem fg_RD_134 : kx_f "RebornDrivers" 134 3 0 := ⟨R_Dr, F_Dr, 6, rfl, by decide, in_Dr, Or.inr ⟨_, mm_43⟩⟩
theorem fg_RD_137 : kx_f "RebornDrivers" 137 3 1 := ⟨R_Dr, F_Dr, 6, rfl, by decide, in_Dr, Or.inr ⟨_, mm_46⟩⟩
theorem fg_RD_140 : kx_f "RebornDrivers" 140 3 2 := ⟨R_Dr, F_Dr, 6, rfl, by decide, in_Dr, Or.inr ⟨_, mm_49⟩⟩
theorem fg_RD_143 : kx_f "RebornDrivers" 143 3 5 := ⟨R_Dr, F_Dr, 6, rfl, by decide, in_Dr, Or.inr ⟨_, mm_54⟩⟩
theorem fg_RD_146 : kx_f "RebornDrivers" 146 3 3 := ⟨R_Dr, F_Dr, 6, rfl, by decide, in_Dr, Or.inr ⟨_, mm_51⟩⟩
theorem fg_RD_115 : kx_f "RebornDrivers" 115 1 5 := ⟨R_Op, F_Op, 6, rfl, by decide, in_Op, Or.inr ⟨_, mm_142⟩⟩
theorem fg_RD_118 : kx_f "RebornDrivers" 118 2 1 := ⟨R_Ln, F_Ln, 2, rfl, by decide, in_Ln, Or.inr ⟨_, mm_28⟩⟩
theorem fg_RD_52 : kx_f "RebornDrivers" 52 0 9 := ⟨R_RD, F_RD, 14, rfl, by decide, in_RD, Or.inl mm_165⟩
theorem fg_RD_48 : kx_f "RebornDrivers" 48 0 8 := ⟨R_RD, F_RD, 14, rfl, by decide, in_RD, Or.inl mm_164⟩
theorem fg_RD_121 : kx_f "RebornDrivers" 121 5 0 := ⟨R_Ca, F_Ca, 4, rfl, by decide, in_Ca, Or.inr ⟨_, mm_109⟩⟩
theorem fg_RD_124 : kx_f "RebornDrivers" 124 5 1 := ⟨R_Ca, F_Ca, 4, rfl, by decide, in_Ca, Or.inr ⟨_, mm_111⟩⟩
theorem fg_RD_127 : kx_f "RebornDrivers" 127 5 2 := ⟨R_Ca, F_Ca, 4, rfl, by decide, in_Ca, Or.inr ⟨_, mm_113⟩⟩
theorem fg_RD_131 : kx_f "RebornDrivers" 131 0 11 := ⟨R_RD, F_RD, 14, rfl, by decide, in_RD, Or.inl mm_167⟩
theorem fg_RD_56 : kx_f "RebornDrivers" 56 0 10 := ⟨R_RD, F_RD, 14, rfl, by decide, in_RD, Or.inl mm_166⟩
theorem fg_RD_42 : kx_f "RebornDrivers" 42 0 7 := ⟨R_RD, F_RD, 14, rfl, by decide, in_RD, Or.inl mm_163⟩
theorem sel_Rq_progress : Cond.selects "RebornDrivers$Request" y_Rq_progress y_Rq_progress ∈ kx_tbl := List.mem_filter.mpr ⟨List.mem_append_left _ (by decide +kernel), by decide +kernel⟩
theorem fc_RD_150 : kx_m "RebornDrivers" 150 y_Rq_progress b_Rq_progress 1 (some .int) 0 ∧ Cond.instanceMethod y_Rq_progress ∈ kx_tbl ∧ Cond.selects "RebornDrivers$Request" y_Rq_progress y_Rq_progress ∈ kx_tbl := ⟨⟨mm_424, mm_4, by decide +kernel, Or.inr ⟨_, mm_421⟩⟩, mm_423, sel_Rq_progress⟩
theorem fg_RD_38 : kx_f "RebornDrivers" 38 0 6 := ⟨R_RD, F_RD, 14, rfl, by decide, in_RD, Or.inl mm_162⟩
theorem fg_RD_79 : kx_f "RebornDrivers" 79 0 13 := ⟨R_RD, F_RD, 14, rfl, by decide, in_RD, Or.inl mm_169⟩

def f_RD_isUser (u : Int32) : Int32 :=
  if u < 0 then 0
  else if 4 ≤ u then 0
  else 1
set_option maxHeartbeats 4000000 in
set_option maxRecDepth 100000 in
theorem c_RD_isUser (l : Launch) (D : va_G) (cI cZ cO : ClassId) (u : Int32) : kx_Ci (S := Unit) l y_RD_isUser b_RD_isUser 1 (some .boolean) 0 0 0 D (kx_T cI cZ cO) [.int u] [] (fun rr _ => rr = f_RD_isUser u ∧ kx_b rr) (fun _ => []) := by
  refine kx_enter_i (by decide) (Nat.le_of_ble_eq_true rfl) ?_
  intro p_ e_ s_ m_ below_ meth_ c_ ls A_ H I hl hw
  have S := I.1
  have hx := S.1
  have hb := S.2.1
  have hl : lv_has ls 1 [(0, .int u)] := hl
  refine lv_iload_n hx hb d_RD_isUser_0 rfl (lv_at hl 0 rfl) ?_
  refine lv_if_lt (tgt := 13) hx hb d_RD_isUser_1 (by decide) (fun h1 => ?_) (fun h1 => ?_)
  · refine lv_iconst (v := 0) hx hb d_RD_isUser_13 (by decide) ?_
    exact kx_ret_z I rfl hw (Or.inl rfl) () ⟨(by simp only [f_RD_isUser, if_pos h1]), (Or.inl rfl)⟩ [] (by decide) rfl d_RD_isUser_14
  · refine lv_iload_n hx hb d_RD_isUser_4 rfl (lv_at hl 0 rfl) ?_
    refine lv_iconst (v := 4) hx hb d_RD_isUser_5 (by decide) ?_
    refine lv_icmp_ge (tgt := 13) hx hb d_RD_isUser_6 (by decide) (fun h2 => ?_) (fun h2 => ?_)
    · refine lv_iconst (v := 0) hx hb d_RD_isUser_13 (by decide) ?_
      exact kx_ret_z I rfl hw (Or.inl rfl) () ⟨(by simp only [f_RD_isUser, if_neg h1, if_pos h2]), (Or.inl rfl)⟩ [] (by decide) rfl d_RD_isUser_14
    · refine lv_iconst (v := 1) hx hb d_RD_isUser_9 (by decide) ?_
      refine lv_goto (tgt := 14) hx hb d_RD_isUser_10 (by decide) ?_
      exact kx_ret_z I rfl hw (Or.inr rfl) () ⟨(by simp only [f_RD_isUser, if_neg h1, if_neg h2]), (Or.inr rfl)⟩ [] (by decide) rfl d_RD_isUser_14
def f_RD_isBlock (b : Int32) : Int32 :=
  if b < 0 then 0
  else if 16 ≤ b then 0
  else 1
set_option maxHeartbeats 4000000 in
set_option maxRecDepth 100000 in
theorem c_RD_isBlock (l : Launch) (D : va_G) (cI cZ cO : ClassId) (b : Int32) : kx_Ci (S := Unit) l y_RD_isBlock b_RD_isBlock 1 (some .boolean) 0 0 0 D (kx_T cI cZ cO) [.int b] [] (fun rr _ => rr = f_RD_isBlock b ∧ kx_b rr) (fun _ => []) := by
  refine kx_enter_i (by decide) (Nat.le_of_ble_eq_true rfl) ?_
  intro p_ e_ s_ m_ below_ meth_ c_ ls A_ H I hl hw
  have S := I.1
  have hx := S.1
  have hb := S.2.1
  have hl : lv_has ls 1 [(0, .int b)] := hl
  refine lv_iload_n hx hb d_RD_isBlock_0 rfl (lv_at hl 0 rfl) ?_
  refine lv_if_lt (tgt := 14) hx hb d_RD_isBlock_1 (by decide) (fun h1 => ?_) (fun h1 => ?_)
  · refine lv_iconst (v := 0) hx hb d_RD_isBlock_14 (by decide) ?_
    exact kx_ret_z I rfl hw (Or.inl rfl) () ⟨(by simp only [f_RD_isBlock, if_pos h1]), (Or.inl rfl)⟩ [] (by decide) rfl d_RD_isBlock_15
  · refine lv_iload_n hx hb d_RD_isBlock_4 rfl (lv_at hl 0 rfl) ?_
    refine lv_bipush (v := 16) hx hb d_RD_isBlock_5 (by decide) ?_
    refine lv_icmp_ge (tgt := 14) hx hb d_RD_isBlock_7 (by decide) (fun h2 => ?_) (fun h2 => ?_)
    · refine lv_iconst (v := 0) hx hb d_RD_isBlock_14 (by decide) ?_
      exact kx_ret_z I rfl hw (Or.inl rfl) () ⟨(by simp only [f_RD_isBlock, if_neg h1, if_pos h2]), (Or.inl rfl)⟩ [] (by decide) rfl d_RD_isBlock_15
    · refine lv_iconst (v := 1) hx hb d_RD_isBlock_10 (by decide) ?_
      refine lv_goto (tgt := 15) hx hb d_RD_isBlock_11 (by decide) ?_
      exact kx_ret_z I rfl hw (Or.inr rfl) () ⟨(by simp only [f_RD_isBlock, if_neg h1, if_neg h2]), (Or.inr rfl)⟩ [] (by decide) rfl d_RD_isBlock_15
def f_RD_isDriver (d : Int32) : Int32 :=
  if d = 0 then 1
  else if d = 1 then 1
  else 0
set_option maxHeartbeats 4000000 in
set_option maxRecDepth 100000 in
theorem c_RD_isDriver (l : Launch) (D : va_G) (cI cZ cO : ClassId) (d : Int32) : kx_Ci (S := Unit) l y_RD_isDriver b_RD_isDriver 1 (some .boolean) 0 0 0 D (kx_T cI cZ cO) [.int d] [] (fun rr _ => rr = f_RD_isDriver d ∧ kx_b rr) (fun _ => []) := by
  refine kx_enter_i (by decide) (Nat.le_of_ble_eq_true rfl) ?_
  intro p_ e_ s_ m_ below_ meth_ c_ ls A_ H I hl hw
  have S := I.1
  have hx := S.1
  have hb := S.2.1
  have hl : lv_has ls 1 [(0, .int d)] := hl
  refine lv_iload_n hx hb d_RD_isDriver_0 rfl (lv_at hl 0 rfl) ?_
  refine lv_if_eq (tgt := 9) hx hb d_RD_isDriver_1 (by decide) (fun h1 => ?_) (fun h1 => ?_)
  · refine lv_iconst (v := 1) hx hb d_RD_isDriver_9 (by decide) ?_
    refine lv_goto (tgt := 14) hx hb d_RD_isDriver_10 (by decide) ?_
    exact kx_ret_z I rfl hw (Or.inr rfl) () ⟨(by simp only [f_RD_isDriver, if_pos h1]), (Or.inr rfl)⟩ [] (by decide) rfl d_RD_isDriver_14
  · refine lv_iload_n hx hb d_RD_isDriver_4 rfl (lv_at hl 0 rfl) ?_
    refine lv_iconst (v := 1) hx hb d_RD_isDriver_5 (by decide) ?_
    refine lv_icmp_ne (tgt := 13) hx hb d_RD_isDriver_6 (by decide) (fun h2 => ?_) (fun h2 => ?_)
    · refine lv_iconst (v := 0) hx hb d_RD_isDriver_13 (by decide) ?_
      exact kx_ret_z I rfl hw (Or.inl rfl) () ⟨(by simp only [f_RD_isDriver, if_neg h1, if_neg h2]), (Or.inl rfl)⟩ [] (by decide) rfl d_RD_isDriver_14
    · refine lv_iconst (v := 1) hx hb d_RD_isDriver_9 (by decide) ?_
      refine lv_goto (tgt := 14) hx hb d_RD_isDriver_10 (by decide) ?_
      exact kx_ret_z I rfl hw (Or.inr rfl) () ⟨(by simp only [f_RD_isDriver, if_neg h1, if_pos h2]), (Or.inr rfl)⟩ [] (by decide) rfl d_RD_isDriver_14
theorem l_isUser {u : Int32} (h : ¬ f_RD_isUser u = 0) : vp_in u 4 := by
  unfold f_RD_isUser at h
  by_cases h1 : u < 0
  · rw [if_pos h1] at h
    exact absurd rfl h
  · by_cases h2 : 4 ≤ u
    · rw [if_neg h1, if_pos h2] at h
      exact absurd rfl h
    · exact kx_i2 (N := 4) rfl h1 h2
theorem l_isBlock {u : Int32} (h : ¬ f_RD_isBlock u = 0) : vp_in u 16 := by
  unfold f_RD_isBlock at h
  by_cases h1 : u < 0
  · rw [if_pos h1] at h
    exact absurd rfl h
  · by_cases h2 : 16 ≤ u
    · rw [if_neg h1, if_pos h2] at h
      exact absurd rfl h
    · exact kx_i2 (N := 16) rfl h1 h2
theorem l_find {c : kt_Ca} {b : Int32} (h : ¬ f_Ca_find c b = -1) : vp_in (f_Ca_find c b) 3 := by
  unfold f_Ca_find at h ⊢
  repeat' split
  all_goals first | (unfold vp_in; decide) | (exfalso; simp_all; done)
theorem l_stf (c : kt_Ca) : vp_in (f_Ca_slotToFill c) 3 := by
  by_cases h : f_Ca_find c (-1) = -1
  · unfold f_Ca_slotToFill
    simp only [h, if_pos]
    repeat' split
    all_goals first | (unfold vp_in; decide) | (exfalso; simp_all; done)
  · have h1 := l_find h
    unfold f_Ca_slotToFill
    simp only [h, if_neg, if_false]
    exact h1
theorem l_dsl {c : kt_Ca} (h : ¬ f_Ca_dirtySlotOfLowestBlock c = -1) : vp_in (f_Ca_dirtySlotOfLowestBlock c) 3 := by
  unfold f_Ca_dirtySlotOfLowestBlock at h ⊢
  repeat' split
  all_goals first | (unfold vp_in; decide) | (exfalso; simp_all; done)
theorem l_ne {n : kt_Ln} (h : f_Ln_isEmpty n = 0) : ¬ n.2 = 0 := by
  intro e
  unfold f_Ln_isEmpty at h
  rw [if_pos e] at h
  exact absurd h (by decide)
theorem l_open {q : kt_Rq} (h : ¬ f_Rq_isOpen q = 0) : ¬ q.1 = 0 := by
  intro e
  unfold f_Rq_isOpen at h
  rw [if_pos e] at h
  exact h rfl
def kv_fr (q : kt_Rq) : Prop := vp_in q.2.1 16 ∧ vp_in q.2.2.1 3
def kv_ol (mm : kt_M) : Prop := 0 ≤ mm.2.1 ∧ ¬ 200 < mm.2.1
def kv_ln (n : kt_Ln) : Prop := ∃ k : Nat, k ≤ 4 ∧ n.2 = nI k ∧ ∀ i : Nat, i < k → vp_in (n.1 i) 4
theorem kv_ln.ge {n : kt_Ln} (h : kv_ln n) : 0 ≤ n.2 := by
  obtain ⟨k, hk, e, -⟩ := h
  rw [e]
  exact nI_pos' (by omega)
theorem kv_ln.le {n : kt_Ln} (h : kv_ln n) : ¬ 4 < n.2 := by
  obtain ⟨k, hk, e, -⟩ := h
  rw [e]
  exact nI_nlt (a := 4) hk (by decide) |> fun q => by first | exact Int32.not_lt.mpr (nI_le hk (by decide)) | exact q
theorem kv_ln.hd {n : kt_Ln} (h : kv_ln n) (h0 : ¬ n.2 = 0) : vp_in (n.1 0) 4 := by
  obtain ⟨k, hk, e, hi⟩ := h
  refine hi 0 ?_
  rcases Nat.eq_zero_or_pos k with rfl | q
  · exact absurd e h0
  · exact q
theorem l_drop0 (f : Nat → Int32) : f_Ln_dropHead (f, nI 0) = (f, nI 0) := by
  unfold f_Ln_dropHead
  dsimp only
  rw [if_pos (show nI 0 ≤ 1 by decide), show (if (nI 0 - 1) < 0 then (0 : Int32) else nI 0 - 1) = nI 0 by decide]
theorem l_drop1 (f : Nat → Int32) : f_Ln_dropHead (f, nI 1) = (f, nI 0) := by
  unfold f_Ln_dropHead
  dsimp only
  rw [if_pos (show nI 1 ≤ 1 by decide), show (if (nI 1 - 1) < 0 then (0 : Int32) else nI 1 - 1) = nI 0 by decide]
theorem l_drop2 (f : Nat → Int32) : f_Ln_dropHead (f, nI 2) = (upd f 0 (f 1), nI 1) := by
  unfold f_Ln_dropHead
  dsimp only
  rw [if_neg (show ¬ nI 2 ≤ 1 by decide), if_pos (show nI 2 ≤ 2 by decide), show (if (nI 2 - 1) < 0 then (0 : Int32) else nI 2 - 1) = nI 1 by decide]
theorem l_drop3 (f : Nat → Int32) : f_Ln_dropHead (f, nI 3) = (upd (upd f 0 (f 1)) 1 (f 2), nI 2) := by
  unfold f_Ln_dropHead
  dsimp only
  rw [if_neg (show ¬ nI 3 ≤ 1 by decide), if_neg (show ¬ nI 3 ≤ 2 by decide), if_pos (show nI 3 ≤ 3 by decide), show (if (nI 3 - 1) < 0 then (0 : Int32) else nI 3 - 1) = nI 2 by decide]
  rfl
theorem l_drop4 (f : Nat → Int32) : f_Ln_dropHead (f, nI 4) = (upd (upd (upd f 0 (f 1)) 1 (f 2)) 2 (f 3), nI 3) := by
  unfold f_Ln_dropHead
  dsimp only
  rw [if_neg (show ¬ nI 4 ≤ 1 by decide), if_neg (show ¬ nI 4 ≤ 2 by decide), if_neg (show ¬ nI 4 ≤ 3 by decide), show (if (nI 4 - 1) < 0 then (0 : Int32) else nI 4 - 1) = nI 3 by decide]
  rfl
theorem kv_ln.drop {n : kt_Ln} (h : kv_ln n) : kv_ln (f_Ln_dropHead n) := by
  obtain ⟨f, x⟩ := n
  obtain ⟨k, hk, e, hi⟩ := h
  dsimp only at e hi
  subst e
  have hk : k = 0 ∨ k = 1 ∨ k = 2 ∨ k = 3 ∨ k = 4 := by omega
  rcases hk with rfl | rfl | rfl | rfl | rfl
  · rw [l_drop0]
    exact ⟨0, by omega, rfl, fun i h => by omega⟩
  · rw [l_drop1]
    exact ⟨0, by omega, rfl, fun i h => by omega⟩
  · rw [l_drop2]
    refine ⟨1, by omega, rfl, fun i h => ?_⟩
    rcases (show i = 0 by omega) with rfl
    exact hi 1 (by omega)
  · rw [l_drop3]
    refine ⟨2, by omega, rfl, fun i h => ?_⟩
    rcases (show i = 0 ∨ i = 1 by omega) with rfl | rfl
    · exact hi 1 (by omega)
    · exact hi 2 (by omega)
  · rw [l_drop4]
    refine ⟨3, by omega, rfl, fun i h => ?_⟩
    rcases (show i = 0 ∨ i = 1 ∨ i = 2 by omega) with rfl | rfl | rfl
    · exact hi 1 (by omega)
    · exact hi 2 (by omega)
    · exact hi 3 (by omega)
theorem kx_i5 {x n : Int32} (h0 : ¬ x < 0) (h1 : ¬ n ≤ x) (h2 : ¬ 200 < n) : vp_in x 200 := by
  rw [Int32.lt_iff_toInt_lt, show (0 : Int32).toInt = 0 from rfl] at h0
  rw [Int32.le_iff_toInt_le] at h1
  rw [Int32.lt_iff_toInt_lt, show (200 : Int32).toInt = 200 from rfl] at h2
  exact vp_in_iff.mpr ⟨by omega, by omega⟩
def f_RD_isFree (mm : kt_M) (ops : (Nat → kt_Op)) (u : Int32) : Int32 :=
  match f_RD_isUser u with
  | r1 => if r1 = 0 then 0
    else if ((ops u.toNatClampNeg).2.2.2.2.1) = 1 then 0
    else 1
set_option maxHeartbeats 4000000 in
set_option maxRecDepth 100000 in
theorem c_RD_isFree (l : Launch) (D : va_G) (cI cZ cO : ClassId) (ad : Nat → Nat) (mm : kt_M) (ops : (Nat → kt_Op)) (u : Int32) : kx_Ci (S := Unit) l y_RD_isFree b_RD_isFree 2 (some .boolean) 1 0 0 D (kx_T cI cZ cO) [.ref (ad 0), .int u] [((ad 0), .inr (0, [.int mm.1, .ref (ad 1), .ref (ad 6), .ref (ad 8), .ref (ad 10), .ref (ad 11), .ref (ad 12), .ref (ad 13), .ref (ad 14), .ref (ad 19), .ref (ad 20), .int mm.2.1, .int mm.2.2.1, .int mm.2.2.2])), ((ad 1), .inl (cO, 4, .inr (.inr (.inr (.inr (kx_opsf ad)))))), ((ad 2), .inr (1, [.int ((ops 0).1), .int ((ops 0).2.1), .int ((ops 0).2.2.1), .int ((ops 0).2.2.2.1), .int ((ops 0).2.2.2.2.1), .int ((ops 0).2.2.2.2.2)])), ((ad 3), .inr (1, [.int ((ops 1).1), .int ((ops 1).2.1), .int ((ops 1).2.2.1), .int ((ops 1).2.2.2.1), .int ((ops 1).2.2.2.2.1), .int ((ops 1).2.2.2.2.2)])), ((ad 4), .inr (1, [.int ((ops 2).1), .int ((ops 2).2.1), .int ((ops 2).2.2.1), .int ((ops 2).2.2.2.1), .int ((ops 2).2.2.2.2.1), .int ((ops 2).2.2.2.2.2)])), ((ad 5), .inr (1, [.int ((ops 3).1), .int ((ops 3).2.1), .int ((ops 3).2.2.1), .int ((ops 3).2.2.2.1), .int ((ops 3).2.2.2.2.1), .int ((ops 3).2.2.2.2.2)]))] (fun rr _ => rr = f_RD_isFree mm ops u ∧ kx_b rr) (fun _ => [((ad 0), .inr (0, [.int mm.1, .ref (ad 1), .ref (ad 6), .ref (ad 8), .ref (ad 10), .ref (ad 11), .ref (ad 12), .ref (ad 13), .ref (ad 14), .ref (ad 19), .ref (ad 20), .int mm.2.1, .int mm.2.2.1, .int mm.2.2.2])), ((ad 1), .inl (cO, 4, .inr (.inr (.inr (.inr (kx_opsf ad)))))), ((ad 2), .inr (1, [.int ((ops 0).1), .int ((ops 0).2.1), .int ((ops 0).2.2.1), .int ((ops 0).2.2.2.1), .int ((ops 0).2.2.2.2.1), .int ((ops 0).2.2.2.2.2)])), ((ad 3), .inr (1, [.int ((ops 1).1), .int ((ops 1).2.1), .int ((ops 1).2.2.1), .int ((ops 1).2.2.2.1), .int ((ops 1).2.2.2.2.1), .int ((ops 1).2.2.2.2.2)])), ((ad 4), .inr (1, [.int ((ops 2).1), .int ((ops 2).2.1), .int ((ops 2).2.2.1), .int ((ops 2).2.2.2.1), .int ((ops 2).2.2.2.2.1), .int ((ops 2).2.2.2.2.2)])), ((ad 5), .inr (1, [.int ((ops 3).1), .int ((ops 3).2.1), .int ((ops 3).2.2.1), .int ((ops 3).2.2.2.1), .int ((ops 3).2.2.2.2.1), .int ((ops 3).2.2.2.2.2)]))]) := by
  refine kx_enter_i (by decide) (Nat.le_of_ble_eq_true rfl) ?_
  intro p_ e_ s_ m_ below_ meth_ c_ ls A_ H I hl hw
  have S := I.1
  have hx := S.1
  have hb := S.2.1
  have hl : lv_has ls 2 [(0, .ref (ad 0)), (1, .int u)] := hl
  refine lv_iload_n hx hb d_RD_isFree_0 rfl (lv_at hl 1 rfl) ?_
  refine kx_call_i (wc := []) (wr := [((ad 0), .inr (0, [.int mm.1, .ref (ad 1), .ref (ad 6), .ref (ad 8), .ref (ad 10), .ref (ad 11), .ref (ad 12), .ref (ad 13), .ref (ad 14), .ref (ad 19), .ref (ad 20), .int mm.2.1, .int mm.2.2.1, .int mm.2.2.2])), ((ad 1), .inl (cO, 4, .inr (.inr (.inr (.inr (kx_opsf ad)))))), ((ad 2), .inr (1, [.int ((ops 0).1), .int ((ops 0).2.1), .int ((ops 0).2.2.1), .int ((ops 0).2.2.2.1), .int ((ops 0).2.2.2.2.1), .int ((ops 0).2.2.2.2.2)])), ((ad 3), .inr (1, [.int ((ops 1).1), .int ((ops 1).2.1), .int ((ops 1).2.2.1), .int ((ops 1).2.2.2.1), .int ((ops 1).2.2.2.2.1), .int ((ops 1).2.2.2.2.2)])), ((ad 4), .inr (1, [.int ((ops 2).1), .int ((ops 2).2.1), .int ((ops 2).2.2.1), .int ((ops 2).2.2.2.1), .int ((ops 2).2.2.2.2.1), .int ((ops 2).2.2.2.2.2)])), ((ad 5), .inr (1, [.int ((ops 3).1), .int ((ops 3).2.1), .int ((ops 3).2.2.1), .int ((ops 3).2.2.2.1), .int ((ops 3).2.2.2.2.1), .int ((ops 3).2.2.2.2.2)]))]) (rest := []) hw [] [0, 1, 2, 3, 4, 5] rfl rfl (by decide) (by decide) (kx_runS S hw fc_RD_109 [] (by decide) rfl (c_RD_isUser l D cI cZ cO u H.size) rfl hl.1 rfl (Nat.le_of_ble_eq_true rfl) d_RD_isFree_1 (by decide) (by decide)) (fun r1 u1 H locs hp1 hw => ?_)
  obtain ⟨hp1, hb1⟩ := hp1
  have hw : kx_w D (kx_T cI cZ cO) A_ s_ [((ad 0), .inr (0, [.int mm.1, .ref (ad 1), .ref (ad 6), .ref (ad 8), .ref (ad 10), .ref (ad 11), .ref (ad 12), .ref (ad 13), .ref (ad 14), .ref (ad 19), .ref (ad 20), .int mm.2.1, .int mm.2.2.1, .int mm.2.2.2])), ((ad 1), .inl (cO, 4, .inr (.inr (.inr (.inr (kx_opsf ad)))))), ((ad 2), .inr (1, [.int ((ops 0).1), .int ((ops 0).2.1), .int ((ops 0).2.2.1), .int ((ops 0).2.2.2.1), .int ((ops 0).2.2.2.2.1), .int ((ops 0).2.2.2.2.2)])), ((ad 3), .inr (1, [.int ((ops 1).1), .int ((ops 1).2.1), .int ((ops 1).2.2.1), .int ((ops 1).2.2.2.1), .int ((ops 1).2.2.2.2.1), .int ((ops 1).2.2.2.2.2)])), ((ad 4), .inr (1, [.int ((ops 2).1), .int ((ops 2).2.1), .int ((ops 2).2.2.1), .int ((ops 2).2.2.2.1), .int ((ops 2).2.2.2.2.1), .int ((ops 2).2.2.2.2.2)])), ((ad 5), .inr (1, [.int ((ops 3).1), .int ((ops 3).2.1), .int ((ops 3).2.2.1), .int ((ops 3).2.2.2.1), .int ((ops 3).2.2.2.2.1), .int ((ops 3).2.2.2.2.2)]))] H locs := hw
  refine lv_if_eq (tgt := 24) hx hb d_RD_isFree_4 (by decide) (fun h2 => ?_) (fun h2 => ?_)
  · refine lv_iconst (v := 0) hx hb d_RD_isFree_24 (by decide) ?_
    exact kx_ret_z I rfl hw (Or.inl rfl) () ⟨(by simp only [f_RD_isFree, ← hp1, if_pos h2]), (Or.inl rfl)⟩ [0, 1, 2, 3, 4, 5] (by decide) rfl d_RD_isFree_25
  · refine lv_aload_n hx hb d_RD_isFree_7 rfl (lv_at hl 0 rfl) ?_
    refine kx_get S hw fg_RD_11 0 rfl rfl d_RD_isFree_8 ?_
    refine lv_iload_n hx hb d_RD_isFree_11 rfl (lv_at hl 1 rfl) ?_
    rcases kx_c4 (i := u) (l_isUser (hp1 ▸ h2)) with e3 | e3 | e3 | e3
    · refine kx_aald S hw 1 2 rfl rfl (b := (ad 2)) (by rw [e3]; rfl) (l_isUser (hp1 ▸ h2)) d_RD_isFree_12 ?_
      refine kx_get S hw fg_RD_112 2 rfl rfl d_RD_isFree_13 ?_
      refine lv_iconst (v := 1) hx hb d_RD_isFree_16 (by decide) ?_
      refine lv_icmp_eq (tgt := 24) hx hb d_RD_isFree_17 (by decide) (fun h4 => ?_) (fun h4 => ?_)
      · refine lv_iconst (v := 0) hx hb d_RD_isFree_24 (by decide) ?_
        exact kx_ret_z I rfl hw (Or.inl rfl) () ⟨(by simp only [f_RD_isFree, ← hp1, if_neg h2, e3, if_pos h4]), (Or.inl rfl)⟩ [0, 1, 2, 3, 4, 5] (by decide) rfl d_RD_isFree_25
      · refine lv_iconst (v := 1) hx hb d_RD_isFree_20 (by decide) ?_
        refine lv_goto (tgt := 25) hx hb d_RD_isFree_21 (by decide) ?_
        exact kx_ret_z I rfl hw (Or.inr rfl) () ⟨(by simp only [f_RD_isFree, ← hp1, if_neg h2, e3, if_neg h4]), (Or.inr rfl)⟩ [0, 1, 2, 3, 4, 5] (by decide) rfl d_RD_isFree_25
    · refine kx_aald S hw 1 2 rfl rfl (b := (ad 3)) (by rw [e3]; rfl) (l_isUser (hp1 ▸ h2)) d_RD_isFree_12 ?_
      refine kx_get S hw fg_RD_112 3 rfl rfl d_RD_isFree_13 ?_
      refine lv_iconst (v := 1) hx hb d_RD_isFree_16 (by decide) ?_
      refine lv_icmp_eq (tgt := 24) hx hb d_RD_isFree_17 (by decide) (fun h4 => ?_) (fun h4 => ?_)
      · refine lv_iconst (v := 0) hx hb d_RD_isFree_24 (by decide) ?_
        exact kx_ret_z I rfl hw (Or.inl rfl) () ⟨(by simp only [f_RD_isFree, ← hp1, if_neg h2, e3, if_pos h4]), (Or.inl rfl)⟩ [0, 1, 2, 3, 4, 5] (by decide) rfl d_RD_isFree_25
      · refine lv_iconst (v := 1) hx hb d_RD_isFree_20 (by decide) ?_
        refine lv_goto (tgt := 25) hx hb d_RD_isFree_21 (by decide) ?_
        exact kx_ret_z I rfl hw (Or.inr rfl) () ⟨(by simp only [f_RD_isFree, ← hp1, if_neg h2, e3, if_neg h4]), (Or.inr rfl)⟩ [0, 1, 2, 3, 4, 5] (by decide) rfl d_RD_isFree_25
    · refine kx_aald S hw 1 2 rfl rfl (b := (ad 4)) (by rw [e3]; rfl) (l_isUser (hp1 ▸ h2)) d_RD_isFree_12 ?_
      refine kx_get S hw fg_RD_112 4 rfl rfl d_RD_isFree_13 ?_
      refine lv_iconst (v := 1) hx hb d_RD_isFree_16 (by decide) ?_
      refine lv_icmp_eq (tgt := 24) hx hb d_RD_isFree_17 (by decide) (fun h4 => ?_) (fun h4 => ?_)
      · refine lv_iconst (v := 0) hx hb d_RD_isFree_24 (by decide) ?_
        exact kx_ret_z I rfl hw (Or.inl rfl) () ⟨(by simp only [f_RD_isFree, ← hp1, if_neg h2, e3, if_pos h4]), (Or.inl rfl)⟩ [0, 1, 2, 3, 4, 5] (by decide) rfl d_RD_isFree_25
      · refine lv_iconst (v := 1) hx hb d_RD_isFree_20 (by decide) ?_
        refine lv_goto (tgt := 25) hx hb d_RD_isFree_21 (by decide) ?_
        exact kx_ret_z I rfl hw (Or.inr rfl) () ⟨(by simp only [f_RD_isFree, ← hp1, if_neg h2, e3, if_neg h4]), (Or.inr rfl)⟩ [0, 1, 2, 3, 4, 5] (by decide) rfl d_RD_isFree_25
    · refine kx_aald S hw 1 2 rfl rfl (b := (ad 5)) (by rw [e3]; rfl) (l_isUser (hp1 ▸ h2)) d_RD_isFree_12 ?_
      refine kx_get S hw fg_RD_112 5 rfl rfl d_RD_isFree_13 ?_
      refine lv_iconst (v := 1) hx hb d_RD_isFree_16 (by decide) ?_
      refine lv_icmp_eq (tgt := 24) hx hb d_RD_isFree_17 (by decide) (fun h4 => ?_) (fun h4 => ?_)
      · refine lv_iconst (v := 0) hx hb d_RD_isFree_24 (by decide) ?_
        exact kx_ret_z I rfl hw (Or.inl rfl) () ⟨(by simp only [f_RD_isFree, ← hp1, if_neg h2, e3, if_pos h4]), (Or.inl rfl)⟩ [0, 1, 2, 3, 4, 5] (by decide) rfl d_RD_isFree_25
      · refine lv_iconst (v := 1) hx hb d_RD_isFree_20 (by decide) ?_
        refine lv_goto (tgt := 25) hx hb d_RD_isFree_21 (by decide) ?_
        exact kx_ret_z I rfl hw (Or.inr rfl) () ⟨(by simp only [f_RD_isFree, ← hp1, if_neg h2, e3, if_neg h4]), (Or.inr rfl)⟩ [0, 1, 2, 3, 4, 5] (by decide) rfl d_RD_isFree_25
theorem l_isFree {mm : kt_M} {ops : Nat → kt_Op} {u : Int32} (h : ¬ f_RD_isFree mm ops u = 0) : vp_in u 4 := by
  refine l_isUser (fun e => h ?_)
  unfold f_RD_isFree
  simp only [e, if_pos]
def f_RD_read (mm : kt_M) (ops : (Nat → kt_Op)) (fl : kt_Ln) (u : Int32) (b : Int32) : Int32 × (Nat → kt_Op) × kt_Ln :=
  match f_RD_isFree mm ops u with
  | r1 => if r1 = 0 then (0, ops, fl)
    else match f_RD_isBlock b with
    | r3 => if r3 = 0 then (0, ops, fl)
      else match f_Op_begin (ops u.toNatClampNeg) 0 b 0 with
      | o6 => match f_Ln_join fl u with
        | n7 => (1, va_up ops u.toNatClampNeg o6, n7)
set_option maxHeartbeats 4000000 in
set_option maxRecDepth 100000 in
theorem c_RD_read (l : Launch) (D : va_G) (cI cZ cO : ClassId) (ad : Nat → Nat) (mm : kt_M) (ops : (Nat → kt_Op)) (fl : kt_Ln) (u : Int32) (b : Int32) (hj : 0 ≤ fl.2) : kx_Ci (S := (Nat → kt_Op) × kt_Ln) l y_RD_read b_RD_read 3 (some .boolean) 2 0 0 D (kx_T cI cZ cO) [.ref (ad 0), .int u, .int b] [((ad 0), .inr (0, [.int mm.1, .ref (ad 1), .ref (ad 6), .ref (ad 8), .ref (ad 10), .ref (ad 11), .ref (ad 12), .ref (ad 13), .ref (ad 14), .ref (ad 19), .ref (ad 20), .int mm.2.1, .int mm.2.2.1, .int mm.2.2.2])), ((ad 1), .inl (cO, 4, .inr (.inr (.inr (.inr (kx_opsf ad)))))), ((ad 2), .inr (1, [.int ((ops 0).1), .int ((ops 0).2.1), .int ((ops 0).2.2.1), .int ((ops 0).2.2.2.1), .int ((ops 0).2.2.2.2.1), .int ((ops 0).2.2.2.2.2)])), ((ad 3), .inr (1, [.int ((ops 1).1), .int ((ops 1).2.1), .int ((ops 1).2.2.1), .int ((ops 1).2.2.2.1), .int ((ops 1).2.2.2.2.1), .int ((ops 1).2.2.2.2.2)])), ((ad 4), .inr (1, [.int ((ops 2).1), .int ((ops 2).2.1), .int ((ops 2).2.2.1), .int ((ops 2).2.2.2.1), .int ((ops 2).2.2.2.2.1), .int ((ops 2).2.2.2.2.2)])), ((ad 5), .inr (1, [.int ((ops 3).1), .int ((ops 3).2.1), .int ((ops 3).2.2.1), .int ((ops 3).2.2.2.1), .int ((ops 3).2.2.2.2.1), .int ((ops 3).2.2.2.2.2)])), ((ad 6), .inr (2, [.ref (ad 7), .int fl.2])), ((ad 7), .inl (cI, 4, .inl fl.1))] (fun rr zz => (rr, zz) = f_RD_read mm ops fl u b ∧ kx_b rr) (fun zz => [((ad 0), .inr (0, [.int mm.1, .ref (ad 1), .ref (ad 6), .ref (ad 8), .ref (ad 10), .ref (ad 11), .ref (ad 12), .ref (ad 13), .ref (ad 14), .ref (ad 19), .ref (ad 20), .int mm.2.1, .int mm.2.2.1, .int mm.2.2.2])), ((ad 1), .inl (cO, 4, .inr (.inr (.inr (.inr (kx_opsf ad)))))), ((ad 2), .inr (1, [.int ((zz.1 0).1), .int ((zz.1 0).2.1), .int ((zz.1 0).2.2.1), .int ((zz.1 0).2.2.2.1), .int ((zz.1 0).2.2.2.2.1), .int ((zz.1 0).2.2.2.2.2)])), ((ad 3), .inr (1, [.int ((zz.1 1).1), .int ((zz.1 1).2.1), .int ((zz.1 1).2.2.1), .int ((zz.1 1).2.2.2.1), .int ((zz.1 1).2.2.2.2.1), .int ((zz.1 1).2.2.2.2.2)])), ((ad 4), .inr (1, [.int ((zz.1 2).1), .int ((zz.1 2).2.1), .int ((zz.1 2).2.2.1), .int ((zz.1 2).2.2.2.1), .int ((zz.1 2).2.2.2.2.1), .int ((zz.1 2).2.2.2.2.2)])), ((ad 5), .inr (1, [.int ((zz.1 3).1), .int ((zz.1 3).2.1), .int ((zz.1 3).2.2.1), .int ((zz.1 3).2.2.2.1), .int ((zz.1 3).2.2.2.2.1), .int ((zz.1 3).2.2.2.2.2)])), ((ad 6), .inr (2, [.ref (ad 7), .int zz.2.2])), ((ad 7), .inl (cI, 4, .inl zz.2.1))]) := by
  refine kx_enter_i (by decide) (Nat.le_of_ble_eq_true rfl) ?_
  intro p_ e_ s_ m_ below_ meth_ c_ ls A_ H I hl hw
  have S := I.1
  have hx := S.1
  have hb := S.2.1
  have hl : lv_has ls 3 [(0, .ref (ad 0)), (1, .int u), (2, .int b)] := hl
  refine lv_aload_n hx hb d_RD_read_0 rfl (lv_at hl 0 rfl) ?_
  refine lv_iload_n hx hb d_RD_read_1 rfl (lv_at hl 1 rfl) ?_
  refine kx_call_i (wc := [((ad 0), .inr (0, [.int mm.1, .ref (ad 1), .ref (ad 6), .ref (ad 8), .ref (ad 10), .ref (ad 11), .ref (ad 12), .ref (ad 13), .ref (ad 14), .ref (ad 19), .ref (ad 20), .int mm.2.1, .int mm.2.2.1, .int mm.2.2.2])), ((ad 1), .inl (cO, 4, .inr (.inr (.inr (.inr (kx_opsf ad)))))), ((ad 2), .inr (1, [.int ((ops 0).1), .int ((ops 0).2.1), .int ((ops 0).2.2.1), .int ((ops 0).2.2.2.1), .int ((ops 0).2.2.2.2.1), .int ((ops 0).2.2.2.2.2)])), ((ad 3), .inr (1, [.int ((ops 1).1), .int ((ops 1).2.1), .int ((ops 1).2.2.1), .int ((ops 1).2.2.2.1), .int ((ops 1).2.2.2.2.1), .int ((ops 1).2.2.2.2.2)])), ((ad 4), .inr (1, [.int ((ops 2).1), .int ((ops 2).2.1), .int ((ops 2).2.2.1), .int ((ops 2).2.2.2.1), .int ((ops 2).2.2.2.2.1), .int ((ops 2).2.2.2.2.2)])), ((ad 5), .inr (1, [.int ((ops 3).1), .int ((ops 3).2.1), .int ((ops 3).2.2.1), .int ((ops 3).2.2.2.1), .int ((ops 3).2.2.2.2.1), .int ((ops 3).2.2.2.2.2)]))]) (wr := [((ad 6), .inr (2, [.ref (ad 7), .int fl.2])), ((ad 7), .inl (cI, 4, .inl fl.1))]) (rest := []) hw [0, 1, 2, 3, 4, 5] [6, 7] rfl rfl (by decide) (by decide) (kx_runV S hw fc_RD_64 rfl 0 rfl [0, 1, 2, 3, 4, 5] (by decide) rfl (c_RD_isFree l D cI cZ cO ad mm ops u H.size) rfl hl.1 rfl (Nat.le_of_ble_eq_true rfl) d_RD_read_2 (by decide) (by decide)) (fun r1 u1 H locs hp1 hw => ?_)
  obtain ⟨hp1, hb1⟩ := hp1
  have hw : kx_w D (kx_T cI cZ cO) A_ s_ [((ad 6), .inr (2, [.ref (ad 7), .int fl.2])), ((ad 7), .inl (cI, 4, .inl fl.1)), ((ad 0), .inr (0, [.int mm.1, .ref (ad 1), .ref (ad 6), .ref (ad 8), .ref (ad 10), .ref (ad 11), .ref (ad 12), .ref (ad 13), .ref (ad 14), .ref (ad 19), .ref (ad 20), .int mm.2.1, .int mm.2.2.1, .int mm.2.2.2])), ((ad 1), .inl (cO, 4, .inr (.inr (.inr (.inr (kx_opsf ad)))))), ((ad 2), .inr (1, [.int ((ops 0).1), .int ((ops 0).2.1), .int ((ops 0).2.2.1), .int ((ops 0).2.2.2.1), .int ((ops 0).2.2.2.2.1), .int ((ops 0).2.2.2.2.2)])), ((ad 3), .inr (1, [.int ((ops 1).1), .int ((ops 1).2.1), .int ((ops 1).2.2.1), .int ((ops 1).2.2.2.1), .int ((ops 1).2.2.2.2.1), .int ((ops 1).2.2.2.2.2)])), ((ad 4), .inr (1, [.int ((ops 2).1), .int ((ops 2).2.1), .int ((ops 2).2.2.1), .int ((ops 2).2.2.2.1), .int ((ops 2).2.2.2.2.1), .int ((ops 2).2.2.2.2.2)])), ((ad 5), .inr (1, [.int ((ops 3).1), .int ((ops 3).2.1), .int ((ops 3).2.2.1), .int ((ops 3).2.2.2.1), .int ((ops 3).2.2.2.2.1), .int ((ops 3).2.2.2.2.2)]))] H locs := hw
  refine lv_if_eq (tgt := 15) hx hb d_RD_read_5 (by decide) (fun h2 => ?_) (fun h2 => ?_)
  · refine lv_iconst (v := 0) hx hb d_RD_read_15 (by decide) ?_
    exact kx_ret_z I rfl hw (Or.inl rfl) (ops, fl) ⟨(by simp only [f_RD_read, ← hp1, if_pos h2]), (Or.inl rfl)⟩ [2, 3, 4, 5, 6, 7, 0, 1] (by decide) rfl d_RD_read_16
  · refine lv_iload_n hx hb d_RD_read_8 rfl (lv_at hl 2 rfl) ?_
    refine kx_call_i (wc := []) (wr := [((ad 6), .inr (2, [.ref (ad 7), .int fl.2])), ((ad 7), .inl (cI, 4, .inl fl.1)), ((ad 0), .inr (0, [.int mm.1, .ref (ad 1), .ref (ad 6), .ref (ad 8), .ref (ad 10), .ref (ad 11), .ref (ad 12), .ref (ad 13), .ref (ad 14), .ref (ad 19), .ref (ad 20), .int mm.2.1, .int mm.2.2.1, .int mm.2.2.2])), ((ad 1), .inl (cO, 4, .inr (.inr (.inr (.inr (kx_opsf ad)))))), ((ad 2), .inr (1, [.int ((ops 0).1), .int ((ops 0).2.1), .int ((ops 0).2.2.1), .int ((ops 0).2.2.2.1), .int ((ops 0).2.2.2.2.1), .int ((ops 0).2.2.2.2.2)])), ((ad 3), .inr (1, [.int ((ops 1).1), .int ((ops 1).2.1), .int ((ops 1).2.2.1), .int ((ops 1).2.2.2.1), .int ((ops 1).2.2.2.2.1), .int ((ops 1).2.2.2.2.2)])), ((ad 4), .inr (1, [.int ((ops 2).1), .int ((ops 2).2.1), .int ((ops 2).2.2.1), .int ((ops 2).2.2.2.1), .int ((ops 2).2.2.2.2.1), .int ((ops 2).2.2.2.2.2)])), ((ad 5), .inr (1, [.int ((ops 3).1), .int ((ops 3).2.1), .int ((ops 3).2.2.1), .int ((ops 3).2.2.2.1), .int ((ops 3).2.2.2.2.1), .int ((ops 3).2.2.2.2.2)]))]) (rest := []) hw [] [0, 1, 2, 3, 4, 5, 6, 7] rfl rfl (by decide) (by decide) (kx_runS S hw fc_RD_68 [] (by decide) rfl (c_RD_isBlock l D cI cZ cO b H.size) rfl hl.1 rfl (Nat.le_of_ble_eq_true rfl) d_RD_read_9 (by decide) (by decide)) (fun r3 u3 H locs hp3 hw => ?_)
    obtain ⟨hp3, hb3⟩ := hp3
    have hw : kx_w D (kx_T cI cZ cO) A_ s_ [((ad 6), .inr (2, [.ref (ad 7), .int fl.2])), ((ad 7), .inl (cI, 4, .inl fl.1)), ((ad 0), .inr (0, [.int mm.1, .ref (ad 1), .ref (ad 6), .ref (ad 8), .ref (ad 10), .ref (ad 11), .ref (ad 12), .ref (ad 13), .ref (ad 14), .ref (ad 19), .ref (ad 20), .int mm.2.1, .int mm.2.2.1, .int mm.2.2.2])), ((ad 1), .inl (cO, 4, .inr (.inr (.inr (.inr (kx_opsf ad)))))), ((ad 2), .inr (1, [.int ((ops 0).1), .int ((ops 0).2.1), .int ((ops 0).2.2.1), .int ((ops 0).2.2.2.1), .int ((ops 0).2.2.2.2.1), .int ((ops 0).2.2.2.2.2)])), ((ad 3), .inr (1, [.int ((ops 1).1), .int ((ops 1).2.1), .int ((ops 1).2.2.1), .int ((ops 1).2.2.2.1), .int ((ops 1).2.2.2.2.1), .int ((ops 1).2.2.2.2.2)])), ((ad 4), .inr (1, [.int ((ops 2).1), .int ((ops 2).2.1), .int ((ops 2).2.2.1), .int ((ops 2).2.2.2.1), .int ((ops 2).2.2.2.2.1), .int ((ops 2).2.2.2.2.2)])), ((ad 5), .inr (1, [.int ((ops 3).1), .int ((ops 3).2.1), .int ((ops 3).2.2.1), .int ((ops 3).2.2.2.1), .int ((ops 3).2.2.2.2.1), .int ((ops 3).2.2.2.2.2)]))] H locs := hw
    refine lv_if_ne (tgt := 17) hx hb d_RD_read_12 (by decide) (fun h4 => ?_) (fun h4 => ?_)
    · refine lv_aload_n hx hb d_RD_read_17 rfl (lv_at hl 0 rfl) ?_
      refine kx_get S hw fg_RD_11 2 rfl rfl d_RD_read_18 ?_
      refine lv_iload_n hx hb d_RD_read_21 rfl (lv_at hl 1 rfl) ?_
      rcases kx_c4 (i := u) (l_isFree (hp1 ▸ h2)) with e5 | e5 | e5 | e5
      · refine kx_aald S hw 3 2 rfl rfl (b := (ad 2)) (by rw [e5]; rfl) (l_isFree (hp1 ▸ h2)) d_RD_read_22 ?_
        refine lv_iconst (v := 0) hx hb d_RD_read_23 (by decide) ?_
        refine lv_iload_n hx hb d_RD_read_24 rfl (lv_at hl 2 rfl) ?_
        refine lv_iconst (v := 0) hx hb d_RD_read_25 (by decide) ?_
        refine kx_call_v (wc := [((ad 2), .inr (1, [.int ((ops 0).1), .int ((ops 0).2.1), .int ((ops 0).2.2.1), .int ((ops 0).2.2.2.1), .int ((ops 0).2.2.2.2.1), .int ((ops 0).2.2.2.2.2)]))]) (wr := [((ad 6), .inr (2, [.ref (ad 7), .int fl.2])), ((ad 7), .inl (cI, 4, .inl fl.1)), ((ad 0), .inr (0, [.int mm.1, .ref (ad 1), .ref (ad 6), .ref (ad 8), .ref (ad 10), .ref (ad 11), .ref (ad 12), .ref (ad 13), .ref (ad 14), .ref (ad 19), .ref (ad 20), .int mm.2.1, .int mm.2.2.1, .int mm.2.2.2])), ((ad 1), .inl (cO, 4, .inr (.inr (.inr (.inr (kx_opsf ad)))))), ((ad 3), .inr (1, [.int ((ops 1).1), .int ((ops 1).2.1), .int ((ops 1).2.2.1), .int ((ops 1).2.2.2.1), .int ((ops 1).2.2.2.2.1), .int ((ops 1).2.2.2.2.2)])), ((ad 4), .inr (1, [.int ((ops 2).1), .int ((ops 2).2.1), .int ((ops 2).2.2.1), .int ((ops 2).2.2.2.1), .int ((ops 2).2.2.2.2.1), .int ((ops 2).2.2.2.2.2)])), ((ad 5), .inr (1, [.int ((ops 3).1), .int ((ops 3).2.1), .int ((ops 3).2.2.1), .int ((ops 3).2.2.2.1), .int ((ops 3).2.2.2.2.1), .int ((ops 3).2.2.2.2.2)]))]) (rest := []) hw [4] [0, 1, 2, 3, 5, 6, 7] rfl rfl (by decide) (by decide) (kx_runV S hw fc_RD_71 rfl 4 rfl [4] (by decide) rfl (c_Op_begin l D cI cZ cO (ad 2) (ops 0) 0 b 0 H.size) rfl hl.1 rfl (Nat.le_of_ble_eq_true rfl) d_RD_read_26 (by decide) (by decide)) (fun u6 H locs hp6 hw => ?_)
        obtain ⟨o6, rfl⟩ : ∃ z, z = u6 := ⟨_, rfl⟩
        have hw : kx_w D (kx_T cI cZ cO) A_ s_ [((ad 6), .inr (2, [.ref (ad 7), .int fl.2])), ((ad 7), .inl (cI, 4, .inl fl.1)), ((ad 0), .inr (0, [.int mm.1, .ref (ad 1), .ref (ad 6), .ref (ad 8), .ref (ad 10), .ref (ad 11), .ref (ad 12), .ref (ad 13), .ref (ad 14), .ref (ad 19), .ref (ad 20), .int mm.2.1, .int mm.2.2.1, .int mm.2.2.2])), ((ad 1), .inl (cO, 4, .inr (.inr (.inr (.inr (kx_opsf ad)))))), ((ad 3), .inr (1, [.int ((ops 1).1), .int ((ops 1).2.1), .int ((ops 1).2.2.1), .int ((ops 1).2.2.2.1), .int ((ops 1).2.2.2.2.1), .int ((ops 1).2.2.2.2.2)])), ((ad 4), .inr (1, [.int ((ops 2).1), .int ((ops 2).2.1), .int ((ops 2).2.2.1), .int ((ops 2).2.2.2.1), .int ((ops 2).2.2.2.2.1), .int ((ops 2).2.2.2.2.2)])), ((ad 5), .inr (1, [.int ((ops 3).1), .int ((ops 3).2.1), .int ((ops 3).2.2.1), .int ((ops 3).2.2.2.1), .int ((ops 3).2.2.2.2.1), .int ((ops 3).2.2.2.2.2)])), ((ad 2), .inr (1, [.int o6.1, .int o6.2.1, .int o6.2.2.1, .int o6.2.2.2.1, .int o6.2.2.2.2.1, .int o6.2.2.2.2.2]))] H locs := hw
        refine lv_aload_n hx hb d_RD_read_29 rfl (lv_at hl 0 rfl) ?_
        refine kx_get S hw fg_RD_18 2 rfl rfl d_RD_read_30 ?_
        refine lv_iload_n hx hb d_RD_read_33 rfl (lv_at hl 1 rfl) ?_
        refine kx_call_v (wc := [((ad 6), .inr (2, [.ref (ad 7), .int fl.2])), ((ad 7), .inl (cI, 4, .inl fl.1))]) (wr := [((ad 0), .inr (0, [.int mm.1, .ref (ad 1), .ref (ad 6), .ref (ad 8), .ref (ad 10), .ref (ad 11), .ref (ad 12), .ref (ad 13), .ref (ad 14), .ref (ad 19), .ref (ad 20), .int mm.2.1, .int mm.2.2.1, .int mm.2.2.2])), ((ad 1), .inl (cO, 4, .inr (.inr (.inr (.inr (kx_opsf ad)))))), ((ad 3), .inr (1, [.int ((ops 1).1), .int ((ops 1).2.1), .int ((ops 1).2.2.1), .int ((ops 1).2.2.2.1), .int ((ops 1).2.2.2.2.1), .int ((ops 1).2.2.2.2.2)])), ((ad 4), .inr (1, [.int ((ops 2).1), .int ((ops 2).2.1), .int ((ops 2).2.2.1), .int ((ops 2).2.2.2.1), .int ((ops 2).2.2.2.2.1), .int ((ops 2).2.2.2.2.2)])), ((ad 5), .inr (1, [.int ((ops 3).1), .int ((ops 3).2.1), .int ((ops 3).2.2.1), .int ((ops 3).2.2.2.1), .int ((ops 3).2.2.2.2.1), .int ((ops 3).2.2.2.2.2)])), ((ad 2), .inr (1, [.int o6.1, .int o6.2.1, .int o6.2.2.1, .int o6.2.2.2.1, .int o6.2.2.2.2.1, .int o6.2.2.2.2.2]))]) (rest := []) hw [0, 1] [2, 3, 4, 5, 6, 7] rfl rfl (by decide) (by decide) (kx_runV S hw fc_RD_75 rfl 0 rfl [0, 1] (by decide) rfl (c_Ln_join l D cI cZ cO (ad 6) (ad 7) fl u (hj) H.size) rfl hl.1 rfl (Nat.le_of_ble_eq_true rfl) d_RD_read_34 (by decide) (by decide)) (fun u7 H locs hp7 hw => ?_)
        obtain ⟨n7, rfl⟩ : ∃ z, z = u7 := ⟨_, rfl⟩
        have hw : kx_w D (kx_T cI cZ cO) A_ s_ [((ad 0), .inr (0, [.int mm.1, .ref (ad 1), .ref (ad 6), .ref (ad 8), .ref (ad 10), .ref (ad 11), .ref (ad 12), .ref (ad 13), .ref (ad 14), .ref (ad 19), .ref (ad 20), .int mm.2.1, .int mm.2.2.1, .int mm.2.2.2])), ((ad 1), .inl (cO, 4, .inr (.inr (.inr (.inr (kx_opsf ad)))))), ((ad 3), .inr (1, [.int ((ops 1).1), .int ((ops 1).2.1), .int ((ops 1).2.2.1), .int ((ops 1).2.2.2.1), .int ((ops 1).2.2.2.2.1), .int ((ops 1).2.2.2.2.2)])), ((ad 4), .inr (1, [.int ((ops 2).1), .int ((ops 2).2.1), .int ((ops 2).2.2.1), .int ((ops 2).2.2.2.1), .int ((ops 2).2.2.2.2.1), .int ((ops 2).2.2.2.2.2)])), ((ad 5), .inr (1, [.int ((ops 3).1), .int ((ops 3).2.1), .int ((ops 3).2.2.1), .int ((ops 3).2.2.2.1), .int ((ops 3).2.2.2.2.1), .int ((ops 3).2.2.2.2.2)])), ((ad 2), .inr (1, [.int o6.1, .int o6.2.1, .int o6.2.2.1, .int o6.2.2.2.1, .int o6.2.2.2.2.1, .int o6.2.2.2.2.2])), ((ad 6), .inr (2, [.ref (ad 7), .int n7.2])), ((ad 7), .inl (cI, 4, .inl n7.1))] H locs := hw
        refine lv_iconst (v := 1) hx hb d_RD_read_37 (by decide) ?_
        exact kx_ret_z I rfl hw (Or.inr rfl) (va_up ops 0 o6, n7) ⟨(by simp only [f_RD_read, ← hp1, if_neg h2, ← hp3, if_neg h4, e5, ← hp6, ← hp7]), (Or.inr rfl)⟩ [0, 1, 5, 2, 3, 4, 6, 7] (by decide) rfl d_RD_read_38
      · refine kx_aald S hw 3 2 rfl rfl (b := (ad 3)) (by rw [e5]; rfl) (l_isFree (hp1 ▸ h2)) d_RD_read_22 ?_
        refine lv_iconst (v := 0) hx hb d_RD_read_23 (by decide) ?_
        refine lv_iload_n hx hb d_RD_read_24 rfl (lv_at hl 2 rfl) ?_
        refine lv_iconst (v := 0) hx hb d_RD_read_25 (by decide) ?_
        refine kx_call_v (wc := [((ad 3), .inr (1, [.int ((ops 1).1), .int ((ops 1).2.1), .int ((ops 1).2.2.1), .int ((ops 1).2.2.2.1), .int ((ops 1).2.2.2.2.1), .int ((ops 1).2.2.2.2.2)]))]) (wr := [((ad 6), .inr (2, [.ref (ad 7), .int fl.2])), ((ad 7), .inl (cI, 4, .inl fl.1)), ((ad 0), .inr (0, [.int mm.1, .ref (ad 1), .ref (ad 6), .ref (ad 8), .ref (ad 10), .ref (ad 11), .ref (ad 12), .ref (ad 13), .ref (ad 14), .ref (ad 19), .ref (ad 20), .int mm.2.1, .int mm.2.2.1, .int mm.2.2.2])), ((ad 1), .inl (cO, 4, .inr (.inr (.inr (.inr (kx_opsf ad)))))), ((ad 2), .inr (1, [.int ((ops 0).1), .int ((ops 0).2.1), .int ((ops 0).2.2.1), .int ((ops 0).2.2.2.1), .int ((ops 0).2.2.2.2.1), .int ((ops 0).2.2.2.2.2)])), ((ad 4), .inr (1, [.int ((ops 2).1), .int ((ops 2).2.1), .int ((ops 2).2.2.1), .int ((ops 2).2.2.2.1), .int ((ops 2).2.2.2.2.1), .int ((ops 2).2.2.2.2.2)])), ((ad 5), .inr (1, [.int ((ops 3).1), .int ((ops 3).2.1), .int ((ops 3).2.2.1), .int ((ops 3).2.2.2.1), .int ((ops 3).2.2.2.2.1), .int ((ops 3).2.2.2.2.2)]))]) (rest := []) hw [5] [0, 1, 2, 3, 4, 6, 7] rfl rfl (by decide) (by decide) (kx_runV S hw fc_RD_71 rfl 5 rfl [5] (by decide) rfl (c_Op_begin l D cI cZ cO (ad 3) (ops 1) 0 b 0 H.size) rfl hl.1 rfl (Nat.le_of_ble_eq_true rfl) d_RD_read_26 (by decide) (by decide)) (fun u6 H locs hp6 hw => ?_)
        obtain ⟨o6, rfl⟩ : ∃ z, z = u6 := ⟨_, rfl⟩
        have hw : kx_w D (kx_T cI cZ cO) A_ s_ [((ad 6), .inr (2, [.ref (ad 7), .int fl.2])), ((ad 7), .inl (cI, 4, .inl fl.1)), ((ad 0), .inr (0, [.int mm.1, .ref (ad 1), .ref (ad 6), .ref (ad 8), .ref (ad 10), .ref (ad 11), .ref (ad 12), .ref (ad 13), .ref (ad 14), .ref (ad 19), .ref (ad 20), .int mm.2.1, .int mm.2.2.1, .int mm.2.2.2])), ((ad 1), .inl (cO, 4, .inr (.inr (.inr (.inr (kx_opsf ad)))))), ((ad 2), .inr (1, [.int ((ops 0).1), .int ((ops 0).2.1), .int ((ops 0).2.2.1), .int ((ops 0).2.2.2.1), .int ((ops 0).2.2.2.2.1), .int ((ops 0).2.2.2.2.2)])), ((ad 4), .inr (1, [.int ((ops 2).1), .int ((ops 2).2.1), .int ((ops 2).2.2.1), .int ((ops 2).2.2.2.1), .int ((ops 2).2.2.2.2.1), .int ((ops 2).2.2.2.2.2)])), ((ad 5), .inr (1, [.int ((ops 3).1), .int ((ops 3).2.1), .int ((ops 3).2.2.1), .int ((ops 3).2.2.2.1), .int ((ops 3).2.2.2.2.1), .int ((ops 3).2.2.2.2.2)])), ((ad 3), .inr (1, [.int o6.1, .int o6.2.1, .int o6.2.2.1, .int o6.2.2.2.1, .int o6.2.2.2.2.1, .int o6.2.2.2.2.2]))] H locs := hw
        refine lv_aload_n hx hb d_RD_read_29 rfl (lv_at hl 0 rfl) ?_
        refine kx_get S hw fg_RD_18 2 rfl rfl d_RD_read_30 ?_
        refine lv_iload_n hx hb d_RD_read_33 rfl (lv_at hl 1 rfl) ?_
        refine kx_call_v (wc := [((ad 6), .inr (2, [.ref (ad 7), .int fl.2])), ((ad 7), .inl (cI, 4, .inl fl.1))]) (wr := [((ad 0), .inr (0, [.int mm.1, .ref (ad 1), .ref (ad 6), .ref (ad 8), .ref (ad 10), .ref (ad 11), .ref (ad 12), .ref (ad 13), .ref (ad 14), .ref (ad 19), .ref (ad 20), .int mm.2.1, .int mm.2.2.1, .int mm.2.2.2])), ((ad 1), .inl (cO, 4, .inr (.inr (.inr (.inr (kx_opsf ad)))))), ((ad 2), .inr (1, [.int ((ops 0).1), .int ((ops 0).2.1), .int ((ops 0).2.2.1), .int ((ops 0).2.2.2.1), .int ((ops 0).2.2.2.2.1), .int ((ops 0).2.2.2.2.2)])), ((ad 4), .inr (1, [.int ((ops 2).1), .int ((ops 2).2.1), .int ((ops 2).2.2.1), .int ((ops 2).2.2.2.1), .int ((ops 2).2.2.2.2.1), .int ((ops 2).2.2.2.2.2)])), ((ad 5), .inr (1, [.int ((ops 3).1), .int ((ops 3).2.1), .int ((ops 3).2.2.1), .int ((ops 3).2.2.2.1), .int ((ops 3).2.2.2.2.1), .int ((ops 3).2.2.2.2.2)])), ((ad 3), .inr (1, [.int o6.1, .int o6.2.1, .int o6.2.2.1, .int o6.2.2.2.1, .int o6.2.2.2.2.1, .int o6.2.2.2.2.2]))]) (rest := []) hw [0, 1] [2, 3, 4, 5, 6, 7] rfl rfl (by decide) (by decide) (kx_runV S hw fc_RD_75 rfl 0 rfl [0, 1] (by decide) rfl (c_Ln_join l D cI cZ cO (ad 6) (ad 7) fl u (hj) H.size) rfl hl.1 rfl (Nat.le_of_ble_eq_true rfl) d_RD_read_34 (by decide) (by decide)) (fun u7 H locs hp7 hw => ?_)
        obtain ⟨n7, rfl⟩ : ∃ z, z = u7 := ⟨_, rfl⟩
        have hw : kx_w D (kx_T cI cZ cO) A_ s_ [((ad 0), .inr (0, [.int mm.1, .ref (ad 1), .ref (ad 6), .ref (ad 8), .ref (ad 10), .ref (ad 11), .ref (ad 12), .ref (ad 13), .ref (ad 14), .ref (ad 19), .ref (ad 20), .int mm.2.1, .int mm.2.2.1, .int mm.2.2.2])), ((ad 1), .inl (cO, 4, .inr (.inr (.inr (.inr (kx_opsf ad)))))), ((ad 2), .inr (1, [.int ((ops 0).1), .int ((ops 0).2.1), .int ((ops 0).2.2.1), .int ((ops 0).2.2.2.1), .int ((ops 0).2.2.2.2.1), .int ((ops 0).2.2.2.2.2)])), ((ad 4), .inr (1, [.int ((ops 2).1), .int ((ops 2).2.1), .int ((ops 2).2.2.1), .int ((ops 2).2.2.2.1), .int ((ops 2).2.2.2.2.1), .int ((ops 2).2.2.2.2.2)])), ((ad 5), .inr (1, [.int ((ops 3).1), .int ((ops 3).2.1), .int ((ops 3).2.2.1), .int ((ops 3).2.2.2.1), .int ((ops 3).2.2.2.2.1), .int ((ops 3).2.2.2.2.2)])), ((ad 3), .inr (1, [.int o6.1, .int o6.2.1, .int o6.2.2.1, .int o6.2.2.2.1, .int o6.2.2.2.2.1, .int o6.2.2.2.2.2])), ((ad 6), .inr (2, [.ref (ad 7), .int n7.2])), ((ad 7), .inl (cI, 4, .inl n7.1))] H locs := hw
        refine lv_iconst (v := 1) hx hb d_RD_read_37 (by decide) ?_
        exact kx_ret_z I rfl hw (Or.inr rfl) (va_up ops 1 o6, n7) ⟨(by simp only [f_RD_read, ← hp1, if_neg h2, ← hp3, if_neg h4, e5, ← hp6, ← hp7]), (Or.inr rfl)⟩ [0, 1, 2, 5, 3, 4, 6, 7] (by decide) rfl d_RD_read_38
      · refine kx_aald S hw 3 2 rfl rfl (b := (ad 4)) (by rw [e5]; rfl) (l_isFree (hp1 ▸ h2)) d_RD_read_22 ?_
        refine lv_iconst (v := 0) hx hb d_RD_read_23 (by decide) ?_
        refine lv_iload_n hx hb d_RD_read_24 rfl (lv_at hl 2 rfl) ?_
        refine lv_iconst (v := 0) hx hb d_RD_read_25 (by decide) ?_
        refine kx_call_v (wc := [((ad 4), .inr (1, [.int ((ops 2).1), .int ((ops 2).2.1), .int ((ops 2).2.2.1), .int ((ops 2).2.2.2.1), .int ((ops 2).2.2.2.2.1), .int ((ops 2).2.2.2.2.2)]))]) (wr := [((ad 6), .inr (2, [.ref (ad 7), .int fl.2])), ((ad 7), .inl (cI, 4, .inl fl.1)), ((ad 0), .inr (0, [.int mm.1, .ref (ad 1), .ref (ad 6), .ref (ad 8), .ref (ad 10), .ref (ad 11), .ref (ad 12), .ref (ad 13), .ref (ad 14), .ref (ad 19), .ref (ad 20), .int mm.2.1, .int mm.2.2.1, .int mm.2.2.2])), ((ad 1), .inl (cO, 4, .inr (.inr (.inr (.inr (kx_opsf ad)))))), ((ad 2), .inr (1, [.int ((ops 0).1), .int ((ops 0).2.1), .int ((ops 0).2.2.1), .int ((ops 0).2.2.2.1), .int ((ops 0).2.2.2.2.1), .int ((ops 0).2.2.2.2.2)])), ((ad 3), .inr (1, [.int ((ops 1).1), .int ((ops 1).2.1), .int ((ops 1).2.2.1), .int ((ops 1).2.2.2.1), .int ((ops 1).2.2.2.2.1), .int ((ops 1).2.2.2.2.2)])), ((ad 5), .inr (1, [.int ((ops 3).1), .int ((ops 3).2.1), .int ((ops 3).2.2.1), .int ((ops 3).2.2.2.1), .int ((ops 3).2.2.2.2.1), .int ((ops 3).2.2.2.2.2)]))]) (rest := []) hw [6] [0, 1, 2, 3, 4, 5, 7] rfl rfl (by decide) (by decide) (kx_runV S hw fc_RD_71 rfl 6 rfl [6] (by decide) rfl (c_Op_begin l D cI cZ cO (ad 4) (ops 2) 0 b 0 H.size) rfl hl.1 rfl (Nat.le_of_ble_eq_true rfl) d_RD_read_26 (by decide) (by decide)) (fun u6 H locs hp6 hw => ?_)
        obtain ⟨o6, rfl⟩ : ∃ z, z = u6 := ⟨_, rfl⟩
        have hw : kx_w D (kx_T cI cZ cO) A_ s_ [((ad 6), .inr (2, [.ref (ad 7), .int fl.2])), ((ad 7), .inl (cI, 4, .inl fl.1)), ((ad 0), .inr (0, [.int mm.1, .ref (ad 1), .ref (ad 6), .ref (ad 8), .ref (ad 10), .ref (ad 11), .ref (ad 12), .ref (ad 13), .ref (ad 14), .ref (ad 19), .ref (ad 20), .int mm.2.1, .int mm.2.2.1, .int mm.2.2.2])), ((ad 1), .inl (cO, 4, .inr (.inr (.inr (.inr (kx_opsf ad)))))), ((ad 2), .inr (1, [.int ((ops 0).1), .int ((ops 0).2.1), .int ((ops 0).2.2.1), .int ((ops 0).2.2.2.1), .int ((ops 0).2.2.2.2.1), .int ((ops 0).2.2.2.2.2)])), ((ad 3), .inr (1, [.int ((ops 1).1), .int ((ops 1).2.1), .int ((ops 1).2.2.1), .int ((ops 1).2.2.2.1), .int ((ops 1).2.2.2.2.1), .int ((ops 1).2.2.2.2.2)])), ((ad 5), .inr (1, [.int ((ops 3).1), .int ((ops 3).2.1), .int ((ops 3).2.2.1), .int ((ops 3).2.2.2.1), .int ((ops 3).2.2.2.2.1), .int ((ops 3).2.2.2.2.2)])), ((ad 4), .inr (1, [.int o6.1, .int o6.2.1, .int o6.2.2.1, .int o6.2.2.2.1, .int o6.2.2.2.2.1, .int o6.2.2.2.2.2]))] H locs := hw
        refine lv_aload_n hx hb d_RD_read_29 rfl (lv_at hl 0 rfl) ?_
        refine kx_get S hw fg_RD_18 2 rfl rfl d_RD_read_30 ?_
        refine lv_iload_n hx hb d_RD_read_33 rfl (lv_at hl 1 rfl) ?_
        refine kx_call_v (wc := [((ad 6), .inr (2, [.ref (ad 7), .int fl.2])), ((ad 7), .inl (cI, 4, .inl fl.1))]) (wr := [((ad 0), .inr (0, [.int mm.1, .ref (ad 1), .ref (ad 6), .ref (ad 8), .ref (ad 10), .ref (ad 11), .ref (ad 12), .ref (ad 13), .ref (ad 14), .ref (ad 19), .ref (ad 20), .int mm.2.1, .int mm.2.2.1, .int mm.2.2.2])), ((ad 1), .inl (cO, 4, .inr (.inr (.inr (.inr (kx_opsf ad)))))), ((ad 2), .inr (1, [.int ((ops 0).1), .int ((ops 0).2.1), .int ((ops 0).2.2.1), .int ((ops 0).2.2.2.1), .int ((ops 0).2.2.2.2.1), .int ((ops 0).2.2.2.2.2)])), ((ad 3), .inr (1, [.int ((ops 1).1), .int ((ops 1).2.1), .int ((ops 1).2.2.1), .int ((ops 1).2.2.2.1), .int ((ops 1).2.2.2.2.1), .int ((ops 1).2.2.2.2.2)])), ((ad 5), .inr (1, [.int ((ops 3).1), .int ((ops 3).2.1), .int ((ops 3).2.2.1), .int ((ops 3).2.2.2.1), .int ((ops 3).2.2.2.2.1), .int ((ops 3).2.2.2.2.2)])), ((ad 4), .inr (1, [.int o6.1, .int o6.2.1, .int o6.2.2.1, .int o6.2.2.2.1, .int o6.2.2.2.2.1, .int o6.2.2.2.2.2]))]) (rest := []) hw [0, 1] [2, 3, 4, 5, 6, 7] rfl rfl (by decide) (by decide) (kx_runV S hw fc_RD_75 rfl 0 rfl [0, 1] (by decide) rfl (c_Ln_join l D cI cZ cO (ad 6) (ad 7) fl u (hj) H.size) rfl hl.1 rfl (Nat.le_of_ble_eq_true rfl) d_RD_read_34 (by decide) (by decide)) (fun u7 H locs hp7 hw => ?_)
        obtain ⟨n7, rfl⟩ : ∃ z, z = u7 := ⟨_, rfl⟩
        have hw : kx_w D (kx_T cI cZ cO) A_ s_ [((ad 0), .inr (0, [.int mm.1, .ref (ad 1), .ref (ad 6), .ref (ad 8), .ref (ad 10), .ref (ad 11), .ref (ad 12), .ref (ad 13), .ref (ad 14), .ref (ad 19), .ref (ad 20), .int mm.2.1, .int mm.2.2.1, .int mm.2.2.2])), ((ad 1), .inl (cO, 4, .inr (.inr (.inr (.inr (kx_opsf ad)))))), ((ad 2), .inr (1, [.int ((ops 0).1), .int ((ops 0).2.1), .int ((ops 0).2.2.1), .int ((ops 0).2.2.2.1), .int ((ops 0).2.2.2.2.1), .int ((ops 0).2.2.2.2.2)])), ((ad 3), .inr (1, [.int ((ops 1).1), .int ((ops 1).2.1), .int ((ops 1).2.2.1), .int ((ops 1).2.2.2.1), .int ((ops 1).2.2.2.2.1), .int ((ops 1).2.2.2.2.2)])), ((ad 5), .inr (1, [.int ((ops 3).1), .int ((ops 3).2.1), .int ((ops 3).2.2.1), .int ((ops 3).2.2.2.1), .int ((ops 3).2.2.2.2.1), .int ((ops 3).2.2.2.2.2)])), ((ad 4), .inr (1, [.int o6.1, .int o6.2.1, .int o6.2.2.1, .int o6.2.2.2.1, .int o6.2.2.2.2.1, .int o6.2.2.2.2.2])), ((ad 6), .inr (2, [.ref (ad 7), .int n7.2])), ((ad 7), .inl (cI, 4, .inl n7.1))] H locs := hw
        refine lv_iconst (v := 1) hx hb d_RD_read_37 (by decide) ?_
        exact kx_ret_z I rfl hw (Or.inr rfl) (va_up ops 2 o6, n7) ⟨(by simp only [f_RD_read, ← hp1, if_neg h2, ← hp3, if_neg h4, e5, ← hp6, ← hp7]), (Or.inr rfl)⟩ [0, 1, 2, 3, 5, 4, 6, 7] (by decide) rfl d_RD_read_38
      · refine kx_aald S hw 3 2 rfl rfl (b := (ad 5)) (by rw [e5]; rfl) (l_isFree (hp1 ▸ h2)) d_RD_read_22 ?_
        refine lv_iconst (v := 0) hx hb d_RD_read_23 (by decide) ?_
        refine lv_iload_n hx hb d_RD_read_24 rfl (lv_at hl 2 rfl) ?_
        refine lv_iconst (v := 0) hx hb d_RD_read_25 (by decide) ?_
        refine kx_call_v (wc := [((ad 5), .inr (1, [.int ((ops 3).1), .int ((ops 3).2.1), .int ((ops 3).2.2.1), .int ((ops 3).2.2.2.1), .int ((ops 3).2.2.2.2.1), .int ((ops 3).2.2.2.2.2)]))]) (wr := [((ad 6), .inr (2, [.ref (ad 7), .int fl.2])), ((ad 7), .inl (cI, 4, .inl fl.1)), ((ad 0), .inr (0, [.int mm.1, .ref (ad 1), .ref (ad 6), .ref (ad 8), .ref (ad 10), .ref (ad 11), .ref (ad 12), .ref (ad 13), .ref (ad 14), .ref (ad 19), .ref (ad 20), .int mm.2.1, .int mm.2.2.1, .int mm.2.2.2])), ((ad 1), .inl (cO, 4, .inr (.inr (.inr (.inr (kx_opsf ad)))))), ((ad 2), .inr (1, [.int ((ops 0).1), .int ((ops 0).2.1), .int ((ops 0).2.2.1), .int ((ops 0).2.2.2.1), .int ((ops 0).2.2.2.2.1), .int ((ops 0).2.2.2.2.2)])), ((ad 3), .inr (1, [.int ((ops 1).1), .int ((ops 1).2.1), .int ((ops 1).2.2.1), .int ((ops 1).2.2.2.1), .int ((ops 1).2.2.2.2.1), .int ((ops 1).2.2.2.2.2)])), ((ad 4), .inr (1, [.int ((ops 2).1), .int ((ops 2).2.1), .int ((ops 2).2.2.1), .int ((ops 2).2.2.2.1), .int ((ops 2).2.2.2.2.1), .int ((ops 2).2.2.2.2.2)]))]) (rest := []) hw [7] [0, 1, 2, 3, 4, 5, 6] rfl rfl (by decide) (by decide) (kx_runV S hw fc_RD_71 rfl 7 rfl [7] (by decide) rfl (c_Op_begin l D cI cZ cO (ad 5) (ops 3) 0 b 0 H.size) rfl hl.1 rfl (Nat.le_of_ble_eq_true rfl) d_RD_read_26 (by decide) (by decide)) (fun u6 H locs hp6 hw => ?_)
        obtain ⟨o6, rfl⟩ : ∃ z, z = u6 := ⟨_, rfl⟩
        have hw : kx_w D (kx_T cI cZ cO) A_ s_ [((ad 6), .inr (2, [.ref (ad 7), .int fl.2])), ((ad 7), .inl (cI, 4, .inl fl.1)), ((ad 0), .inr (0, [.int mm.1, .ref (ad 1), .ref (ad 6), .ref (ad 8), .ref (ad 10), .ref (ad 11), .ref (ad 12), .ref (ad 13), .ref (ad 14), .ref (ad 19), .ref (ad 20), .int mm.2.1, .int mm.2.2.1, .int mm.2.2.2])), ((ad 1), .inl (cO, 4, .inr (.inr (.inr (.inr (kx_opsf ad)))))), ((ad 2), .inr (1, [.int ((ops 0).1), .int ((ops 0).2.1), .int ((ops 0).2.2.1), .int ((ops 0).2.2.2.1), .int ((ops 0).2.2.2.2.1), .int ((ops 0).2.2.2.2.2)])), ((ad 3), .inr (1, [.int ((ops 1).1), .int ((ops 1).2.1), .int ((ops 1).2.2.1), .int ((ops 1).2.2.2.1), .int ((ops 1).2.2.2.2.1), .int ((ops 1).2.2.2.2.2)])), ((ad 4), .inr (1, [.int ((ops 2).1), .int ((ops 2).2.1), .int ((ops 2).2.2.1), .int ((ops 2).2.2.2.1), .int ((ops 2).2.2.2.2.1), .int ((ops 2).2.2.2.2.2)])), ((ad 5), .inr (1, [.int o6.1, .int o6.2.1, .int o6.2.2.1, .int o6.2.2.2.1, .int o6.2.2.2.2.1, .int o6.2.2.2.2.2]))] H locs := hw
        refine lv_aload_n hx hb d_RD_read_29 rfl (lv_at hl 0 rfl) ?_
        refine kx_get S hw fg_RD_18 2 rfl rfl d_RD_read_30 ?_
        refine lv_iload_n hx hb d_RD_read_33 rfl (lv_at hl 1 rfl) ?_
        refine kx_call_v (wc := [((ad 6), .inr (2, [.ref (ad 7), .int fl.2])), ((ad 7), .inl (cI, 4, .inl fl.1))]) (wr := [((ad 0), .inr (0, [.int mm.1, .ref (ad 1), .ref (ad 6), .ref (ad 8), .ref (ad 10), .ref (ad 11), .ref (ad 12), .ref (ad 13), .ref (ad 14), .ref (ad 19), .ref (ad 20), .int mm.2.1, .int mm.2.2.1, .int mm.2.2.2])), ((ad 1), .inl (cO, 4, .inr (.inr (.inr (.inr (kx_opsf ad)))))), ((ad 2), .inr (1, [.int ((ops 0).1), .int ((ops 0).2.1), .int ((ops 0).2.2.1), .int ((ops 0).2.2.2.1), .int ((ops 0).2.2.2.2.1), .int ((ops 0).2.2.2.2.2)])), ((ad 3), .inr (1, [.int ((ops 1).1), .int ((ops 1).2.1), .int ((ops 1).2.2.1), .int ((ops 1).2.2.2.1), .int ((ops 1).2.2.2.2.1), .int ((ops 1).2.2.2.2.2)])), ((ad 4), .inr (1, [.int ((ops 2).1), .int ((ops 2).2.1), .int ((ops 2).2.2.1), .int ((ops 2).2.2.2.1), .int ((ops 2).2.2.2.2.1), .int ((ops 2).2.2.2.2.2)])), ((ad 5), .inr (1, [.int o6.1, .int o6.2.1, .int o6.2.2.1, .int o6.2.2.2.1, .int o6.2.2.2.2.1, .int o6.2.2.2.2.2]))]) (rest := []) hw [0, 1] [2, 3, 4, 5, 6, 7] rfl rfl (by decide) (by decide) (kx_runV S hw fc_RD_75 rfl 0 rfl [0, 1] (by decide) rfl (c_Ln_join l D cI cZ cO (ad 6) (ad 7) fl u (hj) H.size) rfl hl.1 rfl (Nat.le_of_ble_eq_true rfl) d_RD_read_34 (by decide) (by decide)) (fun u7 H locs hp7 hw => ?_)
        obtain ⟨n7, rfl⟩ : ∃ z, z = u7 := ⟨_, rfl⟩
        have hw : kx_w D (kx_T cI cZ cO) A_ s_ [((ad 0), .inr (0, [.int mm.1, .ref (ad 1), .ref (ad 6), .ref (ad 8), .ref (ad 10), .ref (ad 11), .ref (ad 12), .ref (ad 13), .ref (ad 14), .ref (ad 19), .ref (ad 20), .int mm.2.1, .int mm.2.2.1, .int mm.2.2.2])), ((ad 1), .inl (cO, 4, .inr (.inr (.inr (.inr (kx_opsf ad)))))), ((ad 2), .inr (1, [.int ((ops 0).1), .int ((ops 0).2.1), .int ((ops 0).2.2.1), .int ((ops 0).2.2.2.1), .int ((ops 0).2.2.2.2.1), .int ((ops 0).2.2.2.2.2)])), ((ad 3), .inr (1, [.int ((ops 1).1), .int ((ops 1).2.1), .int ((ops 1).2.2.1), .int ((ops 1).2.2.2.1), .int ((ops 1).2.2.2.2.1), .int ((ops 1).2.2.2.2.2)])), ((ad 4), .inr (1, [.int ((ops 2).1), .int ((ops 2).2.1), .int ((ops 2).2.2.1), .int ((ops 2).2.2.2.1), .int ((ops 2).2.2.2.2.1), .int ((ops 2).2.2.2.2.2)])), ((ad 5), .inr (1, [.int o6.1, .int o6.2.1, .int o6.2.2.1, .int o6.2.2.2.1, .int o6.2.2.2.2.1, .int o6.2.2.2.2.2])), ((ad 6), .inr (2, [.ref (ad 7), .int n7.2])), ((ad 7), .inl (cI, 4, .inl n7.1))] H locs := hw
        refine lv_iconst (v := 1) hx hb d_RD_read_37 (by decide) ?_
        exact kx_ret_z I rfl hw (Or.inr rfl) (va_up ops 3 o6, n7) ⟨(by simp only [f_RD_read, ← hp1, if_neg h2, ← hp3, if_neg h4, e5, ← hp6, ← hp7]), (Or.inr rfl)⟩ [0, 1, 2, 3, 4, 5, 6, 7] (by decide) rfl d_RD_read_38
    · refine lv_iconst (v := 0) hx hb d_RD_read_15 (by decide) ?_
      exact kx_ret_z I rfl hw (Or.inl rfl) (ops, fl) ⟨(by simp only [f_RD_read, ← hp1, if_neg h2, ← hp3, if_pos h4]), (Or.inl rfl)⟩ [2, 3, 4, 5, 6, 7, 0, 1] (by decide) rfl d_RD_read_16
def f_RD_write (mm : kt_M) (ops : (Nat → kt_Op)) (fl : kt_Ln) (u : Int32) (b : Int32) (v : Int32) : Int32 × (Nat → kt_Op) × kt_Ln :=
  match f_RD_isFree mm ops u with
  | r1 => if r1 = 0 then (0, ops, fl)
    else match f_RD_isBlock b with
    | r3 => if r3 = 0 then (0, ops, fl)
      else match f_Op_begin (ops u.toNatClampNeg) 1 b v with
      | o6 => match f_Ln_join fl u with
        | n7 => (1, va_up ops u.toNatClampNeg o6, n7)
set_option maxHeartbeats 4000000 in
set_option maxRecDepth 100000 in
theorem c_RD_write (l : Launch) (D : va_G) (cI cZ cO : ClassId) (ad : Nat → Nat) (mm : kt_M) (ops : (Nat → kt_Op)) (fl : kt_Ln) (u : Int32) (b : Int32) (v : Int32) (hj : 0 ≤ fl.2) : kx_Ci (S := (Nat → kt_Op) × kt_Ln) l y_RD_write b_RD_write 4 (some .boolean) 2 0 0 D (kx_T cI cZ cO) [.ref (ad 0), .int u, .int b, .int v] [((ad 0), .inr (0, [.int mm.1, .ref (ad 1), .ref (ad 6), .ref (ad 8), .ref (ad 10), .ref (ad 11), .ref (ad 12), .ref (ad 13), .ref (ad 14), .ref (ad 19), .ref (ad 20), .int mm.2.1, .int mm.2.2.1, .int mm.2.2.2])), ((ad 1), .inl (cO, 4, .inr (.inr (.inr (.inr (kx_opsf ad)))))), ((ad 2), .inr (1, [.int ((ops 0).1), .int ((ops 0).2.1), .int ((ops 0).2.2.1), .int ((ops 0).2.2.2.1), .int ((ops 0).2.2.2.2.1), .int ((ops 0).2.2.2.2.2)])), ((ad 3), .inr (1, [.int ((ops 1).1), .int ((ops 1).2.1), .int ((ops 1).2.2.1), .int ((ops 1).2.2.2.1), .int ((ops 1).2.2.2.2.1), .int ((ops 1).2.2.2.2.2)])), ((ad 4), .inr (1, [.int ((ops 2).1), .int ((ops 2).2.1), .int ((ops 2).2.2.1), .int ((ops 2).2.2.2.1), .int ((ops 2).2.2.2.2.1), .int ((ops 2).2.2.2.2.2)])), ((ad 5), .inr (1, [.int ((ops 3).1), .int ((ops 3).2.1), .int ((ops 3).2.2.1), .int ((ops 3).2.2.2.1), .int ((ops 3).2.2.2.2.1), .int ((ops 3).2.2.2.2.2)])), ((ad 6), .inr (2, [.ref (ad 7), .int fl.2])), ((ad 7), .inl (cI, 4, .inl fl.1))] (fun rr zz => (rr, zz) = f_RD_write mm ops fl u b v ∧ kx_b rr) (fun zz => [((ad 0), .inr (0, [.int mm.1, .ref (ad 1), .ref (ad 6), .ref (ad 8), .ref (ad 10), .ref (ad 11), .ref (ad 12), .ref (ad 13), .ref (ad 14), .ref (ad 19), .ref (ad 20), .int mm.2.1, .int mm.2.2.1, .int mm.2.2.2])), ((ad 1), .inl (cO, 4, .inr (.inr (.inr (.inr (kx_opsf ad)))))), ((ad 2), .inr (1, [.int ((zz.1 0).1), .int ((zz.1 0).2.1), .int ((zz.1 0).2.2.1), .int ((zz.1 0).2.2.2.1), .int ((zz.1 0).2.2.2.2.1), .int ((zz.1 0).2.2.2.2.2)])), ((ad 3), .inr (1, [.int ((zz.1 1).1), .int ((zz.1 1).2.1), .int ((zz.1 1).2.2.1), .int ((zz.1 1).2.2.2.1), .int ((zz.1 1).2.2.2.2.1), .int ((zz.1 1).2.2.2.2.2)])), ((ad 4), .inr (1, [.int ((zz.1 2).1), .int ((zz.1 2).2.1), .int ((zz.1 2).2.2.1), .int ((zz.1 2).2.2.2.1), .int ((zz.1 2).2.2.2.2.1), .int ((zz.1 2).2.2.2.2.2)])), ((ad 5), .inr (1, [.int ((zz.1 3).1), .int ((zz.1 3).2.1), .int ((zz.1 3).2.2.1), .int ((zz.1 3).2.2.2.1), .int ((zz.1 3).2.2.2.2.1), .int ((zz.1 3).2.2.2.2.2)])), ((ad 6), .inr (2, [.ref (ad 7), .int zz.2.2])), ((ad 7), .inl (cI, 4, .inl zz.2.1))]) := by
  refine kx_enter_i (by decide) (Nat.le_of_ble_eq_true rfl) ?_
  intro p_ e_ s_ m_ below_ meth_ c_ ls A_ H I hl hw
  have S := I.1
  have hx := S.1
  have hb := S.2.1
  have hl : lv_has ls 4 [(0, .ref (ad 0)), (1, .int u), (2, .int b), (3, .int v)] := hl
  refine lv_aload_n hx hb d_RD_write_0 rfl (lv_at hl 0 rfl) ?_
  refine lv_iload_n hx hb d_RD_write_1 rfl (lv_at hl 1 rfl) ?_
  refine kx_call_i (wc := [((ad 0), .inr (0, [.int mm.1, .ref (ad 1), .ref (ad 6), .ref (ad 8), .ref (ad 10), .ref (ad 11), .ref (ad 12), .ref (ad 13), .ref (ad 14), .ref (ad 19), .ref (ad 20), .int mm.2.1, .int mm.2.2.1, .int mm.2.2.2])), ((ad 1), .inl (cO, 4, .inr (.inr (.inr (.inr (kx_opsf ad)))))), ((ad 2), .inr (1, [.int ((ops 0).1), .int ((ops 0).2.1), .int ((ops 0).2.2.1), .int ((ops 0).2.2.2.1), .int ((ops 0).2.2.2.2.1), .int ((ops 0).2.2.2.2.2)])), ((ad 3), .inr (1, [.int ((ops 1).1), .int ((ops 1).2.1), .int ((ops 1).2.2.1), .int ((ops 1).2.2.2.1), .int ((ops 1).2.2.2.2.1), .int ((ops 1).2.2.2.2.2)])), ((ad 4), .inr (1, [.int ((ops 2).1), .int ((ops 2).2.1), .int ((ops 2).2.2.1), .int ((ops 2).2.2.2.1), .int ((ops 2).2.2.2.2.1), .int ((ops 2).2.2.2.2.2)])), ((ad 5), .inr (1, [.int ((ops 3).1), .int ((ops 3).2.1), .int ((ops 3).2.2.1), .int ((ops 3).2.2.2.1), .int ((ops 3).2.2.2.2.1), .int ((ops 3).2.2.2.2.2)]))]) (wr := [((ad 6), .inr (2, [.ref (ad 7), .int fl.2])), ((ad 7), .inl (cI, 4, .inl fl.1))]) (rest := []) hw [0, 1, 2, 3, 4, 5] [6, 7] rfl rfl (by decide) (by decide) (kx_runV S hw fc_RD_64 rfl 0 rfl [0, 1, 2, 3, 4, 5] (by decide) rfl (c_RD_isFree l D cI cZ cO ad mm ops u H.size) rfl hl.1 rfl (Nat.le_of_ble_eq_true rfl) d_RD_write_2 (by decide) (by decide)) (fun r1 u1 H locs hp1 hw => ?_)
  obtain ⟨hp1, hb1⟩ := hp1
  have hw : kx_w D (kx_T cI cZ cO) A_ s_ [((ad 6), .inr (2, [.ref (ad 7), .int fl.2])), ((ad 7), .inl (cI, 4, .inl fl.1)), ((ad 0), .inr (0, [.int mm.1, .ref (ad 1), .ref (ad 6), .ref (ad 8), .ref (ad 10), .ref (ad 11), .ref (ad 12), .ref (ad 13), .ref (ad 14), .ref (ad 19), .ref (ad 20), .int mm.2.1, .int mm.2.2.1, .int mm.2.2.2])), ((ad 1), .inl (cO, 4, .inr (.inr (.inr (.inr (kx_opsf ad)))))), ((ad 2), .inr (1, [.int ((ops 0).1), .int ((ops 0).2.1), .int ((ops 0).2.2.1), .int ((ops 0).2.2.2.1), .int ((ops 0).2.2.2.2.1), .int ((ops 0).2.2.2.2.2)])), ((ad 3), .inr (1, [.int ((ops 1).1), .int ((ops 1).2.1), .int ((ops 1).2.2.1), .int ((ops 1).2.2.2.1), .int ((ops 1).2.2.2.2.1), .int ((ops 1).2.2.2.2.2)])), ((ad 4), .inr (1, [.int ((ops 2).1), .int ((ops 2).2.1), .int ((ops 2).2.2.1), .int ((ops 2).2.2.2.1), .int ((ops 2).2.2.2.2.1), .int ((ops 2).2.2.2.2.2)])), ((ad 5), .inr (1, [.int ((ops 3).1), .int ((ops 3).2.1), .int ((ops 3).2.2.1), .int ((ops 3).2.2.2.1), .int ((ops 3).2.2.2.2.1), .int ((ops 3).2.2.2.2.2)]))] H locs := hw
  refine lv_if_eq (tgt := 15) hx hb d_RD_write_5 (by decide) (fun h2 => ?_) (fun h2 => ?_)
  · refine lv_iconst (v := 0) hx hb d_RD_write_15 (by decide) ?_
    exact kx_ret_z I rfl hw (Or.inl rfl) (ops, fl) ⟨(by simp only [f_RD_write, ← hp1, if_pos h2]), (Or.inl rfl)⟩ [2, 3, 4, 5, 6, 7, 0, 1] (by decide) rfl d_RD_write_16
  · refine lv_iload_n hx hb d_RD_write_8 rfl (lv_at hl 2 rfl) ?_
    refine kx_call_i (wc := []) (wr := [((ad 6), .inr (2, [.ref (ad 7), .int fl.2])), ((ad 7), .inl (cI, 4, .inl fl.1)), ((ad 0), .inr (0, [.int mm.1, .ref (ad 1), .ref (ad 6), .ref (ad 8), .ref (ad 10), .ref (ad 11), .ref (ad 12), .ref (ad 13), .ref (ad 14), .ref (ad 19), .ref (ad 20), .int mm.2.1, .int mm.2.2.1, .int mm.2.2.2])), ((ad 1), .inl (cO, 4, .inr (.inr (.inr (.inr (kx_opsf ad)))))), ((ad 2), .inr (1, [.int ((ops 0).1), .int ((ops 0).2.1), .int ((ops 0).2.2.1), .int ((ops 0).2.2.2.1), .int ((ops 0).2.2.2.2.1), .int ((ops 0).2.2.2.2.2)])), ((ad 3), .inr (1, [.int ((ops 1).1), .int ((ops 1).2.1), .int ((ops 1).2.2.1), .int ((ops 1).2.2.2.1), .int ((ops 1).2.2.2.2.1), .int ((ops 1).2.2.2.2.2)])), ((ad 4), .inr (1, [.int ((ops 2).1), .int ((ops 2).2.1), .int ((ops 2).2.2.1), .int ((ops 2).2.2.2.1), .int ((ops 2).2.2.2.2.1), .int ((ops 2).2.2.2.2.2)])), ((ad 5), .inr (1, [.int ((ops 3).1), .int ((ops 3).2.1), .int ((ops 3).2.2.1), .int ((ops 3).2.2.2.1), .int ((ops 3).2.2.2.2.1), .int ((ops 3).2.2.2.2.2)]))]) (rest := []) hw [] [0, 1, 2, 3, 4, 5, 6, 7] rfl rfl (by decide) (by decide) (kx_runS S hw fc_RD_68 [] (by decide) rfl (c_RD_isBlock l D cI cZ cO b H.size) rfl hl.1 rfl (Nat.le_of_ble_eq_true rfl) d_RD_write_9 (by decide) (by decide)) (fun r3 u3 H locs hp3 hw => ?_)
    obtain ⟨hp3, hb3⟩ := hp3
    have hw : kx_w D (kx_T cI cZ cO) A_ s_ [((ad 6), .inr (2, [.ref (ad 7), .int fl.2])), ((ad 7), .inl (cI, 4, .inl fl.1)), ((ad 0), .inr (0, [.int mm.1, .ref (ad 1), .ref (ad 6), .ref (ad 8), .ref (ad 10), .ref (ad 11), .ref (ad 12), .ref (ad 13), .ref (ad 14), .ref (ad 19), .ref (ad 20), .int mm.2.1, .int mm.2.2.1, .int mm.2.2.2])), ((ad 1), .inl (cO, 4, .inr (.inr (.inr (.inr (kx_opsf ad)))))), ((ad 2), .inr (1, [.int ((ops 0).1), .int ((ops 0).2.1), .int ((ops 0).2.2.1), .int ((ops 0).2.2.2.1), .int ((ops 0).2.2.2.2.1), .int ((ops 0).2.2.2.2.2)])), ((ad 3), .inr (1, [.int ((ops 1).1), .int ((ops 1).2.1), .int ((ops 1).2.2.1), .int ((ops 1).2.2.2.1), .int ((ops 1).2.2.2.2.1), .int ((ops 1).2.2.2.2.2)])), ((ad 4), .inr (1, [.int ((ops 2).1), .int ((ops 2).2.1), .int ((ops 2).2.2.1), .int ((ops 2).2.2.2.1), .int ((ops 2).2.2.2.2.1), .int ((ops 2).2.2.2.2.2)])), ((ad 5), .inr (1, [.int ((ops 3).1), .int ((ops 3).2.1), .int ((ops 3).2.2.1), .int ((ops 3).2.2.2.1), .int ((ops 3).2.2.2.2.1), .int ((ops 3).2.2.2.2.2)]))] H locs := hw
    refine lv_if_ne (tgt := 17) hx hb d_RD_write_12 (by decide) (fun h4 => ?_) (fun h4 => ?_)
    · refine lv_aload_n hx hb d_RD_write_17 rfl (lv_at hl 0 rfl) ?_
      refine kx_get S hw fg_RD_11 2 rfl rfl d_RD_write_18 ?_
      refine lv_iload_n hx hb d_RD_write_21 rfl (lv_at hl 1 rfl) ?_
      rcases kx_c4 (i := u) (l_isFree (hp1 ▸ h2)) with e5 | e5 | e5 | e5
      · refine kx_aald S hw 3 2 rfl rfl (b := (ad 2)) (by rw [e5]; rfl) (l_isFree (hp1 ▸ h2)) d_RD_write_22 ?_
        refine lv_iconst (v := 1) hx hb d_RD_write_23 (by decide) ?_
        refine lv_iload_n hx hb d_RD_write_24 rfl (lv_at hl 2 rfl) ?_
        refine lv_iload_n hx hb d_RD_write_25 rfl (lv_at hl 3 rfl) ?_
        refine kx_call_v (wc := [((ad 2), .inr (1, [.int ((ops 0).1), .int ((ops 0).2.1), .int ((ops 0).2.2.1), .int ((ops 0).2.2.2.1), .int ((ops 0).2.2.2.2.1), .int ((ops 0).2.2.2.2.2)]))]) (wr := [((ad 6), .inr (2, [.ref (ad 7), .int fl.2])), ((ad 7), .inl (cI, 4, .inl fl.1)), ((ad 0), .inr (0, [.int mm.1, .ref (ad 1), .ref (ad 6), .ref (ad 8), .ref (ad 10), .ref (ad 11), .ref (ad 12), .ref (ad 13), .ref (ad 14), .ref (ad 19), .ref (ad 20), .int mm.2.1, .int mm.2.2.1, .int mm.2.2.2])), ((ad 1), .inl (cO, 4, .inr (.inr (.inr (.inr (kx_opsf ad)))))), ((ad 3), .inr (1, [.int ((ops 1).1), .int ((ops 1).2.1), .int ((ops 1).2.2.1), .int ((ops 1).2.2.2.1), .int ((ops 1).2.2.2.2.1), .int ((ops 1).2.2.2.2.2)])), ((ad 4), .inr (1, [.int ((ops 2).1), .int ((ops 2).2.1), .int ((ops 2).2.2.1), .int ((ops 2).2.2.2.1), .int ((ops 2).2.2.2.2.1), .int ((ops 2).2.2.2.2.2)])), ((ad 5), .inr (1, [.int ((ops 3).1), .int ((ops 3).2.1), .int ((ops 3).2.2.1), .int ((ops 3).2.2.2.1), .int ((ops 3).2.2.2.2.1), .int ((ops 3).2.2.2.2.2)]))]) (rest := []) hw [4] [0, 1, 2, 3, 5, 6, 7] rfl rfl (by decide) (by decide) (kx_runV S hw fc_RD_71 rfl 4 rfl [4] (by decide) rfl (c_Op_begin l D cI cZ cO (ad 2) (ops 0) 1 b v H.size) rfl hl.1 rfl (Nat.le_of_ble_eq_true rfl) d_RD_write_26 (by decide) (by decide)) (fun u6 H locs hp6 hw => ?_)
        obtain ⟨o6, rfl⟩ : ∃ z, z = u6 := ⟨_, rfl⟩
        have hw : kx_w D (kx_T cI cZ cO) A_ s_ [((ad 6), .inr (2, [.ref (ad 7), .int fl.2])), ((ad 7), .inl (cI, 4, .inl fl.1)), ((ad 0), .inr (0, [.int mm.1, .ref (ad 1), .ref (ad 6), .ref (ad 8), .ref (ad 10), .ref (ad 11), .ref (ad 12), .ref (ad 13), .ref (ad 14), .ref (ad 19), .ref (ad 20), .int mm.2.1, .int mm.2.2.1, .int mm.2.2.2])), ((ad 1), .inl (cO, 4, .inr (.inr (.inr (.inr (kx_opsf ad)))))), ((ad 3), .inr (1, [.int ((ops 1).1), .int ((ops 1).2.1), .int ((ops 1).2.2.1), .int ((ops 1).2.2.2.1), .int ((ops 1).2.2.2.2.1), .int ((ops 1).2.2.2.2.2)])), ((ad 4), .inr (1, [.int ((ops 2).1), .int ((ops 2).2.1), .int ((ops 2).2.2.1), .int ((ops 2).2.2.2.1), .int ((ops 2).2.2.2.2.1), .int ((ops 2).2.2.2.2.2)])), ((ad 5), .inr (1, [.int ((ops 3).1), .int ((ops 3).2.1), .int ((ops 3).2.2.1), .int ((ops 3).2.2.2.1), .int ((ops 3).2.2.2.2.1), .int ((ops 3).2.2.2.2.2)])), ((ad 2), .inr (1, [.int o6.1, .int o6.2.1, .int o6.2.2.1, .int o6.2.2.2.1, .int o6.2.2.2.2.1, .int o6.2.2.2.2.2]))] H locs := hw
        refine lv_aload_n hx hb d_RD_write_29 rfl (lv_at hl 0 rfl) ?_
        refine kx_get S hw fg_RD_18 2 rfl rfl d_RD_write_30 ?_
        refine lv_iload_n hx hb d_RD_write_33 rfl (lv_at hl 1 rfl) ?_
        refine kx_call_v (wc := [((ad 6), .inr (2, [.ref (ad 7), .int fl.2])), ((ad 7), .inl (cI, 4, .inl fl.1))]) (wr := [((ad 0), .inr (0, [.int mm.1, .ref (ad 1), .ref (ad 6), .ref (ad 8), .ref (ad 10), .ref (ad 11), .ref (ad 12), .ref (ad 13), .ref (ad 14), .ref (ad 19), .ref (ad 20), .int mm.2.1, .int mm.2.2.1, .int mm.2.2.2])), ((ad 1), .inl (cO, 4, .inr (.inr (.inr (.inr (kx_opsf ad)))))), ((ad 3), .inr (1, [.int ((ops 1).1), .int ((ops 1).2.1), .int ((ops 1).2.2.1), .int ((ops 1).2.2.2.1), .int ((ops 1).2.2.2.2.1), .int ((ops 1).2.2.2.2.2)])), ((ad 4), .inr (1, [.int ((ops 2).1), .int ((ops 2).2.1), .int ((ops 2).2.2.1), .int ((ops 2).2.2.2.1), .int ((ops 2).2.2.2.2.1), .int ((ops 2).2.2.2.2.2)])), ((ad 5), .inr (1, [.int ((ops 3).1), .int ((ops 3).2.1), .int ((ops 3).2.2.1), .int ((ops 3).2.2.2.1), .int ((ops 3).2.2.2.2.1), .int ((ops 3).2.2.2.2.2)])), ((ad 2), .inr (1, [.int o6.1, .int o6.2.1, .int o6.2.2.1, .int o6.2.2.2.1, .int o6.2.2.2.2.1, .int o6.2.2.2.2.2]))]) (rest := []) hw [0, 1] [2, 3, 4, 5, 6, 7] rfl rfl (by decide) (by decide) (kx_runV S hw fc_RD_75 rfl 0 rfl [0, 1] (by decide) rfl (c_Ln_join l D cI cZ cO (ad 6) (ad 7) fl u (hj) H.size) rfl hl.1 rfl (Nat.le_of_ble_eq_true rfl) d_RD_write_34 (by decide) (by decide)) (fun u7 H locs hp7 hw => ?_)
        obtain ⟨n7, rfl⟩ : ∃ z, z = u7 := ⟨_, rfl⟩
        have hw : kx_w D (kx_T cI cZ cO) A_ s_ [((ad 0), .inr (0, [.int mm.1, .ref (ad 1), .ref (ad 6), .ref (ad 8), .ref (ad 10), .ref (ad 11), .ref (ad 12), .ref (ad 13), .ref (ad 14), .ref (ad 19), .ref (ad 20), .int mm.2.1, .int mm.2.2.1, .int mm.2.2.2])), ((ad 1), .inl (cO, 4, .inr (.inr (.inr (.inr (kx_opsf ad)))))), ((ad 3), .inr (1, [.int ((ops 1).1), .int ((ops 1).2.1), .int ((ops 1).2.2.1), .int ((ops 1).2.2.2.1), .int ((ops 1).2.2.2.2.1), .int ((ops 1).2.2.2.2.2)])), ((ad 4), .inr (1, [.int ((ops 2).1), .int ((ops 2).2.1), .int ((ops 2).2.2.1), .int ((ops 2).2.2.2.1), .int ((ops 2).2.2.2.2.1), .int ((ops 2).2.2.2.2.2)])), ((ad 5), .inr (1, [.int ((ops 3).1), .int ((ops 3).2.1), .int ((ops 3).2.2.1), .int ((ops 3).2.2.2.1), .int ((ops 3).2.2.2.2.1), .int ((ops 3).2.2.2.2.2)])), ((ad 2), .inr (1, [.int o6.1, .int o6.2.1, .int o6.2.2.1, .int o6.2.2.2.1, .int o6.2.2.2.2.1, .int o6.2.2.2.2.2])), ((ad 6), .inr (2, [.ref (ad 7), .int n7.2])), ((ad 7), .inl (cI, 4, .inl n7.1))] H locs := hw
        refine lv_iconst (v := 1) hx hb d_RD_write_37 (by decide) ?_
        exact kx_ret_z I rfl hw (Or.inr rfl) (va_up ops 0 o6, n7) ⟨(by simp only [f_RD_write, ← hp1, if_neg h2, ← hp3, if_neg h4, e5, ← hp6, ← hp7]), (Or.inr rfl)⟩ [0, 1, 5, 2, 3, 4, 6, 7] (by decide) rfl d_RD_write_38
      · refine kx_aald S hw 3 2 rfl rfl (b := (ad 3)) (by rw [e5]; rfl) (l_isFree (hp1 ▸ h2)) d_RD_write_22 ?_
        refine lv_iconst (v := 1) hx hb d_RD_write_23 (by decide) ?_
        refine lv_iload_n hx hb d_RD_write_24 rfl (lv_at hl 2 rfl) ?_
        refine lv_iload_n hx hb d_RD_write_25 rfl (lv_at hl 3 rfl) ?_
        refine kx_call_v (wc := [((ad 3), .inr (1, [.int ((ops 1).1), .int ((ops 1).2.1), .int ((ops 1).2.2.1), .int ((ops 1).2.2.2.1), .int ((ops 1).2.2.2.2.1), .int ((ops 1).2.2.2.2.2)]))]) (wr := [((ad 6), .inr (2, [.ref (ad 7), .int fl.2])), ((ad 7), .inl (cI, 4, .inl fl.1)), ((ad 0), .inr (0, [.int mm.1, .ref (ad 1), .ref (ad 6), .ref (ad 8), .ref (ad 10), .ref (ad 11), .ref (ad 12), .ref (ad 13), .ref (ad 14), .ref (ad 19), .ref (ad 20), .int mm.2.1, .int mm.2.2.1, .int mm.2.2.2])), ((ad 1), .inl (cO, 4, .inr (.inr (.inr (.inr (kx_opsf ad)))))), ((ad 2), .inr (1, [.int ((ops 0).1), .int ((ops 0).2.1), .int ((ops 0).2.2.1), .int ((ops 0).2.2.2.1), .int ((ops 0).2.2.2.2.1), .int ((ops 0).2.2.2.2.2)])), ((ad 4), .inr (1, [.int ((ops 2).1), .int ((ops 2).2.1), .int ((ops 2).2.2.1), .int ((ops 2).2.2.2.1), .int ((ops 2).2.2.2.2.1), .int ((ops 2).2.2.2.2.2)])), ((ad 5), .inr (1, [.int ((ops 3).1), .int ((ops 3).2.1), .int ((ops 3).2.2.1), .int ((ops 3).2.2.2.1), .int ((ops 3).2.2.2.2.1), .int ((ops 3).2.2.2.2.2)]))]) (rest := []) hw [5] [0, 1, 2, 3, 4, 6, 7] rfl rfl (by decide) (by decide) (kx_runV S hw fc_RD_71 rfl 5 rfl [5] (by decide) rfl (c_Op_begin l D cI cZ cO (ad 3) (ops 1) 1 b v H.size) rfl hl.1 rfl (Nat.le_of_ble_eq_true rfl) d_RD_write_26 (by decide) (by decide)) (fun u6 H locs hp6 hw => ?_)
        obtain ⟨o6, rfl⟩ : ∃ z, z = u6 := ⟨_, rfl⟩
        have hw : kx_w D (kx_T cI cZ cO) A_ s_ [((ad 6), .inr (2, [.ref (ad 7), .int fl.2])), ((ad 7), .inl (cI, 4, .inl fl.1)), ((ad 0), .inr (0, [.int mm.1, .ref (ad 1), .ref (ad 6), .ref (ad 8), .ref (ad 10), .ref (ad 11), .ref (ad 12), .ref (ad 13), .ref (ad 14), .ref (ad 19), .ref (ad 20), .int mm.2.1, .int mm.2.2.1, .int mm.2.2.2])), ((ad 1), .inl (cO, 4, .inr (.inr (.inr (.inr (kx_opsf ad)))))), ((ad 2), .inr (1, [.int ((ops 0).1), .int ((ops 0).2.1), .int ((ops 0).2.2.1), .int ((ops 0).2.2.2.1), .int ((ops 0).2.2.2.2.1), .int ((ops 0).2.2.2.2.2)])), ((ad 4), .inr (1, [.int ((ops 2).1), .int ((ops 2).2.1), .int ((ops 2).2.2.1), .int ((ops 2).2.2.2.1), .int ((ops 2).2.2.2.2.1), .int ((ops 2).2.2.2.2.2)])), ((ad 5), .inr (1, [.int ((ops 3).1), .int ((ops 3).2.1), .int ((ops 3).2.2.1), .int ((ops 3).2.2.2.1), .int ((ops 3).2.2.2.2.1), .int ((ops 3).2.2.2.2.2)])), ((ad 3), .inr (1, [.int o6.1, .int o6.2.1, .int o6.2.2.1, .int o6.2.2.2.1, .int o6.2.2.2.2.1, .int o6.2.2.2.2.2]))] H locs := hw
        refine lv_aload_n hx hb d_RD_write_29 rfl (lv_at hl 0 rfl) ?_
        refine kx_get S hw fg_RD_18 2 rfl rfl d_RD_write_30 ?_
        refine lv_iload_n hx hb d_RD_write_33 rfl (lv_at hl 1 rfl) ?_
        refine kx_call_v (wc := [((ad 6), .inr (2, [.ref (ad 7), .int fl.2])), ((ad 7), .inl (cI, 4, .inl fl.1))]) (wr := [((ad 0), .inr (0, [.int mm.1, .ref (ad 1), .ref (ad 6), .ref (ad 8), .ref (ad 10), .ref (ad 11), .ref (ad 12), .ref (ad 13), .ref (ad 14), .ref (ad 19), .ref (ad 20), .int mm.2.1, .int mm.2.2.1, .int mm.2.2.2])), ((ad 1), .inl (cO, 4, .inr (.inr (.inr (.inr (kx_opsf ad)))))), ((ad 2), .inr (1, [.int ((ops 0).1), .int ((ops 0).2.1), .int ((ops 0).2.2.1), .int ((ops 0).2.2.2.1), .int ((ops 0).2.2.2.2.1), .int ((ops 0).2.2.2.2.2)])), ((ad 4), .inr (1, [.int ((ops 2).1), .int ((ops 2).2.1), .int ((ops 2).2.2.1), .int ((ops 2).2.2.2.1), .int ((ops 2).2.2.2.2.1), .int ((ops 2).2.2.2.2.2)])), ((ad 5), .inr (1, [.int ((ops 3).1), .int ((ops 3).2.1), .int ((ops 3).2.2.1), .int ((ops 3).2.2.2.1), .int ((ops 3).2.2.2.2.1), .int ((ops 3).2.2.2.2.2)])), ((ad 3), .inr (1, [.int o6.1, .int o6.2.1, .int o6.2.2.1, .int o6.2.2.2.1, .int o6.2.2.2.2.1, .int o6.2.2.2.2.2]))]) (rest := []) hw [0, 1] [2, 3, 4, 5, 6, 7] rfl rfl (by decide) (by decide) (kx_runV S hw fc_RD_75 rfl 0 rfl [0, 1] (by decide) rfl (c_Ln_join l D cI cZ cO (ad 6) (ad 7) fl u (hj) H.size) rfl hl.1 rfl (Nat.le_of_ble_eq_true rfl) d_RD_write_34 (by decide) (by decide)) (fun u7 H locs hp7 hw => ?_)
        obtain ⟨n7, rfl⟩ : ∃ z, z = u7 := ⟨_, rfl⟩
        have hw : kx_w D (kx_T cI cZ cO) A_ s_ [((ad 0), .inr (0, [.int mm.1, .ref (ad 1), .ref (ad 6), .ref (ad 8), .ref (ad 10), .ref (ad 11), .ref (ad 12), .ref (ad 13), .ref (ad 14), .ref (ad 19), .ref (ad 20), .int mm.2.1, .int mm.2.2.1, .int mm.2.2.2])), ((ad 1), .inl (cO, 4, .inr (.inr (.inr (.inr (kx_opsf ad)))))), ((ad 2), .inr (1, [.int ((ops 0).1), .int ((ops 0).2.1), .int ((ops 0).2.2.1), .int ((ops 0).2.2.2.1), .int ((ops 0).2.2.2.2.1), .int ((ops 0).2.2.2.2.2)])), ((ad 4), .inr (1, [.int ((ops 2).1), .int ((ops 2).2.1), .int ((ops 2).2.2.1), .int ((ops 2).2.2.2.1), .int ((ops 2).2.2.2.2.1), .int ((ops 2).2.2.2.2.2)])), ((ad 5), .inr (1, [.int ((ops 3).1), .int ((ops 3).2.1), .int ((ops 3).2.2.1), .int ((ops 3).2.2.2.1), .int ((ops 3).2.2.2.2.1), .int ((ops 3).2.2.2.2.2)])), ((ad 3), .inr (1, [.int o6.1, .int o6.2.1, .int o6.2.2.1, .int o6.2.2.2.1, .int o6.2.2.2.2.1, .int o6.2.2.2.2.2])), ((ad 6), .inr (2, [.ref (ad 7), .int n7.2])), ((ad 7), .inl (cI, 4, .inl n7.1))] H locs := hw
        refine lv_iconst (v := 1) hx hb d_RD_write_37 (by decide) ?_
        exact kx_ret_z I rfl hw (Or.inr rfl) (va_up ops 1 o6, n7) ⟨(by simp only [f_RD_write, ← hp1, if_neg h2, ← hp3, if_neg h4, e5, ← hp6, ← hp7]), (Or.inr rfl)⟩ [0, 1, 2, 5, 3, 4, 6, 7] (by decide) rfl d_RD_write_38
      · refine kx_aald S hw 3 2 rfl rfl (b := (ad 4)) (by rw [e5]; rfl) (l_isFree (hp1 ▸ h2)) d_RD_write_22 ?_
        refine lv_iconst (v := 1) hx hb d_RD_write_23 (by decide) ?_
        refine lv_iload_n hx hb d_RD_write_24 rfl (lv_at hl 2 rfl) ?_
        refine lv_iload_n hx hb d_RD_write_25 rfl (lv_at hl 3 rfl) ?_
        refine kx_call_v (wc := [((ad 4), .inr (1, [.int ((ops 2).1), .int ((ops 2).2.1), .int ((ops 2).2.2.1), .int ((ops 2).2.2.2.1), .int ((ops 2).2.2.2.2.1), .int ((ops 2).2.2.2.2.2)]))]) (wr := [((ad 6), .inr (2, [.ref (ad 7), .int fl.2])), ((ad 7), .inl (cI, 4, .inl fl.1)), ((ad 0), .inr (0, [.int mm.1, .ref (ad 1), .ref (ad 6), .ref (ad 8), .ref (ad 10), .ref (ad 11), .ref (ad 12), .ref (ad 13), .ref (ad 14), .ref (ad 19), .ref (ad 20), .int mm.2.1, .int mm.2.2.1, .int mm.2.2.2])), ((ad 1), .inl (cO, 4, .inr (.inr (.inr (.inr (kx_opsf ad)))))), ((ad 2), .inr (1, [.int ((ops 0).1), .int ((ops 0).2.1), .int ((ops 0).2.2.1), .int ((ops 0).2.2.2.1), .int ((ops 0).2.2.2.2.1), .int ((ops 0).2.2.2.2.2)])), ((ad 3), .inr (1, [.int ((ops 1).1), .int ((ops 1).2.1), .int ((ops 1).2.2.1), .int ((ops 1).2.2.2.1), .int ((ops 1).2.2.2.2.1), .int ((ops 1).2.2.2.2.2)])), ((ad 5), .inr (1, [.int ((ops 3).1), .int ((ops 3).2.1), .int ((ops 3).2.2.1), .int ((ops 3).2.2.2.1), .int ((ops 3).2.2.2.2.1), .int ((ops 3).2.2.2.2.2)]))]) (rest := []) hw [6] [0, 1, 2, 3, 4, 5, 7] rfl rfl (by decide) (by decide) (kx_runV S hw fc_RD_71 rfl 6 rfl [6] (by decide) rfl (c_Op_begin l D cI cZ cO (ad 4) (ops 2) 1 b v H.size) rfl hl.1 rfl (Nat.le_of_ble_eq_true rfl) d_RD_write_26 (by decide) (by decide)) (fun u6 H locs hp6 hw => ?_)
        obtain ⟨o6, rfl⟩ : ∃ z, z = u6 := ⟨_, rfl⟩
        have hw : kx_w D (kx_T cI cZ cO) A_ s_ [((ad 6), .inr (2, [.ref (ad 7), .int fl.2])), ((ad 7), .inl (cI, 4, .inl fl.1)), ((ad 0), .inr (0, [.int mm.1, .ref (ad 1), .ref (ad 6), .ref (ad 8), .ref (ad 10), .ref (ad 11), .ref (ad 12), .ref (ad 13), .ref (ad 14), .ref (ad 19), .ref (ad 20), .int mm.2.1, .int mm.2.2.1, .int mm.2.2.2])), ((ad 1), .inl (cO, 4, .inr (.inr (.inr (.inr (kx_opsf ad)))))), ((ad 2), .inr (1, [.int ((ops 0).1), .int ((ops 0).2.1), .int ((ops 0).2.2.1), .int ((ops 0).2.2.2.1), .int ((ops 0).2.2.2.2.1), .int ((ops 0).2.2.2.2.2)])), ((ad 3), .inr (1, [.int ((ops 1).1), .int ((ops 1).2.1), .int ((ops 1).2.2.1), .int ((ops 1).2.2.2.1), .int ((ops 1).2.2.2.2.1), .int ((ops 1).2.2.2.2.2)])), ((ad 5), .inr (1, [.int ((ops 3).1), .int ((ops 3).2.1), .int ((ops 3).2.2.1), .int ((ops 3).2.2.2.1), .int ((ops 3).2.2.2.2.1), .int ((ops 3).2.2.2.2.2)])), ((ad 4), .inr (1, [.int o6.1, .int o6.2.1, .int o6.2.2.1, .int o6.2.2.2.1, .int o6.2.2.2.2.1, .int o6.2.2.2.2.2]))] H locs := hw
        refine lv_aload_n hx hb d_RD_write_29 rfl (lv_at hl 0 rfl) ?_
        refine kx_get S hw fg_RD_18 2 rfl rfl d_RD_write_30 ?_
        refine lv_iload_n hx hb d_RD_write_33 rfl (lv_at hl 1 rfl) ?_
        refine kx_call_v (wc := [((ad 6), .inr (2, [.ref (ad 7), .int fl.2])), ((ad 7), .inl (cI, 4, .inl fl.1))]) (wr := [((ad 0), .inr (0, [.int mm.1, .ref (ad 1), .ref (ad 6), .ref (ad 8), .ref (ad 10), .ref (ad 11), .ref (ad 12), .ref (ad 13), .ref (ad 14), .ref (ad 19), .ref (ad 20), .int mm.2.1, .int mm.2.2.1, .int mm.2.2.2])), ((ad 1), .inl (cO, 4, .inr (.inr (.inr (.inr (kx_opsf ad)))))), ((ad 2), .inr (1, [.int ((ops 0).1), .int ((ops 0).2.1), .int ((ops 0).2.2.1), .int ((ops 0).2.2.2.1), .int ((ops 0).2.2.2.2.1), .int ((ops 0).2.2.2.2.2)])), ((ad 3), .inr (1, [.int ((ops 1).1), .int ((ops 1).2.1), .int ((ops 1).2.2.1), .int ((ops 1).2.2.2.1), .int ((ops 1).2.2.2.2.1), .int ((ops 1).2.2.2.2.2)])), ((ad 5), .inr (1, [.int ((ops 3).1), .int ((ops 3).2.1), .int ((ops 3).2.2.1), .int ((ops 3).2.2.2.1), .int ((ops 3).2.2.2.2.1), .int ((ops 3).2.2.2.2.2)])), ((ad 4), .inr (1, [.int o6.1, .int o6.2.1, .int o6.2.2.1, .int o6.2.2.2.1, .int o6.2.2.2.2.1, .int o6.2.2.2.2.2]))]) (rest := []) hw [0, 1] [2, 3, 4, 5, 6, 7] rfl rfl (by decide) (by decide) (kx_runV S hw fc_RD_75 rfl 0 rfl [0, 1] (by decide) rfl (c_Ln_join l D cI cZ cO (ad 6) (ad 7) fl u (hj) H.size) rfl hl.1 rfl (Nat.le_of_ble_eq_true rfl) d_RD_write_34 (by decide) (by decide)) (fun u7 H locs hp7 hw => ?_)
        obtain ⟨n7, rfl⟩ : ∃ z, z = u7 := ⟨_, rfl⟩
        have hw : kx_w D (kx_T cI cZ cO) A_ s_ [((ad 0), .inr (0, [.int mm.1, .ref (ad 1), .ref (ad 6), .ref (ad 8), .ref (ad 10), .ref (ad 11), .ref (ad 12), .ref (ad 13), .ref (ad 14), .ref (ad 19), .ref (ad 20), .int mm.2.1, .int mm.2.2.1, .int mm.2.2.2])), ((ad 1), .inl (cO, 4, .inr (.inr (.inr (.inr (kx_opsf ad)))))), ((ad 2), .inr (1, [.int ((ops 0).1), .int ((ops 0).2.1), .int ((ops 0).2.2.1), .int ((ops 0).2.2.2.1), .int ((ops 0).2.2.2.2.1), .int ((ops 0).2.2.2.2.2)])), ((ad 3), .inr (1, [.int ((ops 1).1), .int ((ops 1).2.1), .int ((ops 1).2.2.1), .int ((ops 1).2.2.2.1), .int ((ops 1).2.2.2.2.1), .int ((ops 1).2.2.2.2.2)])), ((ad 5), .inr (1, [.int ((ops 3).1), .int ((ops 3).2.1), .int ((ops 3).2.2.1), .int ((ops 3).2.2.2.1), .int ((ops 3).2.2.2.2.1), .int ((ops 3).2.2.2.2.2)])), ((ad 4), .inr (1, [.int o6.1, .int o6.2.1, .int o6.2.2.1, .int o6.2.2.2.1, .int o6.2.2.2.2.1, .int o6.2.2.2.2.2])), ((ad 6), .inr (2, [.ref (ad 7), .int n7.2])), ((ad 7), .inl (cI, 4, .inl n7.1))] H locs := hw
        refine lv_iconst (v := 1) hx hb d_RD_write_37 (by decide) ?_
        exact kx_ret_z I rfl hw (Or.inr rfl) (va_up ops 2 o6, n7) ⟨(by simp only [f_RD_write, ← hp1, if_neg h2, ← hp3, if_neg h4, e5, ← hp6, ← hp7]), (Or.inr rfl)⟩ [0, 1, 2, 3, 5, 4, 6, 7] (by decide) rfl d_RD_write_38
      · refine kx_aald S hw 3 2 rfl rfl (b := (ad 5)) (by rw [e5]; rfl) (l_isFree (hp1 ▸ h2)) d_RD_write_22 ?_
        refine lv_iconst (v := 1) hx hb d_RD_write_23 (by decide) ?_
        refine lv_iload_n hx hb d_RD_write_24 rfl (lv_at hl 2 rfl) ?_
        refine lv_iload_n hx hb d_RD_write_25 rfl (lv_at hl 3 rfl) ?_
        refine kx_call_v (wc := [((ad 5), .inr (1, [.int ((ops 3).1), .int ((ops 3).2.1), .int ((ops 3).2.2.1), .int ((ops 3).2.2.2.1), .int ((ops 3).2.2.2.2.1), .int ((ops 3).2.2.2.2.2)]))]) (wr := [((ad 6), .inr (2, [.ref (ad 7), .int fl.2])), ((ad 7), .inl (cI, 4, .inl fl.1)), ((ad 0), .inr (0, [.int mm.1, .ref (ad 1), .ref (ad 6), .ref (ad 8), .ref (ad 10), .ref (ad 11), .ref (ad 12), .ref (ad 13), .ref (ad 14), .ref (ad 19), .ref (ad 20), .int mm.2.1, .int mm.2.2.1, .int mm.2.2.2])), ((ad 1), .inl (cO, 4, .inr (.inr (.inr (.inr (kx_opsf ad)))))), ((ad 2), .inr (1, [.int ((ops 0).1), .int ((ops 0).2.1), .int ((ops 0).2.2.1), .int ((ops 0).2.2.2.1), .int ((ops 0).2.2.2.2.1), .int ((ops 0).2.2.2.2.2)])), ((ad 3), .inr (1, [.int ((ops 1).1), .int ((ops 1).2.1), .int ((ops 1).2.2.1), .int ((ops 1).2.2.2.1), .int ((ops 1).2.2.2.2.1), .int ((ops 1).2.2.2.2.2)])), ((ad 4), .inr (1, [.int ((ops 2).1), .int ((ops 2).2.1), .int ((ops 2).2.2.1), .int ((ops 2).2.2.2.1), .int ((ops 2).2.2.2.2.1), .int ((ops 2).2.2.2.2.2)]))]) (rest := []) hw [7] [0, 1, 2, 3, 4, 5, 6] rfl rfl (by decide) (by decide) (kx_runV S hw fc_RD_71 rfl 7 rfl [7] (by decide) rfl (c_Op_begin l D cI cZ cO (ad 5) (ops 3) 1 b v H.size) rfl hl.1 rfl (Nat.le_of_ble_eq_true rfl) d_RD_write_26 (by decide) (by decide)) (fun u6 H locs hp6 hw => ?_)
        obtain ⟨o6, rfl⟩ : ∃ z, z = u6 := ⟨_, rfl⟩
        have hw : kx_w D (kx_T cI cZ cO) A_ s_ [((ad 6), .inr (2, [.ref (ad 7), .int fl.2])), ((ad 7), .inl (cI, 4, .inl fl.1)), ((ad 0), .inr (0, [.int mm.1, .ref (ad 1), .ref (ad 6), .ref (ad 8), .ref (ad 10), .ref (ad 11), .ref (ad 12), .ref (ad 13), .ref (ad 14), .ref (ad 19), .ref (ad 20), .int mm.2.1, .int mm.2.2.1, .int mm.2.2.2])), ((ad 1), .inl (cO, 4, .inr (.inr (.inr (.inr (kx_opsf ad)))))), ((ad 2), .inr (1, [.int ((ops 0).1), .int ((ops 0).2.1), .int ((ops 0).2.2.1), .int ((ops 0).2.2.2.1), .int ((ops 0).2.2.2.2.1), .int ((ops 0).2.2.2.2.2)])), ((ad 3), .inr (1, [.int ((ops 1).1), .int ((ops 1).2.1), .int ((ops 1).2.2.1), .int ((ops 1).2.2.2.1), .int ((ops 1).2.2.2.2.1), .int ((ops 1).2.2.2.2.2)])), ((ad 4), .inr (1, [.int ((ops 2).1), .int ((ops 2).2.1), .int ((ops 2).2.2.1), .int ((ops 2).2.2.2.1), .int ((ops 2).2.2.2.2.1), .int ((ops 2).2.2.2.2.2)])), ((ad 5), .inr (1, [.int o6.1, .int o6.2.1, .int o6.2.2.1, .int o6.2.2.2.1, .int o6.2.2.2.2.1, .int o6.2.2.2.2.2]))] H locs := hw
        refine lv_aload_n hx hb d_RD_write_29 rfl (lv_at hl 0 rfl) ?_
        refine kx_get S hw fg_RD_18 2 rfl rfl d_RD_write_30 ?_
        refine lv_iload_n hx hb d_RD_write_33 rfl (lv_at hl 1 rfl) ?_
        refine kx_call_v (wc := [((ad 6), .inr (2, [.ref (ad 7), .int fl.2])), ((ad 7), .inl (cI, 4, .inl fl.1))]) (wr := [((ad 0), .inr (0, [.int mm.1, .ref (ad 1), .ref (ad 6), .ref (ad 8), .ref (ad 10), .ref (ad 11), .ref (ad 12), .ref (ad 13), .ref (ad 14), .ref (ad 19), .ref (ad 20), .int mm.2.1, .int mm.2.2.1, .int mm.2.2.2])), ((ad 1), .inl (cO, 4, .inr (.inr (.inr (.inr (kx_opsf ad)))))), ((ad 2), .inr (1, [.int ((ops 0).1), .int ((ops 0).2.1), .int ((ops 0).2.2.1), .int ((ops 0).2.2.2.1), .int ((ops 0).2.2.2.2.1), .int ((ops 0).2.2.2.2.2)])), ((ad 3), .inr (1, [.int ((ops 1).1), .int ((ops 1).2.1), .int ((ops 1).2.2.1), .int ((ops 1).2.2.2.1), .int ((ops 1).2.2.2.2.1), .int ((ops 1).2.2.2.2.2)])), ((ad 4), .inr (1, [.int ((ops 2).1), .int ((ops 2).2.1), .int ((ops 2).2.2.1), .int ((ops 2).2.2.2.1), .int ((ops 2).2.2.2.2.1), .int ((ops 2).2.2.2.2.2)])), ((ad 5), .inr (1, [.int o6.1, .int o6.2.1, .int o6.2.2.1, .int o6.2.2.2.1, .int o6.2.2.2.2.1, .int o6.2.2.2.2.2]))]) (rest := []) hw [0, 1] [2, 3, 4, 5, 6, 7] rfl rfl (by decide) (by decide) (kx_runV S hw fc_RD_75 rfl 0 rfl [0, 1] (by decide) rfl (c_Ln_join l D cI cZ cO (ad 6) (ad 7) fl u (hj) H.size) rfl hl.1 rfl (Nat.le_of_ble_eq_true rfl) d_RD_write_34 (by decide) (by decide)) (fun u7 H locs hp7 hw => ?_)
        obtain ⟨n7, rfl⟩ : ∃ z, z = u7 := ⟨_, rfl⟩
        have hw : kx_w D (kx_T cI cZ cO) A_ s_ [((ad 0), .inr (0, [.int mm.1, .ref (ad 1), .ref (ad 6), .ref (ad 8), .ref (ad 10), .ref (ad 11), .ref (ad 12), .ref (ad 13), .ref (ad 14), .ref (ad 19), .ref (ad 20), .int mm.2.1, .int mm.2.2.1, .int mm.2.2.2])), ((ad 1), .inl (cO, 4, .inr (.inr (.inr (.inr (kx_opsf ad)))))), ((ad 2), .inr (1, [.int ((ops 0).1), .int ((ops 0).2.1), .int ((ops 0).2.2.1), .int ((ops 0).2.2.2.1), .int ((ops 0).2.2.2.2.1), .int ((ops 0).2.2.2.2.2)])), ((ad 3), .inr (1, [.int ((ops 1).1), .int ((ops 1).2.1), .int ((ops 1).2.2.1), .int ((ops 1).2.2.2.1), .int ((ops 1).2.2.2.2.1), .int ((ops 1).2.2.2.2.2)])), ((ad 4), .inr (1, [.int ((ops 2).1), .int ((ops 2).2.1), .int ((ops 2).2.2.1), .int ((ops 2).2.2.2.1), .int ((ops 2).2.2.2.2.1), .int ((ops 2).2.2.2.2.2)])), ((ad 5), .inr (1, [.int o6.1, .int o6.2.1, .int o6.2.2.1, .int o6.2.2.2.1, .int o6.2.2.2.2.1, .int o6.2.2.2.2.2])), ((ad 6), .inr (2, [.ref (ad 7), .int n7.2])), ((ad 7), .inl (cI, 4, .inl n7.1))] H locs := hw
        refine lv_iconst (v := 1) hx hb d_RD_write_37 (by decide) ?_
        exact kx_ret_z I rfl hw (Or.inr rfl) (va_up ops 3 o6, n7) ⟨(by simp only [f_RD_write, ← hp1, if_neg h2, ← hp3, if_neg h4, e5, ← hp6, ← hp7]), (Or.inr rfl)⟩ [0, 1, 2, 3, 4, 5, 6, 7] (by decide) rfl d_RD_write_38
    · refine lv_iconst (v := 0) hx hb d_RD_write_15 (by decide) ?_
      exact kx_ret_z I rfl hw (Or.inl rfl) (ops, fl) ⟨(by simp only [f_RD_write, ← hp1, if_neg h2, ← hp3, if_pos h4]), (Or.inl rfl)⟩ [2, 3, 4, 5, 6, 7, 0, 1] (by decide) rfl d_RD_write_16
def f_RD_sync (mm : kt_M) (ops : (Nat → kt_Op)) (fl : kt_Ln) (u : Int32) : Int32 × (Nat → kt_Op) × kt_Ln :=
  match f_RD_isFree mm ops u with
  | r1 => if r1 = 0 then (0, ops, fl)
    else match f_Op_begin (ops u.toNatClampNeg) 2 (-1) 0 with
    | o4 => match f_Ln_join fl u with
      | n5 => (1, va_up ops u.toNatClampNeg o4, n5)
set_option maxHeartbeats 4000000 in
set_option maxRecDepth 100000 in
theorem c_RD_sync (l : Launch) (D : va_G) (cI cZ cO : ClassId) (ad : Nat → Nat) (mm : kt_M) (ops : (Nat → kt_Op)) (fl : kt_Ln) (u : Int32) (hj : 0 ≤ fl.2) : kx_Ci (S := (Nat → kt_Op) × kt_Ln) l y_RD_sync b_RD_sync 2 (some .boolean) 2 0 0 D (kx_T cI cZ cO) [.ref (ad 0), .int u] [((ad 0), .inr (0, [.int mm.1, .ref (ad 1), .ref (ad 6), .ref (ad 8), .ref (ad 10), .ref (ad 11), .ref (ad 12), .ref (ad 13), .ref (ad 14), .ref (ad 19), .ref (ad 20), .int mm.2.1, .int mm.2.2.1, .int mm.2.2.2])), ((ad 1), .inl (cO, 4, .inr (.inr (.inr (.inr (kx_opsf ad)))))), ((ad 2), .inr (1, [.int ((ops 0).1), .int ((ops 0).2.1), .int ((ops 0).2.2.1), .int ((ops 0).2.2.2.1), .int ((ops 0).2.2.2.2.1), .int ((ops 0).2.2.2.2.2)])), ((ad 3), .inr (1, [.int ((ops 1).1), .int ((ops 1).2.1), .int ((ops 1).2.2.1), .int ((ops 1).2.2.2.1), .int ((ops 1).2.2.2.2.1), .int ((ops 1).2.2.2.2.2)])), ((ad 4), .inr (1, [.int ((ops 2).1), .int ((ops 2).2.1), .int ((ops 2).2.2.1), .int ((ops 2).2.2.2.1), .int ((ops 2).2.2.2.2.1), .int ((ops 2).2.2.2.2.2)])), ((ad 5), .inr (1, [.int ((ops 3).1), .int ((ops 3).2.1), .int ((ops 3).2.2.1), .int ((ops 3).2.2.2.1), .int ((ops 3).2.2.2.2.1), .int ((ops 3).2.2.2.2.2)])), ((ad 6), .inr (2, [.ref (ad 7), .int fl.2])), ((ad 7), .inl (cI, 4, .inl fl.1))] (fun rr zz => (rr, zz) = f_RD_sync mm ops fl u ∧ kx_b rr) (fun zz => [((ad 0), .inr (0, [.int mm.1, .ref (ad 1), .ref (ad 6), .ref (ad 8), .ref (ad 10), .ref (ad 11), .ref (ad 12), .ref (ad 13), .ref (ad 14), .ref (ad 19), .ref (ad 20), .int mm.2.1, .int mm.2.2.1, .int mm.2.2.2])), ((ad 1), .inl (cO, 4, .inr (.inr (.inr (.inr (kx_opsf ad)))))), ((ad 2), .inr (1, [.int ((zz.1 0).1), .int ((zz.1 0).2.1), .int ((zz.1 0).2.2.1), .int ((zz.1 0).2.2.2.1), .int ((zz.1 0).2.2.2.2.1), .int ((zz.1 0).2.2.2.2.2)])), ((ad 3), .inr (1, [.int ((zz.1 1).1), .int ((zz.1 1).2.1), .int ((zz.1 1).2.2.1), .int ((zz.1 1).2.2.2.1), .int ((zz.1 1).2.2.2.2.1), .int ((zz.1 1).2.2.2.2.2)])), ((ad 4), .inr (1, [.int ((zz.1 2).1), .int ((zz.1 2).2.1), .int ((zz.1 2).2.2.1), .int ((zz.1 2).2.2.2.1), .int ((zz.1 2).2.2.2.2.1), .int ((zz.1 2).2.2.2.2.2)])), ((ad 5), .inr (1, [.int ((zz.1 3).1), .int ((zz.1 3).2.1), .int ((zz.1 3).2.2.1), .int ((zz.1 3).2.2.2.1), .int ((zz.1 3).2.2.2.2.1), .int ((zz.1 3).2.2.2.2.2)])), ((ad 6), .inr (2, [.ref (ad 7), .int zz.2.2])), ((ad 7), .inl (cI, 4, .inl zz.2.1))]) := by
  refine kx_enter_i (by decide) (Nat.le_of_ble_eq_true rfl) ?_
  intro p_ e_ s_ m_ below_ meth_ c_ ls A_ H I hl hw
  have S := I.1
  have hx := S.1
  have hb := S.2.1
  have hl : lv_has ls 2 [(0, .ref (ad 0)), (1, .int u)] := hl
  refine lv_aload_n hx hb d_RD_sync_0 rfl (lv_at hl 0 rfl) ?_
  refine lv_iload_n hx hb d_RD_sync_1 rfl (lv_at hl 1 rfl) ?_
  refine kx_call_i (wc := [((ad 0), .inr (0, [.int mm.1, .ref (ad 1), .ref (ad 6), .ref (ad 8), .ref (ad 10), .ref (ad 11), .ref (ad 12), .ref (ad 13), .ref (ad 14), .ref (ad 19), .ref (ad 20), .int mm.2.1, .int mm.2.2.1, .int mm.2.2.2])), ((ad 1), .inl (cO, 4, .inr (.inr (.inr (.inr (kx_opsf ad)))))), ((ad 2), .inr (1, [.int ((ops 0).1), .int ((ops 0).2.1), .int ((ops 0).2.2.1), .int ((ops 0).2.2.2.1), .int ((ops 0).2.2.2.2.1), .int ((ops 0).2.2.2.2.2)])), ((ad 3), .inr (1, [.int ((ops 1).1), .int ((ops 1).2.1), .int ((ops 1).2.2.1), .int ((ops 1).2.2.2.1), .int ((ops 1).2.2.2.2.1), .int ((ops 1).2.2.2.2.2)])), ((ad 4), .inr (1, [.int ((ops 2).1), .int ((ops 2).2.1), .int ((ops 2).2.2.1), .int ((ops 2).2.2.2.1), .int ((ops 2).2.2.2.2.1), .int ((ops 2).2.2.2.2.2)])), ((ad 5), .inr (1, [.int ((ops 3).1), .int ((ops 3).2.1), .int ((ops 3).2.2.1), .int ((ops 3).2.2.2.1), .int ((ops 3).2.2.2.2.1), .int ((ops 3).2.2.2.2.2)]))]) (wr := [((ad 6), .inr (2, [.ref (ad 7), .int fl.2])), ((ad 7), .inl (cI, 4, .inl fl.1))]) (rest := []) hw [0, 1, 2, 3, 4, 5] [6, 7] rfl rfl (by decide) (by decide) (kx_runV S hw fc_RD_64 rfl 0 rfl [0, 1, 2, 3, 4, 5] (by decide) rfl (c_RD_isFree l D cI cZ cO ad mm ops u H.size) rfl hl.1 rfl (Nat.le_of_ble_eq_true rfl) d_RD_sync_2 (by decide) (by decide)) (fun r1 u1 H locs hp1 hw => ?_)
  obtain ⟨hp1, hb1⟩ := hp1
  have hw : kx_w D (kx_T cI cZ cO) A_ s_ [((ad 6), .inr (2, [.ref (ad 7), .int fl.2])), ((ad 7), .inl (cI, 4, .inl fl.1)), ((ad 0), .inr (0, [.int mm.1, .ref (ad 1), .ref (ad 6), .ref (ad 8), .ref (ad 10), .ref (ad 11), .ref (ad 12), .ref (ad 13), .ref (ad 14), .ref (ad 19), .ref (ad 20), .int mm.2.1, .int mm.2.2.1, .int mm.2.2.2])), ((ad 1), .inl (cO, 4, .inr (.inr (.inr (.inr (kx_opsf ad)))))), ((ad 2), .inr (1, [.int ((ops 0).1), .int ((ops 0).2.1), .int ((ops 0).2.2.1), .int ((ops 0).2.2.2.1), .int ((ops 0).2.2.2.2.1), .int ((ops 0).2.2.2.2.2)])), ((ad 3), .inr (1, [.int ((ops 1).1), .int ((ops 1).2.1), .int ((ops 1).2.2.1), .int ((ops 1).2.2.2.1), .int ((ops 1).2.2.2.2.1), .int ((ops 1).2.2.2.2.2)])), ((ad 4), .inr (1, [.int ((ops 2).1), .int ((ops 2).2.1), .int ((ops 2).2.2.1), .int ((ops 2).2.2.2.1), .int ((ops 2).2.2.2.2.1), .int ((ops 2).2.2.2.2.2)])), ((ad 5), .inr (1, [.int ((ops 3).1), .int ((ops 3).2.1), .int ((ops 3).2.2.1), .int ((ops 3).2.2.2.1), .int ((ops 3).2.2.2.2.1), .int ((ops 3).2.2.2.2.2)]))] H locs := hw
  refine lv_if_ne (tgt := 10) hx hb d_RD_sync_5 (by decide) (fun h2 => ?_) (fun h2 => ?_)
  · refine lv_aload_n hx hb d_RD_sync_10 rfl (lv_at hl 0 rfl) ?_
    refine kx_get S hw fg_RD_11 2 rfl rfl d_RD_sync_11 ?_
    refine lv_iload_n hx hb d_RD_sync_14 rfl (lv_at hl 1 rfl) ?_
    rcases kx_c4 (i := u) (l_isFree (hp1 ▸ h2)) with e3 | e3 | e3 | e3
    · refine kx_aald S hw 3 2 rfl rfl (b := (ad 2)) (by rw [e3]; rfl) (l_isFree (hp1 ▸ h2)) d_RD_sync_15 ?_
      refine lv_iconst (v := 2) hx hb d_RD_sync_16 (by decide) ?_
      refine lv_iconst (v := (-1)) hx hb d_RD_sync_17 (by decide) ?_
      refine lv_iconst (v := 0) hx hb d_RD_sync_18 (by decide) ?_
      refine kx_call_v (wc := [((ad 2), .inr (1, [.int ((ops 0).1), .int ((ops 0).2.1), .int ((ops 0).2.2.1), .int ((ops 0).2.2.2.1), .int ((ops 0).2.2.2.2.1), .int ((ops 0).2.2.2.2.2)]))]) (wr := [((ad 6), .inr (2, [.ref (ad 7), .int fl.2])), ((ad 7), .inl (cI, 4, .inl fl.1)), ((ad 0), .inr (0, [.int mm.1, .ref (ad 1), .ref (ad 6), .ref (ad 8), .ref (ad 10), .ref (ad 11), .ref (ad 12), .ref (ad 13), .ref (ad 14), .ref (ad 19), .ref (ad 20), .int mm.2.1, .int mm.2.2.1, .int mm.2.2.2])), ((ad 1), .inl (cO, 4, .inr (.inr (.inr (.inr (kx_opsf ad)))))), ((ad 3), .inr (1, [.int ((ops 1).1), .int ((ops 1).2.1), .int ((ops 1).2.2.1), .int ((ops 1).2.2.2.1), .int ((ops 1).2.2.2.2.1), .int ((ops 1).2.2.2.2.2)])), ((ad 4), .inr (1, [.int ((ops 2).1), .int ((ops 2).2.1), .int ((ops 2).2.2.1), .int ((ops 2).2.2.2.1), .int ((ops 2).2.2.2.2.1), .int ((ops 2).2.2.2.2.2)])), ((ad 5), .inr (1, [.int ((ops 3).1), .int ((ops 3).2.1), .int ((ops 3).2.2.1), .int ((ops 3).2.2.2.1), .int ((ops 3).2.2.2.2.1), .int ((ops 3).2.2.2.2.2)]))]) (rest := []) hw [4] [0, 1, 2, 3, 5, 6, 7] rfl rfl (by decide) (by decide) (kx_runV S hw fc_RD_71 rfl 4 rfl [4] (by decide) rfl (c_Op_begin l D cI cZ cO (ad 2) (ops 0) 2 (-1) 0 H.size) rfl hl.1 rfl (Nat.le_of_ble_eq_true rfl) d_RD_sync_19 (by decide) (by decide)) (fun u4 H locs hp4 hw => ?_)
      obtain ⟨o4, rfl⟩ : ∃ z, z = u4 := ⟨_, rfl⟩
      have hw : kx_w D (kx_T cI cZ cO) A_ s_ [((ad 6), .inr (2, [.ref (ad 7), .int fl.2])), ((ad 7), .inl (cI, 4, .inl fl.1)), ((ad 0), .inr (0, [.int mm.1, .ref (ad 1), .ref (ad 6), .ref (ad 8), .ref (ad 10), .ref (ad 11), .ref (ad 12), .ref (ad 13), .ref (ad 14), .ref (ad 19), .ref (ad 20), .int mm.2.1, .int mm.2.2.1, .int mm.2.2.2])), ((ad 1), .inl (cO, 4, .inr (.inr (.inr (.inr (kx_opsf ad)))))), ((ad 3), .inr (1, [.int ((ops 1).1), .int ((ops 1).2.1), .int ((ops 1).2.2.1), .int ((ops 1).2.2.2.1), .int ((ops 1).2.2.2.2.1), .int ((ops 1).2.2.2.2.2)])), ((ad 4), .inr (1, [.int ((ops 2).1), .int ((ops 2).2.1), .int ((ops 2).2.2.1), .int ((ops 2).2.2.2.1), .int ((ops 2).2.2.2.2.1), .int ((ops 2).2.2.2.2.2)])), ((ad 5), .inr (1, [.int ((ops 3).1), .int ((ops 3).2.1), .int ((ops 3).2.2.1), .int ((ops 3).2.2.2.1), .int ((ops 3).2.2.2.2.1), .int ((ops 3).2.2.2.2.2)])), ((ad 2), .inr (1, [.int o4.1, .int o4.2.1, .int o4.2.2.1, .int o4.2.2.2.1, .int o4.2.2.2.2.1, .int o4.2.2.2.2.2]))] H locs := hw
      refine lv_aload_n hx hb d_RD_sync_22 rfl (lv_at hl 0 rfl) ?_
      refine kx_get S hw fg_RD_18 2 rfl rfl d_RD_sync_23 ?_
      refine lv_iload_n hx hb d_RD_sync_26 rfl (lv_at hl 1 rfl) ?_
      refine kx_call_v (wc := [((ad 6), .inr (2, [.ref (ad 7), .int fl.2])), ((ad 7), .inl (cI, 4, .inl fl.1))]) (wr := [((ad 0), .inr (0, [.int mm.1, .ref (ad 1), .ref (ad 6), .ref (ad 8), .ref (ad 10), .ref (ad 11), .ref (ad 12), .ref (ad 13), .ref (ad 14), .ref (ad 19), .ref (ad 20), .int mm.2.1, .int mm.2.2.1, .int mm.2.2.2])), ((ad 1), .inl (cO, 4, .inr (.inr (.inr (.inr (kx_opsf ad)))))), ((ad 3), .inr (1, [.int ((ops 1).1), .int ((ops 1).2.1), .int ((ops 1).2.2.1), .int ((ops 1).2.2.2.1), .int ((ops 1).2.2.2.2.1), .int ((ops 1).2.2.2.2.2)])), ((ad 4), .inr (1, [.int ((ops 2).1), .int ((ops 2).2.1), .int ((ops 2).2.2.1), .int ((ops 2).2.2.2.1), .int ((ops 2).2.2.2.2.1), .int ((ops 2).2.2.2.2.2)])), ((ad 5), .inr (1, [.int ((ops 3).1), .int ((ops 3).2.1), .int ((ops 3).2.2.1), .int ((ops 3).2.2.2.1), .int ((ops 3).2.2.2.2.1), .int ((ops 3).2.2.2.2.2)])), ((ad 2), .inr (1, [.int o4.1, .int o4.2.1, .int o4.2.2.1, .int o4.2.2.2.1, .int o4.2.2.2.2.1, .int o4.2.2.2.2.2]))]) (rest := []) hw [0, 1] [2, 3, 4, 5, 6, 7] rfl rfl (by decide) (by decide) (kx_runV S hw fc_RD_75 rfl 0 rfl [0, 1] (by decide) rfl (c_Ln_join l D cI cZ cO (ad 6) (ad 7) fl u (hj) H.size) rfl hl.1 rfl (Nat.le_of_ble_eq_true rfl) d_RD_sync_27 (by decide) (by decide)) (fun u5 H locs hp5 hw => ?_)
      obtain ⟨n5, rfl⟩ : ∃ z, z = u5 := ⟨_, rfl⟩
      have hw : kx_w D (kx_T cI cZ cO) A_ s_ [((ad 0), .inr (0, [.int mm.1, .ref (ad 1), .ref (ad 6), .ref (ad 8), .ref (ad 10), .ref (ad 11), .ref (ad 12), .ref (ad 13), .ref (ad 14), .ref (ad 19), .ref (ad 20), .int mm.2.1, .int mm.2.2.1, .int mm.2.2.2])), ((ad 1), .inl (cO, 4, .inr (.inr (.inr (.inr (kx_opsf ad)))))), ((ad 3), .inr (1, [.int ((ops 1).1), .int ((ops 1).2.1), .int ((ops 1).2.2.1), .int ((ops 1).2.2.2.1), .int ((ops 1).2.2.2.2.1), .int ((ops 1).2.2.2.2.2)])), ((ad 4), .inr (1, [.int ((ops 2).1), .int ((ops 2).2.1), .int ((ops 2).2.2.1), .int ((ops 2).2.2.2.1), .int ((ops 2).2.2.2.2.1), .int ((ops 2).2.2.2.2.2)])), ((ad 5), .inr (1, [.int ((ops 3).1), .int ((ops 3).2.1), .int ((ops 3).2.2.1), .int ((ops 3).2.2.2.1), .int ((ops 3).2.2.2.2.1), .int ((ops 3).2.2.2.2.2)])), ((ad 2), .inr (1, [.int o4.1, .int o4.2.1, .int o4.2.2.1, .int o4.2.2.2.1, .int o4.2.2.2.2.1, .int o4.2.2.2.2.2])), ((ad 6), .inr (2, [.ref (ad 7), .int n5.2])), ((ad 7), .inl (cI, 4, .inl n5.1))] H locs := hw
      refine lv_iconst (v := 1) hx hb d_RD_sync_30 (by decide) ?_
      exact kx_ret_z I rfl hw (Or.inr rfl) (va_up ops 0 o4, n5) ⟨(by simp only [f_RD_sync, ← hp1, if_neg h2, e3, ← hp4, ← hp5]), (Or.inr rfl)⟩ [0, 1, 5, 2, 3, 4, 6, 7] (by decide) rfl d_RD_sync_31
    · refine kx_aald S hw 3 2 rfl rfl (b := (ad 3)) (by rw [e3]; rfl) (l_isFree (hp1 ▸ h2)) d_RD_sync_15 ?_
      refine lv_iconst (v := 2) hx hb d_RD_sync_16 (by decide) ?_
      refine lv_iconst (v := (-1)) hx hb d_RD_sync_17 (by decide) ?_
      refine lv_iconst (v := 0) hx hb d_RD_sync_18 (by decide) ?_
      refine kx_call_v (wc := [((ad 3), .inr (1, [.int ((ops 1).1), .int ((ops 1).2.1), .int ((ops 1).2.2.1), .int ((ops 1).2.2.2.1), .int ((ops 1).2.2.2.2.1), .int ((ops 1).2.2.2.2.2)]))]) (wr := [((ad 6), .inr (2, [.ref (ad 7), .int fl.2])), ((ad 7), .inl (cI, 4, .inl fl.1)), ((ad 0), .inr (0, [.int mm.1, .ref (ad 1), .ref (ad 6), .ref (ad 8), .ref (ad 10), .ref (ad 11), .ref (ad 12), .ref (ad 13), .ref (ad 14), .ref (ad 19), .ref (ad 20), .int mm.2.1, .int mm.2.2.1, .int mm.2.2.2])), ((ad 1), .inl (cO, 4, .inr (.inr (.inr (.inr (kx_opsf ad)))))), ((ad 2), .inr (1, [.int ((ops 0).1), .int ((ops 0).2.1), .int ((ops 0).2.2.1), .int ((ops 0).2.2.2.1), .int ((ops 0).2.2.2.2.1), .int ((ops 0).2.2.2.2.2)])), ((ad 4), .inr (1, [.int ((ops 2).1), .int ((ops 2).2.1), .int ((ops 2).2.2.1), .int ((ops 2).2.2.2.1), .int ((ops 2).2.2.2.2.1), .int ((ops 2).2.2.2.2.2)])), ((ad 5), .inr (1, [.int ((ops 3).1), .int ((ops 3).2.1), .int ((ops 3).2.2.1), .int ((ops 3).2.2.2.1), .int ((ops 3).2.2.2.2.1), .int ((ops 3).2.2.2.2.2)]))]) (rest := []) hw [5] [0, 1, 2, 3, 4, 6, 7] rfl rfl (by decide) (by decide) (kx_runV S hw fc_RD_71 rfl 5 rfl [5] (by decide) rfl (c_Op_begin l D cI cZ cO (ad 3) (ops 1) 2 (-1) 0 H.size) rfl hl.1 rfl (Nat.le_of_ble_eq_true rfl) d_RD_sync_19 (by decide) (by decide)) (fun u4 H locs hp4 hw => ?_)
      obtain ⟨o4, rfl⟩ : ∃ z, z = u4 := ⟨_, rfl⟩
      have hw : kx_w D (kx_T cI cZ cO) A_ s_ [((ad 6), .inr (2, [.ref (ad 7), .int fl.2])), ((ad 7), .inl (cI, 4, .inl fl.1)), ((ad 0), .inr (0, [.int mm.1, .ref (ad 1), .ref (ad 6), .ref (ad 8), .ref (ad 10), .ref (ad 11), .ref (ad 12), .ref (ad 13), .ref (ad 14), .ref (ad 19), .ref (ad 20), .int mm.2.1, .int mm.2.2.1, .int mm.2.2.2])), ((ad 1), .inl (cO, 4, .inr (.inr (.inr (.inr (kx_opsf ad)))))), ((ad 2), .inr (1, [.int ((ops 0).1), .int ((ops 0).2.1), .int ((ops 0).2.2.1), .int ((ops 0).2.2.2.1), .int ((ops 0).2.2.2.2.1), .int ((ops 0).2.2.2.2.2)])), ((ad 4), .inr (1, [.int ((ops 2).1), .int ((ops 2).2.1), .int ((ops 2).2.2.1), .int ((ops 2).2.2.2.1), .int ((ops 2).2.2.2.2.1), .int ((ops 2).2.2.2.2.2)])), ((ad 5), .inr (1, [.int ((ops 3).1), .int ((ops 3).2.1), .int ((ops 3).2.2.1), .int ((ops 3).2.2.2.1), .int ((ops 3).2.2.2.2.1), .int ((ops 3).2.2.2.2.2)])), ((ad 3), .inr (1, [.int o4.1, .int o4.2.1, .int o4.2.2.1, .int o4.2.2.2.1, .int o4.2.2.2.2.1, .int o4.2.2.2.2.2]))] H locs := hw
      refine lv_aload_n hx hb d_RD_sync_22 rfl (lv_at hl 0 rfl) ?_
      refine kx_get S hw fg_RD_18 2 rfl rfl d_RD_sync_23 ?_
      refine lv_iload_n hx hb d_RD_sync_26 rfl (lv_at hl 1 rfl) ?_
      refine kx_call_v (wc := [((ad 6), .inr (2, [.ref (ad 7), .int fl.2])), ((ad 7), .inl (cI, 4, .inl fl.1))]) (wr := [((ad 0), .inr (0, [.int mm.1, .ref (ad 1), .ref (ad 6), .ref (ad 8), .ref (ad 10), .ref (ad 11), .ref (ad 12), .ref (ad 13), .ref (ad 14), .ref (ad 19), .ref (ad 20), .int mm.2.1, .int mm.2.2.1, .int mm.2.2.2])), ((ad 1), .inl (cO, 4, .inr (.inr (.inr (.inr (kx_opsf ad)))))), ((ad 2), .inr (1, [.int ((ops 0).1), .int ((ops 0).2.1), .int ((ops 0).2.2.1), .int ((ops 0).2.2.2.1), .int ((ops 0).2.2.2.2.1), .int ((ops 0).2.2.2.2.2)])), ((ad 4), .inr (1, [.int ((ops 2).1), .int ((ops 2).2.1), .int ((ops 2).2.2.1), .int ((ops 2).2.2.2.1), .int ((ops 2).2.2.2.2.1), .int ((ops 2).2.2.2.2.2)])), ((ad 5), .inr (1, [.int ((ops 3).1), .int ((ops 3).2.1), .int ((ops 3).2.2.1), .int ((ops 3).2.2.2.1), .int ((ops 3).2.2.2.2.1), .int ((ops 3).2.2.2.2.2)])), ((ad 3), .inr (1, [.int o4.1, .int o4.2.1, .int o4.2.2.1, .int o4.2.2.2.1, .int o4.2.2.2.2.1, .int o4.2.2.2.2.2]))]) (rest := []) hw [0, 1] [2, 3, 4, 5, 6, 7] rfl rfl (by decide) (by decide) (kx_runV S hw fc_RD_75 rfl 0 rfl [0, 1] (by decide) rfl (c_Ln_join l D cI cZ cO (ad 6) (ad 7) fl u (hj) H.size) rfl hl.1 rfl (Nat.le_of_ble_eq_true rfl) d_RD_sync_27 (by decide) (by decide)) (fun u5 H locs hp5 hw => ?_)
      obtain ⟨n5, rfl⟩ : ∃ z, z = u5 := ⟨_, rfl⟩
      have hw : kx_w D (kx_T cI cZ cO) A_ s_ [((ad 0), .inr (0, [.int mm.1, .ref (ad 1), .ref (ad 6), .ref (ad 8), .ref (ad 10), .ref (ad 11), .ref (ad 12), .ref (ad 13), .ref (ad 14), .ref (ad 19), .ref (ad 20), .int mm.2.1, .int mm.2.2.1, .int mm.2.2.2])), ((ad 1), .inl (cO, 4, .inr (.inr (.inr (.inr (kx_opsf ad)))))), ((ad 2), .inr (1, [.int ((ops 0).1), .int ((ops 0).2.1), .int ((ops 0).2.2.1), .int ((ops 0).2.2.2.1), .int ((ops 0).2.2.2.2.1), .int ((ops 0).2.2.2.2.2)])), ((ad 4), .inr (1, [.int ((ops 2).1), .int ((ops 2).2.1), .int ((ops 2).2.2.1), .int ((ops 2).2.2.2.1), .int ((ops 2).2.2.2.2.1), .int ((ops 2).2.2.2.2.2)])), ((ad 5), .inr (1, [.int ((ops 3).1), .int ((ops 3).2.1), .int ((ops 3).2.2.1), .int ((ops 3).2.2.2.1), .int ((ops 3).2.2.2.2.1), .int ((ops 3).2.2.2.2.2)])), ((ad 3), .inr (1, [.int o4.1, .int o4.2.1, .int o4.2.2.1, .int o4.2.2.2.1, .int o4.2.2.2.2.1, .int o4.2.2.2.2.2])), ((ad 6), .inr (2, [.ref (ad 7), .int n5.2])), ((ad 7), .inl (cI, 4, .inl n5.1))] H locs := hw
      refine lv_iconst (v := 1) hx hb d_RD_sync_30 (by decide) ?_
      exact kx_ret_z I rfl hw (Or.inr rfl) (va_up ops 1 o4, n5) ⟨(by simp only [f_RD_sync, ← hp1, if_neg h2, e3, ← hp4, ← hp5]), (Or.inr rfl)⟩ [0, 1, 2, 5, 3, 4, 6, 7] (by decide) rfl d_RD_sync_31
    · refine kx_aald S hw 3 2 rfl rfl (b := (ad 4)) (by rw [e3]; rfl) (l_isFree (hp1 ▸ h2)) d_RD_sync_15 ?_
      refine lv_iconst (v := 2) hx hb d_RD_sync_16 (by decide) ?_
      refine lv_iconst (v := (-1)) hx hb d_RD_sync_17 (by decide) ?_
      refine lv_iconst (v := 0) hx hb d_RD_sync_18 (by decide) ?_
      refine kx_call_v (wc := [((ad 4), .inr (1, [.int ((ops 2).1), .int ((ops 2).2.1), .int ((ops 2).2.2.1), .int ((ops 2).2.2.2.1), .int ((ops 2).2.2.2.2.1), .int ((ops 2).2.2.2.2.2)]))]) (wr := [((ad 6), .inr (2, [.ref (ad 7), .int fl.2])), ((ad 7), .inl (cI, 4, .inl fl.1)), ((ad 0), .inr (0, [.int mm.1, .ref (ad 1), .ref (ad 6), .ref (ad 8), .ref (ad 10), .ref (ad 11), .ref (ad 12), .ref (ad 13), .ref (ad 14), .ref (ad 19), .ref (ad 20), .int mm.2.1, .int mm.2.2.1, .int mm.2.2.2])), ((ad 1), .inl (cO, 4, .inr (.inr (.inr (.inr (kx_opsf ad)))))), ((ad 2), .inr (1, [.int ((ops 0).1), .int ((ops 0).2.1), .int ((ops 0).2.2.1), .int ((ops 0).2.2.2.1), .int ((ops 0).2.2.2.2.1), .int ((ops 0).2.2.2.2.2)])), ((ad 3), .inr (1, [.int ((ops 1).1), .int ((ops 1).2.1), .int ((ops 1).2.2.1), .int ((ops 1).2.2.2.1), .int ((ops 1).2.2.2.2.1), .int ((ops 1).2.2.2.2.2)])), ((ad 5), .inr (1, [.int ((ops 3).1), .int ((ops 3).2.1), .int ((ops 3).2.2.1), .int ((ops 3).2.2.2.1), .int ((ops 3).2.2.2.2.1), .int ((ops 3).2.2.2.2.2)]))]) (rest := []) hw [6] [0, 1, 2, 3, 4, 5, 7] rfl rfl (by decide) (by decide) (kx_runV S hw fc_RD_71 rfl 6 rfl [6] (by decide) rfl (c_Op_begin l D cI cZ cO (ad 4) (ops 2) 2 (-1) 0 H.size) rfl hl.1 rfl (Nat.le_of_ble_eq_true rfl) d_RD_sync_19 (by decide) (by decide)) (fun u4 H locs hp4 hw => ?_)
      obtain ⟨o4, rfl⟩ : ∃ z, z = u4 := ⟨_, rfl⟩
      have hw : kx_w D (kx_T cI cZ cO) A_ s_ [((ad 6), .inr (2, [.ref (ad 7), .int fl.2])), ((ad 7), .inl (cI, 4, .inl fl.1)), ((ad 0), .inr (0, [.int mm.1, .ref (ad 1), .ref (ad 6), .ref (ad 8), .ref (ad 10), .ref (ad 11), .ref (ad 12), .ref (ad 13), .ref (ad 14), .ref (ad 19), .ref (ad 20), .int mm.2.1, .int mm.2.2.1, .int mm.2.2.2])), ((ad 1), .inl (cO, 4, .inr (.inr (.inr (.inr (kx_opsf ad)))))), ((ad 2), .inr (1, [.int ((ops 0).1), .int ((ops 0).2.1), .int ((ops 0).2.2.1), .int ((ops 0).2.2.2.1), .int ((ops 0).2.2.2.2.1), .int ((ops 0).2.2.2.2.2)])), ((ad 3), .inr (1, [.int ((ops 1).1), .int ((ops 1).2.1), .int ((ops 1).2.2.1), .int ((ops 1).2.2.2.1), .int ((ops 1).2.2.2.2.1), .int ((ops 1).2.2.2.2.2)])), ((ad 5), .inr (1, [.int ((ops 3).1), .int ((ops 3).2.1), .int ((ops 3).2.2.1), .int ((ops 3).2.2.2.1), .int ((ops 3).2.2.2.2.1), .int ((ops 3).2.2.2.2.2)])), ((ad 4), .inr (1, [.int o4.1, .int o4.2.1, .int o4.2.2.1, .int o4.2.2.2.1, .int o4.2.2.2.2.1, .int o4.2.2.2.2.2]))] H locs := hw
      refine lv_aload_n hx hb d_RD_sync_22 rfl (lv_at hl 0 rfl) ?_
      refine kx_get S hw fg_RD_18 2 rfl rfl d_RD_sync_23 ?_
      refine lv_iload_n hx hb d_RD_sync_26 rfl (lv_at hl 1 rfl) ?_
      refine kx_call_v (wc := [((ad 6), .inr (2, [.ref (ad 7), .int fl.2])), ((ad 7), .inl (cI, 4, .inl fl.1))]) (wr := [((ad 0), .inr (0, [.int mm.1, .ref (ad 1), .ref (ad 6), .ref (ad 8), .ref (ad 10), .ref (ad 11), .ref (ad 12), .ref (ad 13), .ref (ad 14), .ref (ad 19), .ref (ad 20), .int mm.2.1, .int mm.2.2.1, .int mm.2.2.2])), ((ad 1), .inl (cO, 4, .inr (.inr (.inr (.inr (kx_opsf ad)))))), ((ad 2), .inr (1, [.int ((ops 0).1), .int ((ops 0).2.1), .int ((ops 0).2.2.1), .int ((ops 0).2.2.2.1), .int ((ops 0).2.2.2.2.1), .int ((ops 0).2.2.2.2.2)])), ((ad 3), .inr (1, [.int ((ops 1).1), .int ((ops 1).2.1), .int ((ops 1).2.2.1), .int ((ops 1).2.2.2.1), .int ((ops 1).2.2.2.2.1), .int ((ops 1).2.2.2.2.2)])), ((ad 5), .inr (1, [.int ((ops 3).1), .int ((ops 3).2.1), .int ((ops 3).2.2.1), .int ((ops 3).2.2.2.1), .int ((ops 3).2.2.2.2.1), .int ((ops 3).2.2.2.2.2)])), ((ad 4), .inr (1, [.int o4.1, .int o4.2.1, .int o4.2.2.1, .int o4.2.2.2.1, .int o4.2.2.2.2.1, .int o4.2.2.2.2.2]))]) (rest := []) hw [0, 1] [2, 3, 4, 5, 6, 7] rfl rfl (by decide) (by decide) (kx_runV S hw fc_RD_75 rfl 0 rfl [0, 1] (by decide) rfl (c_Ln_join l D cI cZ cO (ad 6) (ad 7) fl u (hj) H.size) rfl hl.1 rfl (Nat.le_of_ble_eq_true rfl) d_RD_sync_27 (by decide) (by decide)) (fun u5 H locs hp5 hw => ?_)
      obtain ⟨n5, rfl⟩ : ∃ z, z = u5 := ⟨_, rfl⟩
      have hw : kx_w D (kx_T cI cZ cO) A_ s_ [((ad 0), .inr (0, [.int mm.1, .ref (ad 1), .ref (ad 6), .ref (ad 8), .ref (ad 10), .ref (ad 11), .ref (ad 12), .ref (ad 13), .ref (ad 14), .ref (ad 19), .ref (ad 20), .int mm.2.1, .int mm.2.2.1, .int mm.2.2.2])), ((ad 1), .inl (cO, 4, .inr (.inr (.inr (.inr (kx_opsf ad)))))), ((ad 2), .inr (1, [.int ((ops 0).1), .int ((ops 0).2.1), .int ((ops 0).2.2.1), .int ((ops 0).2.2.2.1), .int ((ops 0).2.2.2.2.1), .int ((ops 0).2.2.2.2.2)])), ((ad 3), .inr (1, [.int ((ops 1).1), .int ((ops 1).2.1), .int ((ops 1).2.2.1), .int ((ops 1).2.2.2.1), .int ((ops 1).2.2.2.2.1), .int ((ops 1).2.2.2.2.2)])), ((ad 5), .inr (1, [.int ((ops 3).1), .int ((ops 3).2.1), .int ((ops 3).2.2.1), .int ((ops 3).2.2.2.1), .int ((ops 3).2.2.2.2.1), .int ((ops 3).2.2.2.2.2)])), ((ad 4), .inr (1, [.int o4.1, .int o4.2.1, .int o4.2.2.1, .int o4.2.2.2.1, .int o4.2.2.2.2.1, .int o4.2.2.2.2.2])), ((ad 6), .inr (2, [.ref (ad 7), .int n5.2])), ((ad 7), .inl (cI, 4, .inl n5.1))] H locs := hw
      refine lv_iconst (v := 1) hx hb d_RD_sync_30 (by decide) ?_
      exact kx_ret_z I rfl hw (Or.inr rfl) (va_up ops 2 o4, n5) ⟨(by simp only [f_RD_sync, ← hp1, if_neg h2, e3, ← hp4, ← hp5]), (Or.inr rfl)⟩ [0, 1, 2, 3, 5, 4, 6, 7] (by decide) rfl d_RD_sync_31
    · refine kx_aald S hw 3 2 rfl rfl (b := (ad 5)) (by rw [e3]; rfl) (l_isFree (hp1 ▸ h2)) d_RD_sync_15 ?_
      refine lv_iconst (v := 2) hx hb d_RD_sync_16 (by decide) ?_
      refine lv_iconst (v := (-1)) hx hb d_RD_sync_17 (by decide) ?_
      refine lv_iconst (v := 0) hx hb d_RD_sync_18 (by decide) ?_
      refine kx_call_v (wc := [((ad 5), .inr (1, [.int ((ops 3).1), .int ((ops 3).2.1), .int ((ops 3).2.2.1), .int ((ops 3).2.2.2.1), .int ((ops 3).2.2.2.2.1), .int ((ops 3).2.2.2.2.2)]))]) (wr := [((ad 6), .inr (2, [.ref (ad 7), .int fl.2])), ((ad 7), .inl (cI, 4, .inl fl.1)), ((ad 0), .inr (0, [.int mm.1, .ref (ad 1), .ref (ad 6), .ref (ad 8), .ref (ad 10), .ref (ad 11), .ref (ad 12), .ref (ad 13), .ref (ad 14), .ref (ad 19), .ref (ad 20), .int mm.2.1, .int mm.2.2.1, .int mm.2.2.2])), ((ad 1), .inl (cO, 4, .inr (.inr (.inr (.inr (kx_opsf ad)))))), ((ad 2), .inr (1, [.int ((ops 0).1), .int ((ops 0).2.1), .int ((ops 0).2.2.1), .int ((ops 0).2.2.2.1), .int ((ops 0).2.2.2.2.1), .int ((ops 0).2.2.2.2.2)])), ((ad 3), .inr (1, [.int ((ops 1).1), .int ((ops 1).2.1), .int ((ops 1).2.2.1), .int ((ops 1).2.2.2.1), .int ((ops 1).2.2.2.2.1), .int ((ops 1).2.2.2.2.2)])), ((ad 4), .inr (1, [.int ((ops 2).1), .int ((ops 2).2.1), .int ((ops 2).2.2.1), .int ((ops 2).2.2.2.1), .int ((ops 2).2.2.2.2.1), .int ((ops 2).2.2.2.2.2)]))]) (rest := []) hw [7] [0, 1, 2, 3, 4, 5, 6] rfl rfl (by decide) (by decide) (kx_runV S hw fc_RD_71 rfl 7 rfl [7] (by decide) rfl (c_Op_begin l D cI cZ cO (ad 5) (ops 3) 2 (-1) 0 H.size) rfl hl.1 rfl (Nat.le_of_ble_eq_true rfl) d_RD_sync_19 (by decide) (by decide)) (fun u4 H locs hp4 hw => ?_)
      obtain ⟨o4, rfl⟩ : ∃ z, z = u4 := ⟨_, rfl⟩
      have hw : kx_w D (kx_T cI cZ cO) A_ s_ [((ad 6), .inr (2, [.ref (ad 7), .int fl.2])), ((ad 7), .inl (cI, 4, .inl fl.1)), ((ad 0), .inr (0, [.int mm.1, .ref (ad 1), .ref (ad 6), .ref (ad 8), .ref (ad 10), .ref (ad 11), .ref (ad 12), .ref (ad 13), .ref (ad 14), .ref (ad 19), .ref (ad 20), .int mm.2.1, .int mm.2.2.1, .int mm.2.2.2])), ((ad 1), .inl (cO, 4, .inr (.inr (.inr (.inr (kx_opsf ad)))))), ((ad 2), .inr (1, [.int ((ops 0).1), .int ((ops 0).2.1), .int ((ops 0).2.2.1), .int ((ops 0).2.2.2.1), .int ((ops 0).2.2.2.2.1), .int ((ops 0).2.2.2.2.2)])), ((ad 3), .inr (1, [.int ((ops 1).1), .int ((ops 1).2.1), .int ((ops 1).2.2.1), .int ((ops 1).2.2.2.1), .int ((ops 1).2.2.2.2.1), .int ((ops 1).2.2.2.2.2)])), ((ad 4), .inr (1, [.int ((ops 2).1), .int ((ops 2).2.1), .int ((ops 2).2.2.1), .int ((ops 2).2.2.2.1), .int ((ops 2).2.2.2.2.1), .int ((ops 2).2.2.2.2.2)])), ((ad 5), .inr (1, [.int o4.1, .int o4.2.1, .int o4.2.2.1, .int o4.2.2.2.1, .int o4.2.2.2.2.1, .int o4.2.2.2.2.2]))] H locs := hw
      refine lv_aload_n hx hb d_RD_sync_22 rfl (lv_at hl 0 rfl) ?_
      refine kx_get S hw fg_RD_18 2 rfl rfl d_RD_sync_23 ?_
      refine lv_iload_n hx hb d_RD_sync_26 rfl (lv_at hl 1 rfl) ?_
      refine kx_call_v (wc := [((ad 6), .inr (2, [.ref (ad 7), .int fl.2])), ((ad 7), .inl (cI, 4, .inl fl.1))]) (wr := [((ad 0), .inr (0, [.int mm.1, .ref (ad 1), .ref (ad 6), .ref (ad 8), .ref (ad 10), .ref (ad 11), .ref (ad 12), .ref (ad 13), .ref (ad 14), .ref (ad 19), .ref (ad 20), .int mm.2.1, .int mm.2.2.1, .int mm.2.2.2])), ((ad 1), .inl (cO, 4, .inr (.inr (.inr (.inr (kx_opsf ad)))))), ((ad 2), .inr (1, [.int ((ops 0).1), .int ((ops 0).2.1), .int ((ops 0).2.2.1), .int ((ops 0).2.2.2.1), .int ((ops 0).2.2.2.2.1), .int ((ops 0).2.2.2.2.2)])), ((ad 3), .inr (1, [.int ((ops 1).1), .int ((ops 1).2.1), .int ((ops 1).2.2.1), .int ((ops 1).2.2.2.1), .int ((ops 1).2.2.2.2.1), .int ((ops 1).2.2.2.2.2)])), ((ad 4), .inr (1, [.int ((ops 2).1), .int ((ops 2).2.1), .int ((ops 2).2.2.1), .int ((ops 2).2.2.2.1), .int ((ops 2).2.2.2.2.1), .int ((ops 2).2.2.2.2.2)])), ((ad 5), .inr (1, [.int o4.1, .int o4.2.1, .int o4.2.2.1, .int o4.2.2.2.1, .int o4.2.2.2.2.1, .int o4.2.2.2.2.2]))]) (rest := []) hw [0, 1] [2, 3, 4, 5, 6, 7] rfl rfl (by decide) (by decide) (kx_runV S hw fc_RD_75 rfl 0 rfl [0, 1] (by decide) rfl (c_Ln_join l D cI cZ cO (ad 6) (ad 7) fl u (hj) H.size) rfl hl.1 rfl (Nat.le_of_ble_eq_true rfl) d_RD_sync_27 (by decide) (by decide)) (fun u5 H locs hp5 hw => ?_)
      obtain ⟨n5, rfl⟩ : ∃ z, z = u5 := ⟨_, rfl⟩
      have hw : kx_w D (kx_T cI cZ cO) A_ s_ [((ad 0), .inr (0, [.int mm.1, .ref (ad 1), .ref (ad 6), .ref (ad 8), .ref (ad 10), .ref (ad 11), .ref (ad 12), .ref (ad 13), .ref (ad 14), .ref (ad 19), .ref (ad 20), .int mm.2.1, .int mm.2.2.1, .int mm.2.2.2])), ((ad 1), .inl (cO, 4, .inr (.inr (.inr (.inr (kx_opsf ad)))))), ((ad 2), .inr (1, [.int ((ops 0).1), .int ((ops 0).2.1), .int ((ops 0).2.2.1), .int ((ops 0).2.2.2.1), .int ((ops 0).2.2.2.2.1), .int ((ops 0).2.2.2.2.2)])), ((ad 3), .inr (1, [.int ((ops 1).1), .int ((ops 1).2.1), .int ((ops 1).2.2.1), .int ((ops 1).2.2.2.1), .int ((ops 1).2.2.2.2.1), .int ((ops 1).2.2.2.2.2)])), ((ad 4), .inr (1, [.int ((ops 2).1), .int ((ops 2).2.1), .int ((ops 2).2.2.1), .int ((ops 2).2.2.2.1), .int ((ops 2).2.2.2.2.1), .int ((ops 2).2.2.2.2.2)])), ((ad 5), .inr (1, [.int o4.1, .int o4.2.1, .int o4.2.2.1, .int o4.2.2.2.1, .int o4.2.2.2.2.1, .int o4.2.2.2.2.2])), ((ad 6), .inr (2, [.ref (ad 7), .int n5.2])), ((ad 7), .inl (cI, 4, .inl n5.1))] H locs := hw
      refine lv_iconst (v := 1) hx hb d_RD_sync_30 (by decide) ?_
      exact kx_ret_z I rfl hw (Or.inr rfl) (va_up ops 3 o4, n5) ⟨(by simp only [f_RD_sync, ← hp1, if_neg h2, e3, ← hp4, ← hp5]), (Or.inr rfl)⟩ [0, 1, 2, 3, 4, 5, 6, 7] (by decide) rfl d_RD_sync_31
  · refine lv_iconst (v := 0) hx hb d_RD_sync_8 (by decide) ?_
    exact kx_ret_z I rfl hw (Or.inl rfl) (ops, fl) ⟨(by simp only [f_RD_sync, ← hp1, if_pos h2]), (Or.inl rfl)⟩ [2, 3, 4, 5, 6, 7, 0, 1] (by decide) rfl d_RD_sync_9
def f_RD_print (mm : kt_M) (ops : (Nat → kt_Op)) (tl : kt_Ln) (u : Int32) (c : Int32) : Int32 × (Nat → kt_Op) × kt_Ln :=
  match f_RD_isFree mm ops u with
  | r1 => if r1 = 0 then (0, ops, tl)
    else if c < 32 then (0, ops, tl)
    else if c ≤ 126 then (match f_Op_begin (ops u.toNatClampNeg) 3 (-1) c with
      | o6 => match f_Ln_join tl u with
        | n7 => (1, va_up ops u.toNatClampNeg o6, n7))
    else (0, ops, tl)
set_option maxHeartbeats 4000000 in
set_option maxRecDepth 100000 in
theorem c_RD_print (l : Launch) (D : va_G) (cI cZ cO : ClassId) (ad : Nat → Nat) (mm : kt_M) (ops : (Nat → kt_Op)) (tl : kt_Ln) (u : Int32) (c : Int32) (hj : 0 ≤ tl.2) : kx_Ci (S := (Nat → kt_Op) × kt_Ln) l y_RD_print b_RD_print 3 (some .boolean) 2 0 0 D (kx_T cI cZ cO) [.ref (ad 0), .int u, .int c] [((ad 0), .inr (0, [.int mm.1, .ref (ad 1), .ref (ad 6), .ref (ad 8), .ref (ad 10), .ref (ad 11), .ref (ad 12), .ref (ad 13), .ref (ad 14), .ref (ad 19), .ref (ad 20), .int mm.2.1, .int mm.2.2.1, .int mm.2.2.2])), ((ad 1), .inl (cO, 4, .inr (.inr (.inr (.inr (kx_opsf ad)))))), ((ad 2), .inr (1, [.int ((ops 0).1), .int ((ops 0).2.1), .int ((ops 0).2.2.1), .int ((ops 0).2.2.2.1), .int ((ops 0).2.2.2.2.1), .int ((ops 0).2.2.2.2.2)])), ((ad 3), .inr (1, [.int ((ops 1).1), .int ((ops 1).2.1), .int ((ops 1).2.2.1), .int ((ops 1).2.2.2.1), .int ((ops 1).2.2.2.2.1), .int ((ops 1).2.2.2.2.2)])), ((ad 4), .inr (1, [.int ((ops 2).1), .int ((ops 2).2.1), .int ((ops 2).2.2.1), .int ((ops 2).2.2.2.1), .int ((ops 2).2.2.2.2.1), .int ((ops 2).2.2.2.2.2)])), ((ad 5), .inr (1, [.int ((ops 3).1), .int ((ops 3).2.1), .int ((ops 3).2.2.1), .int ((ops 3).2.2.2.1), .int ((ops 3).2.2.2.2.1), .int ((ops 3).2.2.2.2.2)])), ((ad 8), .inr (2, [.ref (ad 9), .int tl.2])), ((ad 9), .inl (cI, 4, .inl tl.1))] (fun rr zz => (rr, zz) = f_RD_print mm ops tl u c ∧ kx_b rr) (fun zz => [((ad 0), .inr (0, [.int mm.1, .ref (ad 1), .ref (ad 6), .ref (ad 8), .ref (ad 10), .ref (ad 11), .ref (ad 12), .ref (ad 13), .ref (ad 14), .ref (ad 19), .ref (ad 20), .int mm.2.1, .int mm.2.2.1, .int mm.2.2.2])), ((ad 1), .inl (cO, 4, .inr (.inr (.inr (.inr (kx_opsf ad)))))), ((ad 2), .inr (1, [.int ((zz.1 0).1), .int ((zz.1 0).2.1), .int ((zz.1 0).2.2.1), .int ((zz.1 0).2.2.2.1), .int ((zz.1 0).2.2.2.2.1), .int ((zz.1 0).2.2.2.2.2)])), ((ad 3), .inr (1, [.int ((zz.1 1).1), .int ((zz.1 1).2.1), .int ((zz.1 1).2.2.1), .int ((zz.1 1).2.2.2.1), .int ((zz.1 1).2.2.2.2.1), .int ((zz.1 1).2.2.2.2.2)])), ((ad 4), .inr (1, [.int ((zz.1 2).1), .int ((zz.1 2).2.1), .int ((zz.1 2).2.2.1), .int ((zz.1 2).2.2.2.1), .int ((zz.1 2).2.2.2.2.1), .int ((zz.1 2).2.2.2.2.2)])), ((ad 5), .inr (1, [.int ((zz.1 3).1), .int ((zz.1 3).2.1), .int ((zz.1 3).2.2.1), .int ((zz.1 3).2.2.2.1), .int ((zz.1 3).2.2.2.2.1), .int ((zz.1 3).2.2.2.2.2)])), ((ad 8), .inr (2, [.ref (ad 9), .int zz.2.2])), ((ad 9), .inl (cI, 4, .inl zz.2.1))]) := by
  refine kx_enter_i (by decide) (Nat.le_of_ble_eq_true rfl) ?_
  intro p_ e_ s_ m_ below_ meth_ c_ ls A_ H I hl hw
  have S := I.1
  have hx := S.1
  have hb := S.2.1
  have hl : lv_has ls 3 [(0, .ref (ad 0)), (1, .int u), (2, .int c)] := hl
  refine lv_aload_n hx hb d_RD_print_0 rfl (lv_at hl 0 rfl) ?_
  refine lv_iload_n hx hb d_RD_print_1 rfl (lv_at hl 1 rfl) ?_
  refine kx_call_i (wc := [((ad 0), .inr (0, [.int mm.1, .ref (ad 1), .ref (ad 6), .ref (ad 8), .ref (ad 10), .ref (ad 11), .ref (ad 12), .ref (ad 13), .ref (ad 14), .ref (ad 19), .ref (ad 20), .int mm.2.1, .int mm.2.2.1, .int mm.2.2.2])), ((ad 1), .inl (cO, 4, .inr (.inr (.inr (.inr (kx_opsf ad)))))), ((ad 2), .inr (1, [.int ((ops 0).1), .int ((ops 0).2.1), .int ((ops 0).2.2.1), .int ((ops 0).2.2.2.1), .int ((ops 0).2.2.2.2.1), .int ((ops 0).2.2.2.2.2)])), ((ad 3), .inr (1, [.int ((ops 1).1), .int ((ops 1).2.1), .int ((ops 1).2.2.1), .int ((ops 1).2.2.2.1), .int ((ops 1).2.2.2.2.1), .int ((ops 1).2.2.2.2.2)])), ((ad 4), .inr (1, [.int ((ops 2).1), .int ((ops 2).2.1), .int ((ops 2).2.2.1), .int ((ops 2).2.2.2.1), .int ((ops 2).2.2.2.2.1), .int ((ops 2).2.2.2.2.2)])), ((ad 5), .inr (1, [.int ((ops 3).1), .int ((ops 3).2.1), .int ((ops 3).2.2.1), .int ((ops 3).2.2.2.1), .int ((ops 3).2.2.2.2.1), .int ((ops 3).2.2.2.2.2)]))]) (wr := [((ad 8), .inr (2, [.ref (ad 9), .int tl.2])), ((ad 9), .inl (cI, 4, .inl tl.1))]) (rest := []) hw [0, 1, 2, 3, 4, 5] [6, 7] rfl rfl (by decide) (by decide) (kx_runV S hw fc_RD_64 rfl 0 rfl [0, 1, 2, 3, 4, 5] (by decide) rfl (c_RD_isFree l D cI cZ cO ad mm ops u H.size) rfl hl.1 rfl (Nat.le_of_ble_eq_true rfl) d_RD_print_2 (by decide) (by decide)) (fun r1 u1 H locs hp1 hw => ?_)
  obtain ⟨hp1, hb1⟩ := hp1
  have hw : kx_w D (kx_T cI cZ cO) A_ s_ [((ad 8), .inr (2, [.ref (ad 9), .int tl.2])), ((ad 9), .inl (cI, 4, .inl tl.1)), ((ad 0), .inr (0, [.int mm.1, .ref (ad 1), .ref (ad 6), .ref (ad 8), .ref (ad 10), .ref (ad 11), .ref (ad 12), .ref (ad 13), .ref (ad 14), .ref (ad 19), .ref (ad 20), .int mm.2.1, .int mm.2.2.1, .int mm.2.2.2])), ((ad 1), .inl (cO, 4, .inr (.inr (.inr (.inr (kx_opsf ad)))))), ((ad 2), .inr (1, [.int ((ops 0).1), .int ((ops 0).2.1), .int ((ops 0).2.2.1), .int ((ops 0).2.2.2.1), .int ((ops 0).2.2.2.2.1), .int ((ops 0).2.2.2.2.2)])), ((ad 3), .inr (1, [.int ((ops 1).1), .int ((ops 1).2.1), .int ((ops 1).2.2.1), .int ((ops 1).2.2.2.1), .int ((ops 1).2.2.2.2.1), .int ((ops 1).2.2.2.2.2)])), ((ad 4), .inr (1, [.int ((ops 2).1), .int ((ops 2).2.1), .int ((ops 2).2.2.1), .int ((ops 2).2.2.2.1), .int ((ops 2).2.2.2.2.1), .int ((ops 2).2.2.2.2.2)])), ((ad 5), .inr (1, [.int ((ops 3).1), .int ((ops 3).2.1), .int ((ops 3).2.2.1), .int ((ops 3).2.2.2.1), .int ((ops 3).2.2.2.2.1), .int ((ops 3).2.2.2.2.2)]))] H locs := hw
  refine lv_if_eq (tgt := 20) hx hb d_RD_print_5 (by decide) (fun h2 => ?_) (fun h2 => ?_)
  · refine lv_iconst (v := 0) hx hb d_RD_print_20 (by decide) ?_
    exact kx_ret_z I rfl hw (Or.inl rfl) (ops, tl) ⟨(by simp only [f_RD_print, ← hp1, if_pos h2]), (Or.inl rfl)⟩ [2, 3, 4, 5, 6, 7, 0, 1] (by decide) rfl d_RD_print_21
  · refine lv_iload_n hx hb d_RD_print_8 rfl (lv_at hl 2 rfl) ?_
    refine lv_bipush (v := 32) hx hb d_RD_print_9 (by decide) ?_
    refine lv_icmp_lt (tgt := 20) hx hb d_RD_print_11 (by decide) (fun h3 => ?_) (fun h3 => ?_)
    · refine lv_iconst (v := 0) hx hb d_RD_print_20 (by decide) ?_
      exact kx_ret_z I rfl hw (Or.inl rfl) (ops, tl) ⟨(by simp only [f_RD_print, ← hp1, if_neg h2, if_pos h3]), (Or.inl rfl)⟩ [2, 3, 4, 5, 6, 7, 0, 1] (by decide) rfl d_RD_print_21
    · refine lv_iload_n hx hb d_RD_print_14 rfl (lv_at hl 2 rfl) ?_
      refine lv_bipush (v := 126) hx hb d_RD_print_15 (by decide) ?_
      refine lv_icmp_le (tgt := 22) hx hb d_RD_print_17 (by decide) (fun h4 => ?_) (fun h4 => ?_)
      · refine lv_aload_n hx hb d_RD_print_22 rfl (lv_at hl 0 rfl) ?_
        refine kx_get S hw fg_RD_11 2 rfl rfl d_RD_print_23 ?_
        refine lv_iload_n hx hb d_RD_print_26 rfl (lv_at hl 1 rfl) ?_
        rcases kx_c4 (i := u) (l_isFree (hp1 ▸ h2)) with e5 | e5 | e5 | e5
        · refine kx_aald S hw 3 2 rfl rfl (b := (ad 2)) (by rw [e5]; rfl) (l_isFree (hp1 ▸ h2)) d_RD_print_27 ?_
          refine lv_iconst (v := 3) hx hb d_RD_print_28 (by decide) ?_
          refine lv_iconst (v := (-1)) hx hb d_RD_print_29 (by decide) ?_
          refine lv_iload_n hx hb d_RD_print_30 rfl (lv_at hl 2 rfl) ?_
          refine kx_call_v (wc := [((ad 2), .inr (1, [.int ((ops 0).1), .int ((ops 0).2.1), .int ((ops 0).2.2.1), .int ((ops 0).2.2.2.1), .int ((ops 0).2.2.2.2.1), .int ((ops 0).2.2.2.2.2)]))]) (wr := [((ad 8), .inr (2, [.ref (ad 9), .int tl.2])), ((ad 9), .inl (cI, 4, .inl tl.1)), ((ad 0), .inr (0, [.int mm.1, .ref (ad 1), .ref (ad 6), .ref (ad 8), .ref (ad 10), .ref (ad 11), .ref (ad 12), .ref (ad 13), .ref (ad 14), .ref (ad 19), .ref (ad 20), .int mm.2.1, .int mm.2.2.1, .int mm.2.2.2])), ((ad 1), .inl (cO, 4, .inr (.inr (.inr (.inr (kx_opsf ad)))))), ((ad 3), .inr (1, [.int ((ops 1).1), .int ((ops 1).2.1), .int ((ops 1).2.2.1), .int ((ops 1).2.2.2.1), .int ((ops 1).2.2.2.2.1), .int ((ops 1).2.2.2.2.2)])), ((ad 4), .inr (1, [.int ((ops 2).1), .int ((ops 2).2.1), .int ((ops 2).2.2.1), .int ((ops 2).2.2.2.1), .int ((ops 2).2.2.2.2.1), .int ((ops 2).2.2.2.2.2)])), ((ad 5), .inr (1, [.int ((ops 3).1), .int ((ops 3).2.1), .int ((ops 3).2.2.1), .int ((ops 3).2.2.2.1), .int ((ops 3).2.2.2.2.1), .int ((ops 3).2.2.2.2.2)]))]) (rest := []) hw [4] [0, 1, 2, 3, 5, 6, 7] rfl rfl (by decide) (by decide) (kx_runV S hw fc_RD_71 rfl 4 rfl [4] (by decide) rfl (c_Op_begin l D cI cZ cO (ad 2) (ops 0) 3 (-1) c H.size) rfl hl.1 rfl (Nat.le_of_ble_eq_true rfl) d_RD_print_31 (by decide) (by decide)) (fun u6 H locs hp6 hw => ?_)
          obtain ⟨o6, rfl⟩ : ∃ z, z = u6 := ⟨_, rfl⟩
          have hw : kx_w D (kx_T cI cZ cO) A_ s_ [((ad 8), .inr (2, [.ref (ad 9), .int tl.2])), ((ad 9), .inl (cI, 4, .inl tl.1)), ((ad 0), .inr (0, [.int mm.1, .ref (ad 1), .ref (ad 6), .ref (ad 8), .ref (ad 10), .ref (ad 11), .ref (ad 12), .ref (ad 13), .ref (ad 14), .ref (ad 19), .ref (ad 20), .int mm.2.1, .int mm.2.2.1, .int mm.2.2.2])), ((ad 1), .inl (cO, 4, .inr (.inr (.inr (.inr (kx_opsf ad)))))), ((ad 3), .inr (1, [.int ((ops 1).1), .int ((ops 1).2.1), .int ((ops 1).2.2.1), .int ((ops 1).2.2.2.1), .int ((ops 1).2.2.2.2.1), .int ((ops 1).2.2.2.2.2)])), ((ad 4), .inr (1, [.int ((ops 2).1), .int ((ops 2).2.1), .int ((ops 2).2.2.1), .int ((ops 2).2.2.2.1), .int ((ops 2).2.2.2.2.1), .int ((ops 2).2.2.2.2.2)])), ((ad 5), .inr (1, [.int ((ops 3).1), .int ((ops 3).2.1), .int ((ops 3).2.2.1), .int ((ops 3).2.2.2.1), .int ((ops 3).2.2.2.2.1), .int ((ops 3).2.2.2.2.2)])), ((ad 2), .inr (1, [.int o6.1, .int o6.2.1, .int o6.2.2.1, .int o6.2.2.2.1, .int o6.2.2.2.2.1, .int o6.2.2.2.2.2]))] H locs := hw
          refine lv_aload_n hx hb d_RD_print_34 rfl (lv_at hl 0 rfl) ?_
          refine kx_get S hw fg_RD_22 2 rfl rfl d_RD_print_35 ?_
          refine lv_iload_n hx hb d_RD_print_38 rfl (lv_at hl 1 rfl) ?_
          refine kx_call_v (wc := [((ad 8), .inr (2, [.ref (ad 9), .int tl.2])), ((ad 9), .inl (cI, 4, .inl tl.1))]) (wr := [((ad 0), .inr (0, [.int mm.1, .ref (ad 1), .ref (ad 6), .ref (ad 8), .ref (ad 10), .ref (ad 11), .ref (ad 12), .ref (ad 13), .ref (ad 14), .ref (ad 19), .ref (ad 20), .int mm.2.1, .int mm.2.2.1, .int mm.2.2.2])), ((ad 1), .inl (cO, 4, .inr (.inr (.inr (.inr (kx_opsf ad)))))), ((ad 3), .inr (1, [.int ((ops 1).1), .int ((ops 1).2.1), .int ((ops 1).2.2.1), .int ((ops 1).2.2.2.1), .int ((ops 1).2.2.2.2.1), .int ((ops 1).2.2.2.2.2)])), ((ad 4), .inr (1, [.int ((ops 2).1), .int ((ops 2).2.1), .int ((ops 2).2.2.1), .int ((ops 2).2.2.2.1), .int ((ops 2).2.2.2.2.1), .int ((ops 2).2.2.2.2.2)])), ((ad 5), .inr (1, [.int ((ops 3).1), .int ((ops 3).2.1), .int ((ops 3).2.2.1), .int ((ops 3).2.2.2.1), .int ((ops 3).2.2.2.2.1), .int ((ops 3).2.2.2.2.2)])), ((ad 2), .inr (1, [.int o6.1, .int o6.2.1, .int o6.2.2.1, .int o6.2.2.2.1, .int o6.2.2.2.2.1, .int o6.2.2.2.2.2]))]) (rest := []) hw [0, 1] [2, 3, 4, 5, 6, 7] rfl rfl (by decide) (by decide) (kx_runV S hw fc_RD_75 rfl 0 rfl [0, 1] (by decide) rfl (c_Ln_join l D cI cZ cO (ad 8) (ad 9) tl u (hj) H.size) rfl hl.1 rfl (Nat.le_of_ble_eq_true rfl) d_RD_print_39 (by decide) (by decide)) (fun u7 H locs hp7 hw => ?_)
          obtain ⟨n7, rfl⟩ : ∃ z, z = u7 := ⟨_, rfl⟩
          have hw : kx_w D (kx_T cI cZ cO) A_ s_ [((ad 0), .inr (0, [.int mm.1, .ref (ad 1), .ref (ad 6), .ref (ad 8), .ref (ad 10), .ref (ad 11), .ref (ad 12), .ref (ad 13), .ref (ad 14), .ref (ad 19), .ref (ad 20), .int mm.2.1, .int mm.2.2.1, .int mm.2.2.2])), ((ad 1), .inl (cO, 4, .inr (.inr (.inr (.inr (kx_opsf ad)))))), ((ad 3), .inr (1, [.int ((ops 1).1), .int ((ops 1).2.1), .int ((ops 1).2.2.1), .int ((ops 1).2.2.2.1), .int ((ops 1).2.2.2.2.1), .int ((ops 1).2.2.2.2.2)])), ((ad 4), .inr (1, [.int ((ops 2).1), .int ((ops 2).2.1), .int ((ops 2).2.2.1), .int ((ops 2).2.2.2.1), .int ((ops 2).2.2.2.2.1), .int ((ops 2).2.2.2.2.2)])), ((ad 5), .inr (1, [.int ((ops 3).1), .int ((ops 3).2.1), .int ((ops 3).2.2.1), .int ((ops 3).2.2.2.1), .int ((ops 3).2.2.2.2.1), .int ((ops 3).2.2.2.2.2)])), ((ad 2), .inr (1, [.int o6.1, .int o6.2.1, .int o6.2.2.1, .int o6.2.2.2.1, .int o6.2.2.2.2.1, .int o6.2.2.2.2.2])), ((ad 8), .inr (2, [.ref (ad 9), .int n7.2])), ((ad 9), .inl (cI, 4, .inl n7.1))] H locs := hw
          refine lv_iconst (v := 1) hx hb d_RD_print_42 (by decide) ?_
          exact kx_ret_z I rfl hw (Or.inr rfl) (va_up ops 0 o6, n7) ⟨(by simp only [f_RD_print, ← hp1, if_neg h2, if_neg h3, if_pos h4, e5, ← hp6, ← hp7]), (Or.inr rfl)⟩ [0, 1, 5, 2, 3, 4, 6, 7] (by decide) rfl d_RD_print_43
        · refine kx_aald S hw 3 2 rfl rfl (b := (ad 3)) (by rw [e5]; rfl) (l_isFree (hp1 ▸ h2)) d_RD_print_27 ?_
          refine lv_iconst (v := 3) hx hb d_RD_print_28 (by decide) ?_
          refine lv_iconst (v := (-1)) hx hb d_RD_print_29 (by decide) ?_
          refine lv_iload_n hx hb d_RD_print_30 rfl (lv_at hl 2 rfl) ?_
          refine kx_call_v (wc := [((ad 3), .inr (1, [.int ((ops 1).1), .int ((ops 1).2.1), .int ((ops 1).2.2.1), .int ((ops 1).2.2.2.1), .int ((ops 1).2.2.2.2.1), .int ((ops 1).2.2.2.2.2)]))]) (wr := [((ad 8), .inr (2, [.ref (ad 9), .int tl.2])), ((ad 9), .inl (cI, 4, .inl tl.1)), ((ad 0), .inr (0, [.int mm.1, .ref (ad 1), .ref (ad 6), .ref (ad 8), .ref (ad 10), .ref (ad 11), .ref (ad 12), .ref (ad 13), .ref (ad 14), .ref (ad 19), .ref (ad 20), .int mm.2.1, .int mm.2.2.1, .int mm.2.2.2])), ((ad 1), .inl (cO, 4, .inr (.inr (.inr (.inr (kx_opsf ad)))))), ((ad 2), .inr (1, [.int ((ops 0).1), .int ((ops 0).2.1), .int ((ops 0).2.2.1), .int ((ops 0).2.2.2.1), .int ((ops 0).2.2.2.2.1), .int ((ops 0).2.2.2.2.2)])), ((ad 4), .inr (1, [.int ((ops 2).1), .int ((ops 2).2.1), .int ((ops 2).2.2.1), .int ((ops 2).2.2.2.1), .int ((ops 2).2.2.2.2.1), .int ((ops 2).2.2.2.2.2)])), ((ad 5), .inr (1, [.int ((ops 3).1), .int ((ops 3).2.1), .int ((ops 3).2.2.1), .int ((ops 3).2.2.2.1), .int ((ops 3).2.2.2.2.1), .int ((ops 3).2.2.2.2.2)]))]) (rest := []) hw [5] [0, 1, 2, 3, 4, 6, 7] rfl rfl (by decide) (by decide) (kx_runV S hw fc_RD_71 rfl 5 rfl [5] (by decide) rfl (c_Op_begin l D cI cZ cO (ad 3) (ops 1) 3 (-1) c H.size) rfl hl.1 rfl (Nat.le_of_ble_eq_true rfl) d_RD_print_31 (by decide) (by decide)) (fun u6 H locs hp6 hw => ?_)
          obtain ⟨o6, rfl⟩ : ∃ z, z = u6 := ⟨_, rfl⟩
          have hw : kx_w D (kx_T cI cZ cO) A_ s_ [((ad 8), .inr (2, [.ref (ad 9), .int tl.2])), ((ad 9), .inl (cI, 4, .inl tl.1)), ((ad 0), .inr (0, [.int mm.1, .ref (ad 1), .ref (ad 6), .ref (ad 8), .ref (ad 10), .ref (ad 11), .ref (ad 12), .ref (ad 13), .ref (ad 14), .ref (ad 19), .ref (ad 20), .int mm.2.1, .int mm.2.2.1, .int mm.2.2.2])), ((ad 1), .inl (cO, 4, .inr (.inr (.inr (.inr (kx_opsf ad)))))), ((ad 2), .inr (1, [.int ((ops 0).1), .int ((ops 0).2.1), .int ((ops 0).2.2.1), .int ((ops 0).2.2.2.1), .int ((ops 0).2.2.2.2.1), .int ((ops 0).2.2.2.2.2)])), ((ad 4), .inr (1, [.int ((ops 2).1), .int ((ops 2).2.1), .int ((ops 2).2.2.1), .int ((ops 2).2.2.2.1), .int ((ops 2).2.2.2.2.1), .int ((ops 2).2.2.2.2.2)])), ((ad 5), .inr (1, [.int ((ops 3).1), .int ((ops 3).2.1), .int ((ops 3).2.2.1), .int ((ops 3).2.2.2.1), .int ((ops 3).2.2.2.2.1), .int ((ops 3).2.2.2.2.2)])), ((ad 3), .inr (1, [.int o6.1, .int o6.2.1, .int o6.2.2.1, .int o6.2.2.2.1, .int o6.2.2.2.2.1, .int o6.2.2.2.2.2]))] H locs := hw
          refine lv_aload_n hx hb d_RD_print_34 rfl (lv_at hl 0 rfl) ?_
          refine kx_get S hw fg_RD_22 2 rfl rfl d_RD_print_35 ?_
          refine lv_iload_n hx hb d_RD_print_38 rfl (lv_at hl 1 rfl) ?_
          refine kx_call_v (wc := [((ad 8), .inr (2, [.ref (ad 9), .int tl.2])), ((ad 9), .inl (cI, 4, .inl tl.1))]) (wr := [((ad 0), .inr (0, [.int mm.1, .ref (ad 1), .ref (ad 6), .ref (ad 8), .ref (ad 10), .ref (ad 11), .ref (ad 12), .ref (ad 13), .ref (ad 14), .ref (ad 19), .ref (ad 20), .int mm.2.1, .int mm.2.2.1, .int mm.2.2.2])), ((ad 1), .inl (cO, 4, .inr (.inr (.inr (.inr (kx_opsf ad)))))), ((ad 2), .inr (1, [.int ((ops 0).1), .int ((ops 0).2.1), .int ((ops 0).2.2.1), .int ((ops 0).2.2.2.1), .int ((ops 0).2.2.2.2.1), .int ((ops 0).2.2.2.2.2)])), ((ad 4), .inr (1, [.int ((ops 2).1), .int ((ops 2).2.1), .int ((ops 2).2.2.1), .int ((ops 2).2.2.2.1), .int ((ops 2).2.2.2.2.1), .int ((ops 2).2.2.2.2.2)])), ((ad 5), .inr (1, [.int ((ops 3).1), .int ((ops 3).2.1), .int ((ops 3).2.2.1), .int ((ops 3).2.2.2.1), .int ((ops 3).2.2.2.2.1), .int ((ops 3).2.2.2.2.2)])), ((ad 3), .inr (1, [.int o6.1, .int o6.2.1, .int o6.2.2.1, .int o6.2.2.2.1, .int o6.2.2.2.2.1, .int o6.2.2.2.2.2]))]) (rest := []) hw [0, 1] [2, 3, 4, 5, 6, 7] rfl rfl (by decide) (by decide) (kx_runV S hw fc_RD_75 rfl 0 rfl [0, 1] (by decide) rfl (c_Ln_join l D cI cZ cO (ad 8) (ad 9) tl u (hj) H.size) rfl hl.1 rfl (Nat.le_of_ble_eq_true rfl) d_RD_print_39 (by decide) (by decide)) (fun u7 H locs hp7 hw => ?_)
          obtain ⟨n7, rfl⟩ : ∃ z, z = u7 := ⟨_, rfl⟩
          have hw : kx_w D (kx_T cI cZ cO) A_ s_ [((ad 0), .inr (0, [.int mm.1, .ref (ad 1), .ref (ad 6), .ref (ad 8), .ref (ad 10), .ref (ad 11), .ref (ad 12), .ref (ad 13), .ref (ad 14), .ref (ad 19), .ref (ad 20), .int mm.2.1, .int mm.2.2.1, .int mm.2.2.2])), ((ad 1), .inl (cO, 4, .inr (.inr (.inr (.inr (kx_opsf ad)))))), ((ad 2), .inr (1, [.int ((ops 0).1), .int ((ops 0).2.1), .int ((ops 0).2.2.1), .int ((ops 0).2.2.2.1), .int ((ops 0).2.2.2.2.1), .int ((ops 0).2.2.2.2.2)])), ((ad 4), .inr (1, [.int ((ops 2).1), .int ((ops 2).2.1), .int ((ops 2).2.2.1), .int ((ops 2).2.2.2.1), .int ((ops 2).2.2.2.2.1), .int ((ops 2).2.2.2.2.2)])), ((ad 5), .inr (1, [.int ((ops 3).1), .int ((ops 3).2.1), .int ((ops 3).2.2.1), .int ((ops 3).2.2.2.1), .int ((ops 3).2.2.2.2.1), .int ((ops 3).2.2.2.2.2)])), ((ad 3), .inr (1, [.int o6.1, .int o6.2.1, .int o6.2.2.1, .int o6.2.2.2.1, .int o6.2.2.2.2.1, .int o6.2.2.2.2.2])), ((ad 8), .inr (2, [.ref (ad 9), .int n7.2])), ((ad 9), .inl (cI, 4, .inl n7.1))] H locs := hw
          refine lv_iconst (v := 1) hx hb d_RD_print_42 (by decide) ?_
          exact kx_ret_z I rfl hw (Or.inr rfl) (va_up ops 1 o6, n7) ⟨(by simp only [f_RD_print, ← hp1, if_neg h2, if_neg h3, if_pos h4, e5, ← hp6, ← hp7]), (Or.inr rfl)⟩ [0, 1, 2, 5, 3, 4, 6, 7] (by decide) rfl d_RD_print_43
        · refine kx_aald S hw 3 2 rfl rfl (b := (ad 4)) (by rw [e5]; rfl) (l_isFree (hp1 ▸ h2)) d_RD_print_27 ?_
          refine lv_iconst (v := 3) hx hb d_RD_print_28 (by decide) ?_
          refine lv_iconst (v := (-1)) hx hb d_RD_print_29 (by decide) ?_
          refine lv_iload_n hx hb d_RD_print_30 rfl (lv_at hl 2 rfl) ?_
          refine kx_call_v (wc := [((ad 4), .inr (1, [.int ((ops 2).1), .int ((ops 2).2.1), .int ((ops 2).2.2.1), .int ((ops 2).2.2.2.1), .int ((ops 2).2.2.2.2.1), .int ((ops 2).2.2.2.2.2)]))]) (wr := [((ad 8), .inr (2, [.ref (ad 9), .int tl.2])), ((ad 9), .inl (cI, 4, .inl tl.1)), ((ad 0), .inr (0, [.int mm.1, .ref (ad 1), .ref (ad 6), .ref (ad 8), .ref (ad 10), .ref (ad 11), .ref (ad 12), .ref (ad 13), .ref (ad 14), .ref (ad 19), .ref (ad 20), .int mm.2.1, .int mm.2.2.1, .int mm.2.2.2])), ((ad 1), .inl (cO, 4, .inr (.inr (.inr (.inr (kx_opsf ad)))))), ((ad 2), .inr (1, [.int ((ops 0).1), .int ((ops 0).2.1), .int ((ops 0).2.2.1), .int ((ops 0).2.2.2.1), .int ((ops 0).2.2.2.2.1), .int ((ops 0).2.2.2.2.2)])), ((ad 3), .inr (1, [.int ((ops 1).1), .int ((ops 1).2.1), .int ((ops 1).2.2.1), .int ((ops 1).2.2.2.1), .int ((ops 1).2.2.2.2.1), .int ((ops 1).2.2.2.2.2)])), ((ad 5), .inr (1, [.int ((ops 3).1), .int ((ops 3).2.1), .int ((ops 3).2.2.1), .int ((ops 3).2.2.2.1), .int ((ops 3).2.2.2.2.1), .int ((ops 3).2.2.2.2.2)]))]) (rest := []) hw [6] [0, 1, 2, 3, 4, 5, 7] rfl rfl (by decide) (by decide) (kx_runV S hw fc_RD_71 rfl 6 rfl [6] (by decide) rfl (c_Op_begin l D cI cZ cO (ad 4) (ops 2) 3 (-1) c H.size) rfl hl.1 rfl (Nat.le_of_ble_eq_true rfl) d_RD_print_31 (by decide) (by decide)) (fun u6 H locs hp6 hw => ?_)
          obtain ⟨o6, rfl⟩ : ∃ z, z = u6 := ⟨_, rfl⟩
          have hw : kx_w D (kx_T cI cZ cO) A_ s_ [((ad 8), .inr (2, [.ref (ad 9), .int tl.2])), ((ad 9), .inl (cI, 4, .inl tl.1)), ((ad 0), .inr (0, [.int mm.1, .ref (ad 1), .ref (ad 6), .ref (ad 8), .ref (ad 10), .ref (ad 11), .ref (ad 12), .ref (ad 13), .ref (ad 14), .ref (ad 19), .ref (ad 20), .int mm.2.1, .int mm.2.2.1, .int mm.2.2.2])), ((ad 1), .inl (cO, 4, .inr (.inr (.inr (.inr (kx_opsf ad)))))), ((ad 2), .inr (1, [.int ((ops 0).1), .int ((ops 0).2.1), .int ((ops 0).2.2.1), .int ((ops 0).2.2.2.1), .int ((ops 0).2.2.2.2.1), .int ((ops 0).2.2.2.2.2)])), ((ad 3), .inr (1, [.int ((ops 1).1), .int ((ops 1).2.1), .int ((ops 1).2.2.1), .int ((ops 1).2.2.2.1), .int ((ops 1).2.2.2.2.1), .int ((ops 1).2.2.2.2.2)])), ((ad 5), .inr (1, [.int ((ops 3).1), .int ((ops 3).2.1), .int ((ops 3).2.2.1), .int ((ops 3).2.2.2.1), .int ((ops 3).2.2.2.2.1), .int ((ops 3).2.2.2.2.2)])), ((ad 4), .inr (1, [.int o6.1, .int o6.2.1, .int o6.2.2.1, .int o6.2.2.2.1, .int o6.2.2.2.2.1, .int o6.2.2.2.2.2]))] H locs := hw
          refine lv_aload_n hx hb d_RD_print_34 rfl (lv_at hl 0 rfl) ?_
          refine kx_get S hw fg_RD_22 2 rfl rfl d_RD_print_35 ?_
          refine lv_iload_n hx hb d_RD_print_38 rfl (lv_at hl 1 rfl) ?_
          refine kx_call_v (wc := [((ad 8), .inr (2, [.ref (ad 9), .int tl.2])), ((ad 9), .inl (cI, 4, .inl tl.1))]) (wr := [((ad 0), .inr (0, [.int mm.1, .ref (ad 1), .ref (ad 6), .ref (ad 8), .ref (ad 10), .ref (ad 11), .ref (ad 12), .ref (ad 13), .ref (ad 14), .ref (ad 19), .ref (ad 20), .int mm.2.1, .int mm.2.2.1, .int mm.2.2.2])), ((ad 1), .inl (cO, 4, .inr (.inr (.inr (.inr (kx_opsf ad)))))), ((ad 2), .inr (1, [.int ((ops 0).1), .int ((ops 0).2.1), .int ((ops 0).2.2.1), .int ((ops 0).2.2.2.1), .int ((ops 0).2.2.2.2.1), .int ((ops 0).2.2.2.2.2)])), ((ad 3), .inr (1, [.int ((ops 1).1), .int ((ops 1).2.1), .int ((ops 1).2.2.1), .int ((ops 1).2.2.2.1), .int ((ops 1).2.2.2.2.1), .int ((ops 1).2.2.2.2.2)])), ((ad 5), .inr (1, [.int ((ops 3).1), .int ((ops 3).2.1), .int ((ops 3).2.2.1), .int ((ops 3).2.2.2.1), .int ((ops 3).2.2.2.2.1), .int ((ops 3).2.2.2.2.2)])), ((ad 4), .inr (1, [.int o6.1, .int o6.2.1, .int o6.2.2.1, .int o6.2.2.2.1, .int o6.2.2.2.2.1, .int o6.2.2.2.2.2]))]) (rest := []) hw [0, 1] [2, 3, 4, 5, 6, 7] rfl rfl (by decide) (by decide) (kx_runV S hw fc_RD_75 rfl 0 rfl [0, 1] (by decide) rfl (c_Ln_join l D cI cZ cO (ad 8) (ad 9) tl u (hj) H.size) rfl hl.1 rfl (Nat.le_of_ble_eq_true rfl) d_RD_print_39 (by decide) (by decide)) (fun u7 H locs hp7 hw => ?_)
          obtain ⟨n7, rfl⟩ : ∃ z, z = u7 := ⟨_, rfl⟩
          have hw : kx_w D (kx_T cI cZ cO) A_ s_ [((ad 0), .inr (0, [.int mm.1, .ref (ad 1), .ref (ad 6), .ref (ad 8), .ref (ad 10), .ref (ad 11), .ref (ad 12), .ref (ad 13), .ref (ad 14), .ref (ad 19), .ref (ad 20), .int mm.2.1, .int mm.2.2.1, .int mm.2.2.2])), ((ad 1), .inl (cO, 4, .inr (.inr (.inr (.inr (kx_opsf ad)))))), ((ad 2), .inr (1, [.int ((ops 0).1), .int ((ops 0).2.1), .int ((ops 0).2.2.1), .int ((ops 0).2.2.2.1), .int ((ops 0).2.2.2.2.1), .int ((ops 0).2.2.2.2.2)])), ((ad 3), .inr (1, [.int ((ops 1).1), .int ((ops 1).2.1), .int ((ops 1).2.2.1), .int ((ops 1).2.2.2.1), .int ((ops 1).2.2.2.2.1), .int ((ops 1).2.2.2.2.2)])), ((ad 5), .inr (1, [.int ((ops 3).1), .int ((ops 3).2.1), .int ((ops 3).2.2.1), .int ((ops 3).2.2.2.1), .int ((ops 3).2.2.2.2.1), .int ((ops 3).2.2.2.2.2)])), ((ad 4), .inr (1, [.int o6.1, .int o6.2.1, .int o6.2.2.1, .int o6.2.2.2.1, .int o6.2.2.2.2.1, .int o6.2.2.2.2.2])), ((ad 8), .inr (2, [.ref (ad 9), .int n7.2])), ((ad 9), .inl (cI, 4, .inl n7.1))] H locs := hw
          refine lv_iconst (v := 1) hx hb d_RD_print_42 (by decide) ?_
          exact kx_ret_z I rfl hw (Or.inr rfl) (va_up ops 2 o6, n7) ⟨(by simp only [f_RD_print, ← hp1, if_neg h2, if_neg h3, if_pos h4, e5, ← hp6, ← hp7]), (Or.inr rfl)⟩ [0, 1, 2, 3, 5, 4, 6, 7] (by decide) rfl d_RD_print_43
        · refine kx_aald S hw 3 2 rfl rfl (b := (ad 5)) (by rw [e5]; rfl) (l_isFree (hp1 ▸ h2)) d_RD_print_27 ?_
          refine lv_iconst (v := 3) hx hb d_RD_print_28 (by decide) ?_
          refine lv_iconst (v := (-1)) hx hb d_RD_print_29 (by decide) ?_
          refine lv_iload_n hx hb d_RD_print_30 rfl (lv_at hl 2 rfl) ?_
          refine kx_call_v (wc := [((ad 5), .inr (1, [.int ((ops 3).1), .int ((ops 3).2.1), .int ((ops 3).2.2.1), .int ((ops 3).2.2.2.1), .int ((ops 3).2.2.2.2.1), .int ((ops 3).2.2.2.2.2)]))]) (wr := [((ad 8), .inr (2, [.ref (ad 9), .int tl.2])), ((ad 9), .inl (cI, 4, .inl tl.1)), ((ad 0), .inr (0, [.int mm.1, .ref (ad 1), .ref (ad 6), .ref (ad 8), .ref (ad 10), .ref (ad 11), .ref (ad 12), .ref (ad 13), .ref (ad 14), .ref (ad 19), .ref (ad 20), .int mm.2.1, .int mm.2.2.1, .int mm.2.2.2])), ((ad 1), .inl (cO, 4, .inr (.inr (.inr (.inr (kx_opsf ad)))))), ((ad 2), .inr (1, [.int ((ops 0).1), .int ((ops 0).2.1), .int ((ops 0).2.2.1), .int ((ops 0).2.2.2.1), .int ((ops 0).2.2.2.2.1), .int ((ops 0).2.2.2.2.2)])), ((ad 3), .inr (1, [.int ((ops 1).1), .int ((ops 1).2.1), .int ((ops 1).2.2.1), .int ((ops 1).2.2.2.1), .int ((ops 1).2.2.2.2.1), .int ((ops 1).2.2.2.2.2)])), ((ad 4), .inr (1, [.int ((ops 2).1), .int ((ops 2).2.1), .int ((ops 2).2.2.1), .int ((ops 2).2.2.2.1), .int ((ops 2).2.2.2.2.1), .int ((ops 2).2.2.2.2.2)]))]) (rest := []) hw [7] [0, 1, 2, 3, 4, 5, 6] rfl rfl (by decide) (by decide) (kx_runV S hw fc_RD_71 rfl 7 rfl [7] (by decide) rfl (c_Op_begin l D cI cZ cO (ad 5) (ops 3) 3 (-1) c H.size) rfl hl.1 rfl (Nat.le_of_ble_eq_true rfl) d_RD_print_31 (by decide) (by decide)) (fun u6 H locs hp6 hw => ?_)
          obtain ⟨o6, rfl⟩ : ∃ z, z = u6 := ⟨_, rfl⟩
          have hw : kx_w D (kx_T cI cZ cO) A_ s_ [((ad 8), .inr (2, [.ref (ad 9), .int tl.2])), ((ad 9), .inl (cI, 4, .inl tl.1)), ((ad 0), .inr (0, [.int mm.1, .ref (ad 1), .ref (ad 6), .ref (ad 8), .ref (ad 10), .ref (ad 11), .ref (ad 12), .ref (ad 13), .ref (ad 14), .ref (ad 19), .ref (ad 20), .int mm.2.1, .int mm.2.2.1, .int mm.2.2.2])), ((ad 1), .inl (cO, 4, .inr (.inr (.inr (.inr (kx_opsf ad)))))), ((ad 2), .inr (1, [.int ((ops 0).1), .int ((ops 0).2.1), .int ((ops 0).2.2.1), .int ((ops 0).2.2.2.1), .int ((ops 0).2.2.2.2.1), .int ((ops 0).2.2.2.2.2)])), ((ad 3), .inr (1, [.int ((ops 1).1), .int ((ops 1).2.1), .int ((ops 1).2.2.1), .int ((ops 1).2.2.2.1), .int ((ops 1).2.2.2.2.1), .int ((ops 1).2.2.2.2.2)])), ((ad 4), .inr (1, [.int ((ops 2).1), .int ((ops 2).2.1), .int ((ops 2).2.2.1), .int ((ops 2).2.2.2.1), .int ((ops 2).2.2.2.2.1), .int ((ops 2).2.2.2.2.2)])), ((ad 5), .inr (1, [.int o6.1, .int o6.2.1, .int o6.2.2.1, .int o6.2.2.2.1, .int o6.2.2.2.2.1, .int o6.2.2.2.2.2]))] H locs := hw
          refine lv_aload_n hx hb d_RD_print_34 rfl (lv_at hl 0 rfl) ?_
          refine kx_get S hw fg_RD_22 2 rfl rfl d_RD_print_35 ?_
          refine lv_iload_n hx hb d_RD_print_38 rfl (lv_at hl 1 rfl) ?_
          refine kx_call_v (wc := [((ad 8), .inr (2, [.ref (ad 9), .int tl.2])), ((ad 9), .inl (cI, 4, .inl tl.1))]) (wr := [((ad 0), .inr (0, [.int mm.1, .ref (ad 1), .ref (ad 6), .ref (ad 8), .ref (ad 10), .ref (ad 11), .ref (ad 12), .ref (ad 13), .ref (ad 14), .ref (ad 19), .ref (ad 20), .int mm.2.1, .int mm.2.2.1, .int mm.2.2.2])), ((ad 1), .inl (cO, 4, .inr (.inr (.inr (.inr (kx_opsf ad)))))), ((ad 2), .inr (1, [.int ((ops 0).1), .int ((ops 0).2.1), .int ((ops 0).2.2.1), .int ((ops 0).2.2.2.1), .int ((ops 0).2.2.2.2.1), .int ((ops 0).2.2.2.2.2)])), ((ad 3), .inr (1, [.int ((ops 1).1), .int ((ops 1).2.1), .int ((ops 1).2.2.1), .int ((ops 1).2.2.2.1), .int ((ops 1).2.2.2.2.1), .int ((ops 1).2.2.2.2.2)])), ((ad 4), .inr (1, [.int ((ops 2).1), .int ((ops 2).2.1), .int ((ops 2).2.2.1), .int ((ops 2).2.2.2.1), .int ((ops 2).2.2.2.2.1), .int ((ops 2).2.2.2.2.2)])), ((ad 5), .inr (1, [.int o6.1, .int o6.2.1, .int o6.2.2.1, .int o6.2.2.2.1, .int o6.2.2.2.2.1, .int o6.2.2.2.2.2]))]) (rest := []) hw [0, 1] [2, 3, 4, 5, 6, 7] rfl rfl (by decide) (by decide) (kx_runV S hw fc_RD_75 rfl 0 rfl [0, 1] (by decide) rfl (c_Ln_join l D cI cZ cO (ad 8) (ad 9) tl u (hj) H.size) rfl hl.1 rfl (Nat.le_of_ble_eq_true rfl) d_RD_print_39 (by decide) (by decide)) (fun u7 H locs hp7 hw => ?_)
          obtain ⟨n7, rfl⟩ : ∃ z, z = u7 := ⟨_, rfl⟩
          have hw : kx_w D (kx_T cI cZ cO) A_ s_ [((ad 0), .inr (0, [.int mm.1, .ref (ad 1), .ref (ad 6), .ref (ad 8), .ref (ad 10), .ref (ad 11), .ref (ad 12), .ref (ad 13), .ref (ad 14), .ref (ad 19), .ref (ad 20), .int mm.2.1, .int mm.2.2.1, .int mm.2.2.2])), ((ad 1), .inl (cO, 4, .inr (.inr (.inr (.inr (kx_opsf ad)))))), ((ad 2), .inr (1, [.int ((ops 0).1), .int ((ops 0).2.1), .int ((ops 0).2.2.1), .int ((ops 0).2.2.2.1), .int ((ops 0).2.2.2.2.1), .int ((ops 0).2.2.2.2.2)])), ((ad 3), .inr (1, [.int ((ops 1).1), .int ((ops 1).2.1), .int ((ops 1).2.2.1), .int ((ops 1).2.2.2.1), .int ((ops 1).2.2.2.2.1), .int ((ops 1).2.2.2.2.2)])), ((ad 4), .inr (1, [.int ((ops 2).1), .int ((ops 2).2.1), .int ((ops 2).2.2.1), .int ((ops 2).2.2.2.1), .int ((ops 2).2.2.2.2.1), .int ((ops 2).2.2.2.2.2)])), ((ad 5), .inr (1, [.int o6.1, .int o6.2.1, .int o6.2.2.1, .int o6.2.2.2.1, .int o6.2.2.2.2.1, .int o6.2.2.2.2.2])), ((ad 8), .inr (2, [.ref (ad 9), .int n7.2])), ((ad 9), .inl (cI, 4, .inl n7.1))] H locs := hw
          refine lv_iconst (v := 1) hx hb d_RD_print_42 (by decide) ?_
          exact kx_ret_z I rfl hw (Or.inr rfl) (va_up ops 3 o6, n7) ⟨(by simp only [f_RD_print, ← hp1, if_neg h2, if_neg h3, if_pos h4, e5, ← hp6, ← hp7]), (Or.inr rfl)⟩ [0, 1, 2, 3, 4, 5, 6, 7] (by decide) rfl d_RD_print_43
      · refine lv_iconst (v := 0) hx hb d_RD_print_20 (by decide) ?_
        exact kx_ret_z I rfl hw (Or.inl rfl) (ops, tl) ⟨(by simp only [f_RD_print, ← hp1, if_neg h2, if_neg h3, if_neg h4]), (Or.inl rfl)⟩ [2, 3, 4, 5, 6, 7, 0, 1] (by decide) rfl d_RD_print_21
set_option maxHeartbeats 4000000 in
set_option maxRecDepth 100000 in
theorem c_RD_driverOf_0 (l : Launch) (D : va_G) (cI cZ cO : ClassId) (ad : Nat → Nat) (mm : kt_M) (d : Int32) (hd : d = 0) : kx_Cr (S := Unit) l y_RD_driverOf b_RD_driverOf 2 (some (.object "RebornDrivers$Driver")) 0 0 0 D (kx_T cI cZ cO) [.ref (ad 0), .int d] [((ad 0), .inr (0, [.int mm.1, .ref (ad 1), .ref (ad 6), .ref (ad 8), .ref (ad 10), .ref (ad 11), .ref (ad 12), .ref (ad 13), .ref (ad 14), .ref (ad 19), .ref (ad 20), .int mm.2.1, .int mm.2.2.1, .int mm.2.2.2]))] (fun _ => True) (fun _ => (ad 10)) (fun _ => [((ad 0), .inr (0, [.int mm.1, .ref (ad 1), .ref (ad 6), .ref (ad 8), .ref (ad 10), .ref (ad 11), .ref (ad 12), .ref (ad 13), .ref (ad 14), .ref (ad 19), .ref (ad 20), .int mm.2.1, .int mm.2.2.1, .int mm.2.2.2]))]) := by
  refine kx_enter_r (by decide) (Nat.le_of_ble_eq_true rfl) ?_
  intro p_ e_ s_ m_ below_ meth_ c_ ls A_ H I hl hw
  have S := I.1
  have hx := S.1
  have hb := S.2.1
  have hl : lv_has ls 2 [(0, .ref (ad 0)), (1, .int d)] := hl
  refine lv_iload_n hx hb d_RD_driverOf_0 rfl (lv_at hl 1 rfl) ?_
  refine lv_if_ne (tgt := 11) hx hb d_RD_driverOf_1 (by decide) (fun hq => (hq hd).elim) (fun _ => ?_)
  refine lv_aload_n hx hb d_RD_driverOf_4 rfl (lv_at hl 0 rfl) ?_
  refine kx_get S hw fg_RD_28 0 rfl rfl d_RD_driverOf_5 ?_
  refine lv_goto (tgt := 15) hx hb d_RD_driverOf_8 (by decide) ?_
  exact kx_ret_r I rfl hw () rfl trivial [0] (by decide) rfl d_RD_driverOf_15
set_option maxHeartbeats 4000000 in
set_option maxRecDepth 100000 in
theorem c_RD_driverOf_1 (l : Launch) (D : va_G) (cI cZ cO : ClassId) (ad : Nat → Nat) (mm : kt_M) (d : Int32) (hd : ¬ d = 0) : kx_Cr (S := Unit) l y_RD_driverOf b_RD_driverOf 2 (some (.object "RebornDrivers$Driver")) 0 0 0 D (kx_T cI cZ cO) [.ref (ad 0), .int d] [((ad 0), .inr (0, [.int mm.1, .ref (ad 1), .ref (ad 6), .ref (ad 8), .ref (ad 10), .ref (ad 11), .ref (ad 12), .ref (ad 13), .ref (ad 14), .ref (ad 19), .ref (ad 20), .int mm.2.1, .int mm.2.2.1, .int mm.2.2.2]))] (fun _ => True) (fun _ => (ad 11)) (fun _ => [((ad 0), .inr (0, [.int mm.1, .ref (ad 1), .ref (ad 6), .ref (ad 8), .ref (ad 10), .ref (ad 11), .ref (ad 12), .ref (ad 13), .ref (ad 14), .ref (ad 19), .ref (ad 20), .int mm.2.1, .int mm.2.2.1, .int mm.2.2.2]))]) := by
  refine kx_enter_r (by decide) (Nat.le_of_ble_eq_true rfl) ?_
  intro p_ e_ s_ m_ below_ meth_ c_ ls A_ H I hl hw
  have S := I.1
  have hx := S.1
  have hb := S.2.1
  have hl : lv_has ls 2 [(0, .ref (ad 0)), (1, .int d)] := hl
  refine lv_iload_n hx hb d_RD_driverOf_0 rfl (lv_at hl 1 rfl) ?_
  refine lv_if_ne (tgt := 11) hx hb d_RD_driverOf_1 (by decide) (fun _ => ?_) (fun hq => (hd hq).elim)
  refine lv_aload_n hx hb d_RD_driverOf_11 rfl (lv_at hl 0 rfl) ?_
  refine kx_get S hw fg_RD_32 0 rfl rfl d_RD_driverOf_12 ?_
  exact kx_ret_r I rfl hw () rfl trivial [0] (by decide) rfl d_RD_driverOf_15
def f_RD_fault (mm : kt_M) (dk : kt_Dr) (co : kt_Dr) (d : Int32) (k : Int32) : Int32 × kt_Dr × kt_Dr :=
  match f_RD_isDriver d with
  | r1 => if r1 = 0 then (0, dk, co)
    else if k < 0 then (0, dk, co)
    else if k ≤ 3 then (if d = 0 then (match f_Dr_suffer dk k with
        | (r7, d7) => (r7, d7, co))
      else match f_Dr_suffer co k with
      | (r9, d9) => (r9, dk, d9))
    else (0, dk, co)
set_option maxHeartbeats 4000000 in
set_option maxRecDepth 100000 in
theorem c_RD_fault (l : Launch) (D : va_G) (cI cZ cO : ClassId) (ad : Nat → Nat) (mm : kt_M) (dk : kt_Dr) (co : kt_Dr) (d : Int32) (k : Int32) : kx_Ci (S := kt_Dr × kt_Dr) l y_RD_fault b_RD_fault 3 (some .boolean) 2 0 0 D (kx_T cI cZ cO) [.ref (ad 0), .int d, .int k] [((ad 0), .inr (0, [.int mm.1, .ref (ad 1), .ref (ad 6), .ref (ad 8), .ref (ad 10), .ref (ad 11), .ref (ad 12), .ref (ad 13), .ref (ad 14), .ref (ad 19), .ref (ad 20), .int mm.2.1, .int mm.2.2.1, .int mm.2.2.2])), ((ad 10), .inr (3, [.int dk.1, .int dk.2.1, .int dk.2.2.1, .int dk.2.2.2.1, .int dk.2.2.2.2.1, .int dk.2.2.2.2.2])), ((ad 11), .inr (3, [.int co.1, .int co.2.1, .int co.2.2.1, .int co.2.2.2.1, .int co.2.2.2.2.1, .int co.2.2.2.2.2]))] (fun rr zz => (rr, zz) = f_RD_fault mm dk co d k ∧ kx_b rr) (fun zz => [((ad 0), .inr (0, [.int mm.1, .ref (ad 1), .ref (ad 6), .ref (ad 8), .ref (ad 10), .ref (ad 11), .ref (ad 12), .ref (ad 13), .ref (ad 14), .ref (ad 19), .ref (ad 20), .int mm.2.1, .int mm.2.2.1, .int mm.2.2.2])), ((ad 10), .inr (3, [.int zz.1.1, .int zz.1.2.1, .int zz.1.2.2.1, .int zz.1.2.2.2.1, .int zz.1.2.2.2.2.1, .int zz.1.2.2.2.2.2])), ((ad 11), .inr (3, [.int zz.2.1, .int zz.2.2.1, .int zz.2.2.2.1, .int zz.2.2.2.2.1, .int zz.2.2.2.2.2.1, .int zz.2.2.2.2.2.2]))]) := by
  refine kx_enter_i (by decide) (Nat.le_of_ble_eq_true rfl) ?_
  intro p_ e_ s_ m_ below_ meth_ c_ ls A_ H I hl hw
  have S := I.1
  have hx := S.1
  have hb := S.2.1
  have hl : lv_has ls 3 [(0, .ref (ad 0)), (1, .int d), (2, .int k)] := hl
  refine lv_iload_n hx hb d_RD_fault_0 rfl (lv_at hl 1 rfl) ?_
  refine kx_call_i (wc := []) (wr := [((ad 0), .inr (0, [.int mm.1, .ref (ad 1), .ref (ad 6), .ref (ad 8), .ref (ad 10), .ref (ad 11), .ref (ad 12), .ref (ad 13), .ref (ad 14), .ref (ad 19), .ref (ad 20), .int mm.2.1, .int mm.2.2.1, .int mm.2.2.2])), ((ad 10), .inr (3, [.int dk.1, .int dk.2.1, .int dk.2.2.1, .int dk.2.2.2.1, .int dk.2.2.2.2.1, .int dk.2.2.2.2.2])), ((ad 11), .inr (3, [.int co.1, .int co.2.1, .int co.2.2.1, .int co.2.2.2.1, .int co.2.2.2.2.1, .int co.2.2.2.2.2]))]) (rest := []) hw [] [0, 1, 2] rfl rfl (by decide) (by decide) (kx_runS S hw fc_RD_99 [] (by decide) rfl (c_RD_isDriver l D cI cZ cO d H.size) rfl hl.1 rfl (Nat.le_of_ble_eq_true rfl) d_RD_fault_1 (by decide) (by decide)) (fun r1 u1 H locs hp1 hw => ?_)
  obtain ⟨hp1, hb1⟩ := hp1
  have hw : kx_w D (kx_T cI cZ cO) A_ s_ [((ad 0), .inr (0, [.int mm.1, .ref (ad 1), .ref (ad 6), .ref (ad 8), .ref (ad 10), .ref (ad 11), .ref (ad 12), .ref (ad 13), .ref (ad 14), .ref (ad 19), .ref (ad 20), .int mm.2.1, .int mm.2.2.1, .int mm.2.2.2])), ((ad 10), .inr (3, [.int dk.1, .int dk.2.1, .int dk.2.2.1, .int dk.2.2.2.1, .int dk.2.2.2.2.1, .int dk.2.2.2.2.2])), ((ad 11), .inr (3, [.int co.1, .int co.2.1, .int co.2.2.1, .int co.2.2.2.1, .int co.2.2.2.2.1, .int co.2.2.2.2.2]))] H locs := hw
  refine lv_if_eq (tgt := 16) hx hb d_RD_fault_4 (by decide) (fun h2 => ?_) (fun h2 => ?_)
  · refine lv_iconst (v := 0) hx hb d_RD_fault_16 (by decide) ?_
    exact kx_ret_z I rfl hw (Or.inl rfl) (dk, co) ⟨(by simp only [f_RD_fault, ← hp1, if_pos h2]), (Or.inl rfl)⟩ [0, 1, 2] (by decide) rfl d_RD_fault_17
  · refine lv_iload_n hx hb d_RD_fault_7 rfl (lv_at hl 2 rfl) ?_
    refine lv_if_lt (tgt := 16) hx hb d_RD_fault_8 (by decide) (fun h3 => ?_) (fun h3 => ?_)
    · refine lv_iconst (v := 0) hx hb d_RD_fault_16 (by decide) ?_
      exact kx_ret_z I rfl hw (Or.inl rfl) (dk, co) ⟨(by simp only [f_RD_fault, ← hp1, if_neg h2, if_pos h3]), (Or.inl rfl)⟩ [0, 1, 2] (by decide) rfl d_RD_fault_17
    · refine lv_iload_n hx hb d_RD_fault_11 rfl (lv_at hl 2 rfl) ?_
      refine lv_iconst (v := 3) hx hb d_RD_fault_12 (by decide) ?_
      refine lv_icmp_le (tgt := 18) hx hb d_RD_fault_13 (by decide) (fun h4 => ?_) (fun h4 => ?_)
      · refine lv_aload_n hx hb d_RD_fault_18 rfl (lv_at hl 0 rfl) ?_
        refine lv_iload_n hx hb d_RD_fault_19 rfl (lv_at hl 1 rfl) ?_
        by_cases h5 : d = 0
        · refine kx_call_r (wc := [((ad 0), .inr (0, [.int mm.1, .ref (ad 1), .ref (ad 6), .ref (ad 8), .ref (ad 10), .ref (ad 11), .ref (ad 12), .ref (ad 13), .ref (ad 14), .ref (ad 19), .ref (ad 20), .int mm.2.1, .int mm.2.2.1, .int mm.2.2.2]))]) (wr := [((ad 10), .inr (3, [.int dk.1, .int dk.2.1, .int dk.2.2.1, .int dk.2.2.2.1, .int dk.2.2.2.2.1, .int dk.2.2.2.2.2])), ((ad 11), .inr (3, [.int co.1, .int co.2.1, .int co.2.2.1, .int co.2.2.2.1, .int co.2.2.2.2.1, .int co.2.2.2.2.2]))]) (rest := []) hw [0] [1, 2] rfl rfl (by decide) (by decide) (kx_runV S hw fc_RD_102 rfl 0 rfl [0] (by decide) rfl (c_RD_driverOf_0 l D cI cZ cO ad mm d (h5) H.size) rfl hl.1 rfl (Nat.le_of_ble_eq_true rfl) d_RD_fault_20 (by decide) (by decide)) (fun u6 H locs hp6 hw => ?_)
          have hw : kx_w D (kx_T cI cZ cO) A_ s_ [((ad 10), .inr (3, [.int dk.1, .int dk.2.1, .int dk.2.2.1, .int dk.2.2.2.1, .int dk.2.2.2.2.1, .int dk.2.2.2.2.2])), ((ad 11), .inr (3, [.int co.1, .int co.2.1, .int co.2.2.1, .int co.2.2.2.1, .int co.2.2.2.2.1, .int co.2.2.2.2.2])), ((ad 0), .inr (0, [.int mm.1, .ref (ad 1), .ref (ad 6), .ref (ad 8), .ref (ad 10), .ref (ad 11), .ref (ad 12), .ref (ad 13), .ref (ad 14), .ref (ad 19), .ref (ad 20), .int mm.2.1, .int mm.2.2.1, .int mm.2.2.2]))] H locs := hw
          refine lv_iload_n hx hb d_RD_fault_23 rfl (lv_at hl 2 rfl) ?_
          refine kx_call_i (wc := [((ad 10), .inr (3, [.int dk.1, .int dk.2.1, .int dk.2.2.1, .int dk.2.2.2.1, .int dk.2.2.2.2.1, .int dk.2.2.2.2.2]))]) (wr := [((ad 11), .inr (3, [.int co.1, .int co.2.1, .int co.2.2.1, .int co.2.2.2.1, .int co.2.2.2.2.1, .int co.2.2.2.2.2])), ((ad 0), .inr (0, [.int mm.1, .ref (ad 1), .ref (ad 6), .ref (ad 8), .ref (ad 10), .ref (ad 11), .ref (ad 12), .ref (ad 13), .ref (ad 14), .ref (ad 19), .ref (ad 20), .int mm.2.1, .int mm.2.2.1, .int mm.2.2.2]))]) (rest := []) hw [0] [1, 2] rfl rfl (by decide) (by decide) (kx_runV S hw fc_RD_106 rfl 0 rfl [0] (by decide) rfl (c_Dr_suffer l D cI cZ cO (ad 10) dk k H.size) rfl hl.1 rfl (Nat.le_of_ble_eq_true rfl) d_RD_fault_24 (by decide) (by decide)) (fun r7 u7 H locs hp7 hw => ?_)
          obtain ⟨d7, rfl⟩ : ∃ z, z = u7 := ⟨_, rfl⟩
          obtain ⟨hp7, hb7⟩ := hp7
          have hw : kx_w D (kx_T cI cZ cO) A_ s_ [((ad 11), .inr (3, [.int co.1, .int co.2.1, .int co.2.2.1, .int co.2.2.2.1, .int co.2.2.2.2.1, .int co.2.2.2.2.2])), ((ad 0), .inr (0, [.int mm.1, .ref (ad 1), .ref (ad 6), .ref (ad 8), .ref (ad 10), .ref (ad 11), .ref (ad 12), .ref (ad 13), .ref (ad 14), .ref (ad 19), .ref (ad 20), .int mm.2.1, .int mm.2.2.1, .int mm.2.2.2])), ((ad 10), .inr (3, [.int d7.1, .int d7.2.1, .int d7.2.2.1, .int d7.2.2.2.1, .int d7.2.2.2.2.1, .int d7.2.2.2.2.2]))] H locs := hw
          exact kx_ret_z I rfl hw hb7 (d7, co) ⟨(by simp only [f_RD_fault, ← hp1, if_neg h2, if_neg h3, if_pos h4, if_pos h5, ← hp7]), hb7⟩ [1, 2, 0] (by decide) rfl d_RD_fault_27
        · refine kx_call_r (wc := [((ad 0), .inr (0, [.int mm.1, .ref (ad 1), .ref (ad 6), .ref (ad 8), .ref (ad 10), .ref (ad 11), .ref (ad 12), .ref (ad 13), .ref (ad 14), .ref (ad 19), .ref (ad 20), .int mm.2.1, .int mm.2.2.1, .int mm.2.2.2]))]) (wr := [((ad 10), .inr (3, [.int dk.1, .int dk.2.1, .int dk.2.2.1, .int dk.2.2.2.1, .int dk.2.2.2.2.1, .int dk.2.2.2.2.2])), ((ad 11), .inr (3, [.int co.1, .int co.2.1, .int co.2.2.1, .int co.2.2.2.1, .int co.2.2.2.2.1, .int co.2.2.2.2.2]))]) (rest := []) hw [0] [1, 2] rfl rfl (by decide) (by decide) (kx_runV S hw fc_RD_102 rfl 0 rfl [0] (by decide) rfl (c_RD_driverOf_1 l D cI cZ cO ad mm d (h5) H.size) rfl hl.1 rfl (Nat.le_of_ble_eq_true rfl) d_RD_fault_20 (by decide) (by decide)) (fun u8 H locs hp8 hw => ?_)
          have hw : kx_w D (kx_T cI cZ cO) A_ s_ [((ad 10), .inr (3, [.int dk.1, .int dk.2.1, .int dk.2.2.1, .int dk.2.2.2.1, .int dk.2.2.2.2.1, .int dk.2.2.2.2.2])), ((ad 11), .inr (3, [.int co.1, .int co.2.1, .int co.2.2.1, .int co.2.2.2.1, .int co.2.2.2.2.1, .int co.2.2.2.2.2])), ((ad 0), .inr (0, [.int mm.1, .ref (ad 1), .ref (ad 6), .ref (ad 8), .ref (ad 10), .ref (ad 11), .ref (ad 12), .ref (ad 13), .ref (ad 14), .ref (ad 19), .ref (ad 20), .int mm.2.1, .int mm.2.2.1, .int mm.2.2.2]))] H locs := hw
          refine lv_iload_n hx hb d_RD_fault_23 rfl (lv_at hl 2 rfl) ?_
          refine kx_call_i (wc := [((ad 11), .inr (3, [.int co.1, .int co.2.1, .int co.2.2.1, .int co.2.2.2.1, .int co.2.2.2.2.1, .int co.2.2.2.2.2]))]) (wr := [((ad 10), .inr (3, [.int dk.1, .int dk.2.1, .int dk.2.2.1, .int dk.2.2.2.1, .int dk.2.2.2.2.1, .int dk.2.2.2.2.2])), ((ad 0), .inr (0, [.int mm.1, .ref (ad 1), .ref (ad 6), .ref (ad 8), .ref (ad 10), .ref (ad 11), .ref (ad 12), .ref (ad 13), .ref (ad 14), .ref (ad 19), .ref (ad 20), .int mm.2.1, .int mm.2.2.1, .int mm.2.2.2]))]) (rest := []) hw [1] [0, 2] rfl rfl (by decide) (by decide) (kx_runV S hw fc_RD_106 rfl 1 rfl [1] (by decide) rfl (c_Dr_suffer l D cI cZ cO (ad 11) co k H.size) rfl hl.1 rfl (Nat.le_of_ble_eq_true rfl) d_RD_fault_24 (by decide) (by decide)) (fun r9 u9 H locs hp9 hw => ?_)
          obtain ⟨d9, rfl⟩ : ∃ z, z = u9 := ⟨_, rfl⟩
          obtain ⟨hp9, hb9⟩ := hp9
          have hw : kx_w D (kx_T cI cZ cO) A_ s_ [((ad 10), .inr (3, [.int dk.1, .int dk.2.1, .int dk.2.2.1, .int dk.2.2.2.1, .int dk.2.2.2.2.1, .int dk.2.2.2.2.2])), ((ad 0), .inr (0, [.int mm.1, .ref (ad 1), .ref (ad 6), .ref (ad 8), .ref (ad 10), .ref (ad 11), .ref (ad 12), .ref (ad 13), .ref (ad 14), .ref (ad 19), .ref (ad 20), .int mm.2.1, .int mm.2.2.1, .int mm.2.2.2])), ((ad 11), .inr (3, [.int d9.1, .int d9.2.1, .int d9.2.2.1, .int d9.2.2.2.1, .int d9.2.2.2.2.1, .int d9.2.2.2.2.2]))] H locs := hw
          exact kx_ret_z I rfl hw hb9 (dk, d9) ⟨(by simp only [f_RD_fault, ← hp1, if_neg h2, if_neg h3, if_pos h4, if_neg h5, ← hp9]), hb9⟩ [1, 0, 2] (by decide) rfl d_RD_fault_27
      · refine lv_iconst (v := 0) hx hb d_RD_fault_16 (by decide) ?_
        exact kx_ret_z I rfl hw (Or.inl rfl) (dk, co) ⟨(by simp only [f_RD_fault, ← hp1, if_neg h2, if_neg h3, if_neg h4]), (Or.inl rfl)⟩ [0, 1, 2] (by decide) rfl d_RD_fault_17
def f_RD_driver (mm : kt_M) (dk : kt_Dr) (co : kt_Dr) (d : Int32) (k : Int32) : Int32 :=
  match f_RD_isDriver d with
  | r1 => if r1 = 0 then (-2)
    else if d = 0 then (if k = 0 then dk.1
      else if k = 1 then dk.2.1
      else if k = 2 then dk.2.2.1
      else if k = 3 then dk.2.2.2.2.2
      else if k = 4 then (if dk.2.2.2.1 = 0 then 0
        else 1)
      else (-2))
    else if k = 0 then co.1
    else if k = 1 then co.2.1
    else if k = 2 then co.2.2.1
    else if k = 3 then co.2.2.2.2.2
    else if k = 4 then (if co.2.2.2.1 = 0 then 0
      else 1)
    else (-2)
set_option maxHeartbeats 4000000 in
set_option maxRecDepth 100000 in
theorem c_RD_driver (l : Launch) (D : va_G) (cI cZ cO : ClassId) (ad : Nat → Nat) (mm : kt_M) (dk : kt_Dr) (co : kt_Dr) (d : Int32) (k : Int32) : kx_Ci (S := Unit) l y_RD_driver b_RD_driver 4 (some .int) 1 0 0 D (kx_T cI cZ cO) [.ref (ad 0), .int d, .int k] [((ad 0), .inr (0, [.int mm.1, .ref (ad 1), .ref (ad 6), .ref (ad 8), .ref (ad 10), .ref (ad 11), .ref (ad 12), .ref (ad 13), .ref (ad 14), .ref (ad 19), .ref (ad 20), .int mm.2.1, .int mm.2.2.1, .int mm.2.2.2])), ((ad 10), .inr (3, [.int dk.1, .int dk.2.1, .int dk.2.2.1, .int dk.2.2.2.1, .int dk.2.2.2.2.1, .int dk.2.2.2.2.2])), ((ad 11), .inr (3, [.int co.1, .int co.2.1, .int co.2.2.1, .int co.2.2.2.1, .int co.2.2.2.2.1, .int co.2.2.2.2.2]))] (fun rr _ => rr = f_RD_driver mm dk co d k) (fun _ => [((ad 0), .inr (0, [.int mm.1, .ref (ad 1), .ref (ad 6), .ref (ad 8), .ref (ad 10), .ref (ad 11), .ref (ad 12), .ref (ad 13), .ref (ad 14), .ref (ad 19), .ref (ad 20), .int mm.2.1, .int mm.2.2.1, .int mm.2.2.2])), ((ad 10), .inr (3, [.int dk.1, .int dk.2.1, .int dk.2.2.1, .int dk.2.2.2.1, .int dk.2.2.2.2.1, .int dk.2.2.2.2.2])), ((ad 11), .inr (3, [.int co.1, .int co.2.1, .int co.2.2.1, .int co.2.2.2.1, .int co.2.2.2.2.1, .int co.2.2.2.2.2]))]) := by
  refine kx_enter_i (by decide) (Nat.le_of_ble_eq_true rfl) ?_
  intro p_ e_ s_ m_ below_ meth_ c_ ls A_ H I hl hw
  have S := I.1
  have hx := S.1
  have hb := S.2.1
  have hl : lv_has ls 4 [(0, .ref (ad 0)), (1, .int d), (2, .int k)] := hl
  refine lv_iload_n hx hb d_RD_driver_0 rfl (lv_at hl 1 rfl) ?_
  refine kx_call_i (wc := []) (wr := [((ad 0), .inr (0, [.int mm.1, .ref (ad 1), .ref (ad 6), .ref (ad 8), .ref (ad 10), .ref (ad 11), .ref (ad 12), .ref (ad 13), .ref (ad 14), .ref (ad 19), .ref (ad 20), .int mm.2.1, .int mm.2.2.1, .int mm.2.2.2])), ((ad 10), .inr (3, [.int dk.1, .int dk.2.1, .int dk.2.2.1, .int dk.2.2.2.1, .int dk.2.2.2.2.1, .int dk.2.2.2.2.2])), ((ad 11), .inr (3, [.int co.1, .int co.2.1, .int co.2.2.1, .int co.2.2.2.1, .int co.2.2.2.2.1, .int co.2.2.2.2.2]))]) (rest := []) hw [] [0, 1, 2] rfl rfl (by decide) (by decide) (kx_runS S hw fc_RD_99 [] (by decide) rfl (c_RD_isDriver l D cI cZ cO d H.size) rfl hl.1 rfl (Nat.le_of_ble_eq_true rfl) d_RD_driver_1 (by decide) (by decide)) (fun r1 u1 H locs hp1 hw => ?_)
  obtain ⟨hp1, hb1⟩ := hp1
  have hw : kx_w D (kx_T cI cZ cO) A_ s_ [((ad 0), .inr (0, [.int mm.1, .ref (ad 1), .ref (ad 6), .ref (ad 8), .ref (ad 10), .ref (ad 11), .ref (ad 12), .ref (ad 13), .ref (ad 14), .ref (ad 19), .ref (ad 20), .int mm.2.1, .int mm.2.2.1, .int mm.2.2.2])), ((ad 10), .inr (3, [.int dk.1, .int dk.2.1, .int dk.2.2.1, .int dk.2.2.2.1, .int dk.2.2.2.2.1, .int dk.2.2.2.2.2])), ((ad 11), .inr (3, [.int co.1, .int co.2.1, .int co.2.2.1, .int co.2.2.2.1, .int co.2.2.2.2.1, .int co.2.2.2.2.2]))] H locs := hw
  refine lv_if_ne (tgt := 10) hx hb d_RD_driver_4 (by decide) (fun h2 => ?_) (fun h2 => ?_)
  · refine lv_aload_n hx hb d_RD_driver_10 rfl (lv_at hl 0 rfl) ?_
    refine lv_iload_n hx hb d_RD_driver_11 rfl (lv_at hl 1 rfl) ?_
    by_cases h3 : d = 0
    · refine kx_call_r (wc := [((ad 0), .inr (0, [.int mm.1, .ref (ad 1), .ref (ad 6), .ref (ad 8), .ref (ad 10), .ref (ad 11), .ref (ad 12), .ref (ad 13), .ref (ad 14), .ref (ad 19), .ref (ad 20), .int mm.2.1, .int mm.2.2.1, .int mm.2.2.2]))]) (wr := [((ad 10), .inr (3, [.int dk.1, .int dk.2.1, .int dk.2.2.1, .int dk.2.2.2.1, .int dk.2.2.2.2.1, .int dk.2.2.2.2.2])), ((ad 11), .inr (3, [.int co.1, .int co.2.1, .int co.2.2.1, .int co.2.2.2.1, .int co.2.2.2.2.1, .int co.2.2.2.2.2]))]) (rest := []) hw [0] [1, 2] rfl rfl (by decide) (by decide) (kx_runV S hw fc_RD_102 rfl 0 rfl [0] (by decide) rfl (c_RD_driverOf_0 l D cI cZ cO ad mm d (h3) H.size) rfl hl.1 rfl (Nat.le_of_ble_eq_true rfl) d_RD_driver_12 (by decide) (by decide)) (fun u4 H locs hp4 hw => ?_)
      have hw : kx_w D (kx_T cI cZ cO) A_ s_ [((ad 10), .inr (3, [.int dk.1, .int dk.2.1, .int dk.2.2.1, .int dk.2.2.2.1, .int dk.2.2.2.2.1, .int dk.2.2.2.2.2])), ((ad 11), .inr (3, [.int co.1, .int co.2.1, .int co.2.2.1, .int co.2.2.2.1, .int co.2.2.2.2.1, .int co.2.2.2.2.2])), ((ad 0), .inr (0, [.int mm.1, .ref (ad 1), .ref (ad 6), .ref (ad 8), .ref (ad 10), .ref (ad 11), .ref (ad 12), .ref (ad 13), .ref (ad 14), .ref (ad 19), .ref (ad 20), .int mm.2.1, .int mm.2.2.1, .int mm.2.2.2]))] H locs := hw
      refine lv_astore_n (lv' := [(3, .ref (ad 10)), (0, .ref (ad 0)), (1, .int d), (2, .int k)]) hx hb d_RD_driver_15 rfl hl (by decide) rfl (fun ls hl => ?_)
      refine lv_iload_n hx hb d_RD_driver_16 rfl (lv_at hl 3 rfl) ?_
      by_cases h5 : k = 0
      · refine lv_tableIn (off := 35) (tgt := 52) hx hb d_RD_driver_17 (by rw [h5]; decide) (by rw [h5]; decide) (by rw [h5]; decide) (by decide) ?_
        refine lv_aload_n hx hb d_RD_driver_52 rfl (lv_at hl 0 rfl) ?_
        refine kx_get S hw fg_RD_134 0 rfl rfl d_RD_driver_53 ?_
        exact kx_ret_i I rfl hw () (by simp only [f_RD_driver, ← hp1, if_neg h2, if_pos h3, if_pos h5]) [2, 0, 1] (by decide) rfl d_RD_driver_56
      by_cases h6 : k = 1
      · refine lv_tableIn (off := 40) (tgt := 57) hx hb d_RD_driver_17 (by rw [h6]; decide) (by rw [h6]; decide) (by rw [h6]; decide) (by decide) ?_
        refine lv_aload_n hx hb d_RD_driver_57 rfl (lv_at hl 0 rfl) ?_
        refine kx_get S hw fg_RD_137 0 rfl rfl d_RD_driver_58 ?_
        exact kx_ret_i I rfl hw () (by simp only [f_RD_driver, ← hp1, if_neg h2, if_pos h3, if_neg h5, if_pos h6]) [2, 0, 1] (by decide) rfl d_RD_driver_61
      by_cases h7 : k = 2
      · refine lv_tableIn (off := 45) (tgt := 62) hx hb d_RD_driver_17 (by rw [h7]; decide) (by rw [h7]; decide) (by rw [h7]; decide) (by decide) ?_
        refine lv_aload_n hx hb d_RD_driver_62 rfl (lv_at hl 0 rfl) ?_
        refine kx_get S hw fg_RD_140 0 rfl rfl d_RD_driver_63 ?_
        exact kx_ret_i I rfl hw () (by simp only [f_RD_driver, ← hp1, if_neg h2, if_pos h3, if_neg h5, if_neg h6, if_pos h7]) [2, 0, 1] (by decide) rfl d_RD_driver_66
      by_cases h8 : k = 3
      · refine lv_tableIn (off := 50) (tgt := 67) hx hb d_RD_driver_17 (by rw [h8]; decide) (by rw [h8]; decide) (by rw [h8]; decide) (by decide) ?_
        refine lv_aload_n hx hb d_RD_driver_67 rfl (lv_at hl 0 rfl) ?_
        refine kx_get S hw fg_RD_143 0 rfl rfl d_RD_driver_68 ?_
        exact kx_ret_i I rfl hw () (by simp only [f_RD_driver, ← hp1, if_neg h2, if_pos h3, if_neg h5, if_neg h6, if_neg h7, if_pos h8]) [2, 0, 1] (by decide) rfl d_RD_driver_71
      by_cases h9 : k = 4
      · refine lv_tableIn (off := 55) (tgt := 72) hx hb d_RD_driver_17 (by rw [h9]; decide) (by rw [h9]; decide) (by rw [h9]; decide) (by decide) ?_
        refine lv_aload_n hx hb d_RD_driver_72 rfl (lv_at hl 0 rfl) ?_
        refine kx_get S hw fg_RD_146 0 rfl rfl d_RD_driver_73 ?_
        refine lv_if_eq (tgt := 83) hx hb d_RD_driver_76 (by decide) (fun h10 => ?_) (fun h10 => ?_)
        · refine lv_iconst (v := 0) hx hb d_RD_driver_83 (by decide) ?_
          exact kx_ret_i I rfl hw () (by simp only [f_RD_driver, ← hp1, if_neg h2, if_pos h3, if_neg h5, if_neg h6, if_neg h7, if_neg h8, if_pos h9, if_pos h10]) [2, 0, 1] (by decide) rfl d_RD_driver_84
        · refine lv_iconst (v := 1) hx hb d_RD_driver_79 (by decide) ?_
          refine lv_goto (tgt := 84) hx hb d_RD_driver_80 (by decide) ?_
          exact kx_ret_i I rfl hw () (by simp only [f_RD_driver, ← hp1, if_neg h2, if_pos h3, if_neg h5, if_neg h6, if_neg h7, if_neg h8, if_pos h9, if_neg h10]) [2, 0, 1] (by decide) rfl d_RD_driver_84
      refine lv_tableOut (tgt := 85) hx hb d_RD_driver_17 (kx_sw5 h5 h6 h7 h8 h9) (by decide) ?_
      refine lv_bipush (v := (-2)) hx hb d_RD_driver_85 (by decide) ?_
      exact kx_ret_i I rfl hw () (by simp only [f_RD_driver, ← hp1, if_neg h2, if_pos h3, if_neg h5, if_neg h6, if_neg h7, if_neg h8, if_neg h9]) [2, 0, 1] (by decide) rfl d_RD_driver_87
    · refine kx_call_r (wc := [((ad 0), .inr (0, [.int mm.1, .ref (ad 1), .ref (ad 6), .ref (ad 8), .ref (ad 10), .ref (ad 11), .ref (ad 12), .ref (ad 13), .ref (ad 14), .ref (ad 19), .ref (ad 20), .int mm.2.1, .int mm.2.2.1, .int mm.2.2.2]))]) (wr := [((ad 10), .inr (3, [.int dk.1, .int dk.2.1, .int dk.2.2.1, .int dk.2.2.2.1, .int dk.2.2.2.2.1, .int dk.2.2.2.2.2])), ((ad 11), .inr (3, [.int co.1, .int co.2.1, .int co.2.2.1, .int co.2.2.2.1, .int co.2.2.2.2.1, .int co.2.2.2.2.2]))]) (rest := []) hw [0] [1, 2] rfl rfl (by decide) (by decide) (kx_runV S hw fc_RD_102 rfl 0 rfl [0] (by decide) rfl (c_RD_driverOf_1 l D cI cZ cO ad mm d (h3) H.size) rfl hl.1 rfl (Nat.le_of_ble_eq_true rfl) d_RD_driver_12 (by decide) (by decide)) (fun u11 H locs hp11 hw => ?_)
      have hw : kx_w D (kx_T cI cZ cO) A_ s_ [((ad 10), .inr (3, [.int dk.1, .int dk.2.1, .int dk.2.2.1, .int dk.2.2.2.1, .int dk.2.2.2.2.1, .int dk.2.2.2.2.2])), ((ad 11), .inr (3, [.int co.1, .int co.2.1, .int co.2.2.1, .int co.2.2.2.1, .int co.2.2.2.2.1, .int co.2.2.2.2.2])), ((ad 0), .inr (0, [.int mm.1, .ref (ad 1), .ref (ad 6), .ref (ad 8), .ref (ad 10), .ref (ad 11), .ref (ad 12), .ref (ad 13), .ref (ad 14), .ref (ad 19), .ref (ad 20), .int mm.2.1, .int mm.2.2.1, .int mm.2.2.2]))] H locs := hw
      refine lv_astore_n (lv' := [(3, .ref (ad 11)), (0, .ref (ad 0)), (1, .int d), (2, .int k)]) hx hb d_RD_driver_15 rfl hl (by decide) rfl (fun ls hl => ?_)
      refine lv_iload_n hx hb d_RD_driver_16 rfl (lv_at hl 3 rfl) ?_
      by_cases h12 : k = 0
      · refine lv_tableIn (off := 35) (tgt := 52) hx hb d_RD_driver_17 (by rw [h12]; decide) (by rw [h12]; decide) (by rw [h12]; decide) (by decide) ?_
        refine lv_aload_n hx hb d_RD_driver_52 rfl (lv_at hl 0 rfl) ?_
        refine kx_get S hw fg_RD_134 1 rfl rfl d_RD_driver_53 ?_
        exact kx_ret_i I rfl hw () (by simp only [f_RD_driver, ← hp1, if_neg h2, if_neg h3, if_pos h12]) [2, 0, 1] (by decide) rfl d_RD_driver_56
      by_cases h13 : k = 1
      · refine lv_tableIn (off := 40) (tgt := 57) hx hb d_RD_driver_17 (by rw [h13]; decide) (by rw [h13]; decide) (by rw [h13]; decide) (by decide) ?_
        refine lv_aload_n hx hb d_RD_driver_57 rfl (lv_at hl 0 rfl) ?_
        refine kx_get S hw fg_RD_137 1 rfl rfl d_RD_driver_58 ?_
        exact kx_ret_i I rfl hw () (by simp only [f_RD_driver, ← hp1, if_neg h2, if_neg h3, if_neg h12, if_pos h13]) [2, 0, 1] (by decide) rfl d_RD_driver_61
      by_cases h14 : k = 2
      · refine lv_tableIn (off := 45) (tgt := 62) hx hb d_RD_driver_17 (by rw [h14]; decide) (by rw [h14]; decide) (by rw [h14]; decide) (by decide) ?_
        refine lv_aload_n hx hb d_RD_driver_62 rfl (lv_at hl 0 rfl) ?_
        refine kx_get S hw fg_RD_140 1 rfl rfl d_RD_driver_63 ?_
        exact kx_ret_i I rfl hw () (by simp only [f_RD_driver, ← hp1, if_neg h2, if_neg h3, if_neg h12, if_neg h13, if_pos h14]) [2, 0, 1] (by decide) rfl d_RD_driver_66
      by_cases h15 : k = 3
      · refine lv_tableIn (off := 50) (tgt := 67) hx hb d_RD_driver_17 (by rw [h15]; decide) (by rw [h15]; decide) (by rw [h15]; decide) (by decide) ?_
        refine lv_aload_n hx hb d_RD_driver_67 rfl (lv_at hl 0 rfl) ?_
        refine kx_get S hw fg_RD_143 1 rfl rfl d_RD_driver_68 ?_
        exact kx_ret_i I rfl hw () (by simp only [f_RD_driver, ← hp1, if_neg h2, if_neg h3, if_neg h12, if_neg h13, if_neg h14, if_pos h15]) [2, 0, 1] (by decide) rfl d_RD_driver_71
      by_cases h16 : k = 4
      · refine lv_tableIn (off := 55) (tgt := 72) hx hb d_RD_driver_17 (by rw [h16]; decide) (by rw [h16]; decide) (by rw [h16]; decide) (by decide) ?_
        refine lv_aload_n hx hb d_RD_driver_72 rfl (lv_at hl 0 rfl) ?_
        refine kx_get S hw fg_RD_146 1 rfl rfl d_RD_driver_73 ?_
        refine lv_if_eq (tgt := 83) hx hb d_RD_driver_76 (by decide) (fun h17 => ?_) (fun h17 => ?_)
        · refine lv_iconst (v := 0) hx hb d_RD_driver_83 (by decide) ?_
          exact kx_ret_i I rfl hw () (by simp only [f_RD_driver, ← hp1, if_neg h2, if_neg h3, if_neg h12, if_neg h13, if_neg h14, if_neg h15, if_pos h16, if_pos h17]) [2, 0, 1] (by decide) rfl d_RD_driver_84
        · refine lv_iconst (v := 1) hx hb d_RD_driver_79 (by decide) ?_
          refine lv_goto (tgt := 84) hx hb d_RD_driver_80 (by decide) ?_
          exact kx_ret_i I rfl hw () (by simp only [f_RD_driver, ← hp1, if_neg h2, if_neg h3, if_neg h12, if_neg h13, if_neg h14, if_neg h15, if_pos h16, if_neg h17]) [2, 0, 1] (by decide) rfl d_RD_driver_84
      refine lv_tableOut (tgt := 85) hx hb d_RD_driver_17 (kx_sw5 h12 h13 h14 h15 h16) (by decide) ?_
      refine lv_bipush (v := (-2)) hx hb d_RD_driver_85 (by decide) ?_
      exact kx_ret_i I rfl hw () (by simp only [f_RD_driver, ← hp1, if_neg h2, if_neg h3, if_neg h12, if_neg h13, if_neg h14, if_neg h15, if_neg h16]) [2, 0, 1] (by decide) rfl d_RD_driver_87
  · refine lv_bipush (v := (-2)) hx hb d_RD_driver_7 (by decide) ?_
    exact kx_ret_i I rfl hw () (by simp only [f_RD_driver, ← hp1, if_pos h2]) [0, 1, 2] (by decide) rfl d_RD_driver_9
def f_RD_state (mm : kt_M) (ops : (Nat → kt_Op)) (u : Int32) : Int32 :=
  match f_RD_isUser u with
  | r1 => if r1 = 0 then (-1)
    else (ops u.toNatClampNeg).2.2.2.2.1
set_option maxHeartbeats 4000000 in
set_option maxRecDepth 100000 in
theorem c_RD_state (l : Launch) (D : va_G) (cI cZ cO : ClassId) (ad : Nat → Nat) (mm : kt_M) (ops : (Nat → kt_Op)) (u : Int32) : kx_Ci (S := Unit) l y_RD_state b_RD_state 2 (some .int) 1 0 0 D (kx_T cI cZ cO) [.ref (ad 0), .int u] [((ad 0), .inr (0, [.int mm.1, .ref (ad 1), .ref (ad 6), .ref (ad 8), .ref (ad 10), .ref (ad 11), .ref (ad 12), .ref (ad 13), .ref (ad 14), .ref (ad 19), .ref (ad 20), .int mm.2.1, .int mm.2.2.1, .int mm.2.2.2])), ((ad 1), .inl (cO, 4, .inr (.inr (.inr (.inr (kx_opsf ad)))))), ((ad 2), .inr (1, [.int ((ops 0).1), .int ((ops 0).2.1), .int ((ops 0).2.2.1), .int ((ops 0).2.2.2.1), .int ((ops 0).2.2.2.2.1), .int ((ops 0).2.2.2.2.2)])), ((ad 3), .inr (1, [.int ((ops 1).1), .int ((ops 1).2.1), .int ((ops 1).2.2.1), .int ((ops 1).2.2.2.1), .int ((ops 1).2.2.2.2.1), .int ((ops 1).2.2.2.2.2)])), ((ad 4), .inr (1, [.int ((ops 2).1), .int ((ops 2).2.1), .int ((ops 2).2.2.1), .int ((ops 2).2.2.2.1), .int ((ops 2).2.2.2.2.1), .int ((ops 2).2.2.2.2.2)])), ((ad 5), .inr (1, [.int ((ops 3).1), .int ((ops 3).2.1), .int ((ops 3).2.2.1), .int ((ops 3).2.2.2.1), .int ((ops 3).2.2.2.2.1), .int ((ops 3).2.2.2.2.2)]))] (fun rr _ => rr = f_RD_state mm ops u) (fun _ => [((ad 0), .inr (0, [.int mm.1, .ref (ad 1), .ref (ad 6), .ref (ad 8), .ref (ad 10), .ref (ad 11), .ref (ad 12), .ref (ad 13), .ref (ad 14), .ref (ad 19), .ref (ad 20), .int mm.2.1, .int mm.2.2.1, .int mm.2.2.2])), ((ad 1), .inl (cO, 4, .inr (.inr (.inr (.inr (kx_opsf ad)))))), ((ad 2), .inr (1, [.int ((ops 0).1), .int ((ops 0).2.1), .int ((ops 0).2.2.1), .int ((ops 0).2.2.2.1), .int ((ops 0).2.2.2.2.1), .int ((ops 0).2.2.2.2.2)])), ((ad 3), .inr (1, [.int ((ops 1).1), .int ((ops 1).2.1), .int ((ops 1).2.2.1), .int ((ops 1).2.2.2.1), .int ((ops 1).2.2.2.2.1), .int ((ops 1).2.2.2.2.2)])), ((ad 4), .inr (1, [.int ((ops 2).1), .int ((ops 2).2.1), .int ((ops 2).2.2.1), .int ((ops 2).2.2.2.1), .int ((ops 2).2.2.2.2.1), .int ((ops 2).2.2.2.2.2)])), ((ad 5), .inr (1, [.int ((ops 3).1), .int ((ops 3).2.1), .int ((ops 3).2.2.1), .int ((ops 3).2.2.2.1), .int ((ops 3).2.2.2.2.1), .int ((ops 3).2.2.2.2.2)]))]) := by
  refine kx_enter_i (by decide) (Nat.le_of_ble_eq_true rfl) ?_
  intro p_ e_ s_ m_ below_ meth_ c_ ls A_ H I hl hw
  have S := I.1
  have hx := S.1
  have hb := S.2.1
  have hl : lv_has ls 2 [(0, .ref (ad 0)), (1, .int u)] := hl
  refine lv_iload_n hx hb d_RD_state_0 rfl (lv_at hl 1 rfl) ?_
  refine kx_call_i (wc := []) (wr := [((ad 0), .inr (0, [.int mm.1, .ref (ad 1), .ref (ad 6), .ref (ad 8), .ref (ad 10), .ref (ad 11), .ref (ad 12), .ref (ad 13), .ref (ad 14), .ref (ad 19), .ref (ad 20), .int mm.2.1, .int mm.2.2.1, .int mm.2.2.2])), ((ad 1), .inl (cO, 4, .inr (.inr (.inr (.inr (kx_opsf ad)))))), ((ad 2), .inr (1, [.int ((ops 0).1), .int ((ops 0).2.1), .int ((ops 0).2.2.1), .int ((ops 0).2.2.2.1), .int ((ops 0).2.2.2.2.1), .int ((ops 0).2.2.2.2.2)])), ((ad 3), .inr (1, [.int ((ops 1).1), .int ((ops 1).2.1), .int ((ops 1).2.2.1), .int ((ops 1).2.2.2.1), .int ((ops 1).2.2.2.2.1), .int ((ops 1).2.2.2.2.2)])), ((ad 4), .inr (1, [.int ((ops 2).1), .int ((ops 2).2.1), .int ((ops 2).2.2.1), .int ((ops 2).2.2.2.1), .int ((ops 2).2.2.2.2.1), .int ((ops 2).2.2.2.2.2)])), ((ad 5), .inr (1, [.int ((ops 3).1), .int ((ops 3).2.1), .int ((ops 3).2.2.1), .int ((ops 3).2.2.2.1), .int ((ops 3).2.2.2.2.1), .int ((ops 3).2.2.2.2.2)]))]) (rest := []) hw [] [0, 1, 2, 3, 4, 5] rfl rfl (by decide) (by decide) (kx_runS S hw fc_RD_109 [] (by decide) rfl (c_RD_isUser l D cI cZ cO u H.size) rfl hl.1 rfl (Nat.le_of_ble_eq_true rfl) d_RD_state_1 (by decide) (by decide)) (fun r1 u1 H locs hp1 hw => ?_)
  obtain ⟨hp1, hb1⟩ := hp1
  have hw : kx_w D (kx_T cI cZ cO) A_ s_ [((ad 0), .inr (0, [.int mm.1, .ref (ad 1), .ref (ad 6), .ref (ad 8), .ref (ad 10), .ref (ad 11), .ref (ad 12), .ref (ad 13), .ref (ad 14), .ref (ad 19), .ref (ad 20), .int mm.2.1, .int mm.2.2.1, .int mm.2.2.2])), ((ad 1), .inl (cO, 4, .inr (.inr (.inr (.inr (kx_opsf ad)))))), ((ad 2), .inr (1, [.int ((ops 0).1), .int ((ops 0).2.1), .int ((ops 0).2.2.1), .int ((ops 0).2.2.2.1), .int ((ops 0).2.2.2.2.1), .int ((ops 0).2.2.2.2.2)])), ((ad 3), .inr (1, [.int ((ops 1).1), .int ((ops 1).2.1), .int ((ops 1).2.2.1), .int ((ops 1).2.2.2.1), .int ((ops 1).2.2.2.2.1), .int ((ops 1).2.2.2.2.2)])), ((ad 4), .inr (1, [.int ((ops 2).1), .int ((ops 2).2.1), .int ((ops 2).2.2.1), .int ((ops 2).2.2.2.1), .int ((ops 2).2.2.2.2.1), .int ((ops 2).2.2.2.2.2)])), ((ad 5), .inr (1, [.int ((ops 3).1), .int ((ops 3).2.1), .int ((ops 3).2.2.1), .int ((ops 3).2.2.2.1), .int ((ops 3).2.2.2.2.1), .int ((ops 3).2.2.2.2.2)]))] H locs := hw
  refine lv_if_eq (tgt := 19) hx hb d_RD_state_4 (by decide) (fun h2 => ?_) (fun h2 => ?_)
  · refine lv_iconst (v := (-1)) hx hb d_RD_state_19 (by decide) ?_
    exact kx_ret_i I rfl hw () (by simp only [f_RD_state, ← hp1, if_pos h2]) [0, 1, 2, 3, 4, 5] (by decide) rfl d_RD_state_20
  · refine lv_aload_n hx hb d_RD_state_7 rfl (lv_at hl 0 rfl) ?_
    refine kx_get S hw fg_RD_11 0 rfl rfl d_RD_state_8 ?_
    refine lv_iload_n hx hb d_RD_state_11 rfl (lv_at hl 1 rfl) ?_
    rcases kx_c4 (i := u) (l_isUser (hp1 ▸ h2)) with e3 | e3 | e3 | e3
    · refine kx_aald S hw 1 2 rfl rfl (b := (ad 2)) (by rw [e3]; rfl) (l_isUser (hp1 ▸ h2)) d_RD_state_12 ?_
      refine kx_get S hw fg_RD_112 2 rfl rfl d_RD_state_13 ?_
      refine lv_goto (tgt := 20) hx hb d_RD_state_16 (by decide) ?_
      exact kx_ret_i I rfl hw () (by simp only [f_RD_state, ← hp1, if_neg h2, e3]) [0, 1, 2, 3, 4, 5] (by decide) rfl d_RD_state_20
    · refine kx_aald S hw 1 2 rfl rfl (b := (ad 3)) (by rw [e3]; rfl) (l_isUser (hp1 ▸ h2)) d_RD_state_12 ?_
      refine kx_get S hw fg_RD_112 3 rfl rfl d_RD_state_13 ?_
      refine lv_goto (tgt := 20) hx hb d_RD_state_16 (by decide) ?_
      exact kx_ret_i I rfl hw () (by simp only [f_RD_state, ← hp1, if_neg h2, e3]) [0, 1, 2, 3, 4, 5] (by decide) rfl d_RD_state_20
    · refine kx_aald S hw 1 2 rfl rfl (b := (ad 4)) (by rw [e3]; rfl) (l_isUser (hp1 ▸ h2)) d_RD_state_12 ?_
      refine kx_get S hw fg_RD_112 4 rfl rfl d_RD_state_13 ?_
      refine lv_goto (tgt := 20) hx hb d_RD_state_16 (by decide) ?_
      exact kx_ret_i I rfl hw () (by simp only [f_RD_state, ← hp1, if_neg h2, e3]) [0, 1, 2, 3, 4, 5] (by decide) rfl d_RD_state_20
    · refine kx_aald S hw 1 2 rfl rfl (b := (ad 5)) (by rw [e3]; rfl) (l_isUser (hp1 ▸ h2)) d_RD_state_12 ?_
      refine kx_get S hw fg_RD_112 5 rfl rfl d_RD_state_13 ?_
      refine lv_goto (tgt := 20) hx hb d_RD_state_16 (by decide) ?_
      exact kx_ret_i I rfl hw () (by simp only [f_RD_state, ← hp1, if_neg h2, e3]) [0, 1, 2, 3, 4, 5] (by decide) rfl d_RD_state_20
def f_RD_result (mm : kt_M) (ops : (Nat → kt_Op)) (u : Int32) : Int32 :=
  match f_RD_isUser u with
  | r1 => if r1 = 0 then 0
    else (ops u.toNatClampNeg).2.2.2.2.2
set_option maxHeartbeats 4000000 in
set_option maxRecDepth 100000 in
theorem c_RD_result (l : Launch) (D : va_G) (cI cZ cO : ClassId) (ad : Nat → Nat) (mm : kt_M) (ops : (Nat → kt_Op)) (u : Int32) : kx_Ci (S := Unit) l y_RD_result b_RD_result 2 (some .int) 1 0 0 D (kx_T cI cZ cO) [.ref (ad 0), .int u] [((ad 0), .inr (0, [.int mm.1, .ref (ad 1), .ref (ad 6), .ref (ad 8), .ref (ad 10), .ref (ad 11), .ref (ad 12), .ref (ad 13), .ref (ad 14), .ref (ad 19), .ref (ad 20), .int mm.2.1, .int mm.2.2.1, .int mm.2.2.2])), ((ad 1), .inl (cO, 4, .inr (.inr (.inr (.inr (kx_opsf ad)))))), ((ad 2), .inr (1, [.int ((ops 0).1), .int ((ops 0).2.1), .int ((ops 0).2.2.1), .int ((ops 0).2.2.2.1), .int ((ops 0).2.2.2.2.1), .int ((ops 0).2.2.2.2.2)])), ((ad 3), .inr (1, [.int ((ops 1).1), .int ((ops 1).2.1), .int ((ops 1).2.2.1), .int ((ops 1).2.2.2.1), .int ((ops 1).2.2.2.2.1), .int ((ops 1).2.2.2.2.2)])), ((ad 4), .inr (1, [.int ((ops 2).1), .int ((ops 2).2.1), .int ((ops 2).2.2.1), .int ((ops 2).2.2.2.1), .int ((ops 2).2.2.2.2.1), .int ((ops 2).2.2.2.2.2)])), ((ad 5), .inr (1, [.int ((ops 3).1), .int ((ops 3).2.1), .int ((ops 3).2.2.1), .int ((ops 3).2.2.2.1), .int ((ops 3).2.2.2.2.1), .int ((ops 3).2.2.2.2.2)]))] (fun rr _ => rr = f_RD_result mm ops u) (fun _ => [((ad 0), .inr (0, [.int mm.1, .ref (ad 1), .ref (ad 6), .ref (ad 8), .ref (ad 10), .ref (ad 11), .ref (ad 12), .ref (ad 13), .ref (ad 14), .ref (ad 19), .ref (ad 20), .int mm.2.1, .int mm.2.2.1, .int mm.2.2.2])), ((ad 1), .inl (cO, 4, .inr (.inr (.inr (.inr (kx_opsf ad)))))), ((ad 2), .inr (1, [.int ((ops 0).1), .int ((ops 0).2.1), .int ((ops 0).2.2.1), .int ((ops 0).2.2.2.1), .int ((ops 0).2.2.2.2.1), .int ((ops 0).2.2.2.2.2)])), ((ad 3), .inr (1, [.int ((ops 1).1), .int ((ops 1).2.1), .int ((ops 1).2.2.1), .int ((ops 1).2.2.2.1), .int ((ops 1).2.2.2.2.1), .int ((ops 1).2.2.2.2.2)])), ((ad 4), .inr (1, [.int ((ops 2).1), .int ((ops 2).2.1), .int ((ops 2).2.2.1), .int ((ops 2).2.2.2.1), .int ((ops 2).2.2.2.2.1), .int ((ops 2).2.2.2.2.2)])), ((ad 5), .inr (1, [.int ((ops 3).1), .int ((ops 3).2.1), .int ((ops 3).2.2.1), .int ((ops 3).2.2.2.1), .int ((ops 3).2.2.2.2.1), .int ((ops 3).2.2.2.2.2)]))]) := by
  refine kx_enter_i (by decide) (Nat.le_of_ble_eq_true rfl) ?_
  intro p_ e_ s_ m_ below_ meth_ c_ ls A_ H I hl hw
  have S := I.1
  have hx := S.1
  have hb := S.2.1
  have hl : lv_has ls 2 [(0, .ref (ad 0)), (1, .int u)] := hl
  refine lv_iload_n hx hb d_RD_result_0 rfl (lv_at hl 1 rfl) ?_
  refine kx_call_i (wc := []) (wr := [((ad 0), .inr (0, [.int mm.1, .ref (ad 1), .ref (ad 6), .ref (ad 8), .ref (ad 10), .ref (ad 11), .ref (ad 12), .ref (ad 13), .ref (ad 14), .ref (ad 19), .ref (ad 20), .int mm.2.1, .int mm.2.2.1, .int mm.2.2.2])), ((ad 1), .inl (cO, 4, .inr (.inr (.inr (.inr (kx_opsf ad)))))), ((ad 2), .inr (1, [.int ((ops 0).1), .int ((ops 0).2.1), .int ((ops 0).2.2.1), .int ((ops 0).2.2.2.1), .int ((ops 0).2.2.2.2.1), .int ((ops 0).2.2.2.2.2)])), ((ad 3), .inr (1, [.int ((ops 1).1), .int ((ops 1).2.1), .int ((ops 1).2.2.1), .int ((ops 1).2.2.2.1), .int ((ops 1).2.2.2.2.1), .int ((ops 1).2.2.2.2.2)])), ((ad 4), .inr (1, [.int ((ops 2).1), .int ((ops 2).2.1), .int ((ops 2).2.2.1), .int ((ops 2).2.2.2.1), .int ((ops 2).2.2.2.2.1), .int ((ops 2).2.2.2.2.2)])), ((ad 5), .inr (1, [.int ((ops 3).1), .int ((ops 3).2.1), .int ((ops 3).2.2.1), .int ((ops 3).2.2.2.1), .int ((ops 3).2.2.2.2.1), .int ((ops 3).2.2.2.2.2)]))]) (rest := []) hw [] [0, 1, 2, 3, 4, 5] rfl rfl (by decide) (by decide) (kx_runS S hw fc_RD_109 [] (by decide) rfl (c_RD_isUser l D cI cZ cO u H.size) rfl hl.1 rfl (Nat.le_of_ble_eq_true rfl) d_RD_result_1 (by decide) (by decide)) (fun r1 u1 H locs hp1 hw => ?_)
  obtain ⟨hp1, hb1⟩ := hp1
  have hw : kx_w D (kx_T cI cZ cO) A_ s_ [((ad 0), .inr (0, [.int mm.1, .ref (ad 1), .ref (ad 6), .ref (ad 8), .ref (ad 10), .ref (ad 11), .ref (ad 12), .ref (ad 13), .ref (ad 14), .ref (ad 19), .ref (ad 20), .int mm.2.1, .int mm.2.2.1, .int mm.2.2.2])), ((ad 1), .inl (cO, 4, .inr (.inr (.inr (.inr (kx_opsf ad)))))), ((ad 2), .inr (1, [.int ((ops 0).1), .int ((ops 0).2.1), .int ((ops 0).2.2.1), .int ((ops 0).2.2.2.1), .int ((ops 0).2.2.2.2.1), .int ((ops 0).2.2.2.2.2)])), ((ad 3), .inr (1, [.int ((ops 1).1), .int ((ops 1).2.1), .int ((ops 1).2.2.1), .int ((ops 1).2.2.2.1), .int ((ops 1).2.2.2.2.1), .int ((ops 1).2.2.2.2.2)])), ((ad 4), .inr (1, [.int ((ops 2).1), .int ((ops 2).2.1), .int ((ops 2).2.2.1), .int ((ops 2).2.2.2.1), .int ((ops 2).2.2.2.2.1), .int ((ops 2).2.2.2.2.2)])), ((ad 5), .inr (1, [.int ((ops 3).1), .int ((ops 3).2.1), .int ((ops 3).2.2.1), .int ((ops 3).2.2.2.1), .int ((ops 3).2.2.2.2.1), .int ((ops 3).2.2.2.2.2)]))] H locs := hw
  refine lv_if_eq (tgt := 19) hx hb d_RD_result_4 (by decide) (fun h2 => ?_) (fun h2 => ?_)
  · refine lv_iconst (v := 0) hx hb d_RD_result_19 (by decide) ?_
    exact kx_ret_i I rfl hw () (by simp only [f_RD_result, ← hp1, if_pos h2]) [0, 1, 2, 3, 4, 5] (by decide) rfl d_RD_result_20
  · refine lv_aload_n hx hb d_RD_result_7 rfl (lv_at hl 0 rfl) ?_
    refine kx_get S hw fg_RD_11 0 rfl rfl d_RD_result_8 ?_
    refine lv_iload_n hx hb d_RD_result_11 rfl (lv_at hl 1 rfl) ?_
    rcases kx_c4 (i := u) (l_isUser (hp1 ▸ h2)) with e3 | e3 | e3 | e3
    · refine kx_aald S hw 1 2 rfl rfl (b := (ad 2)) (by rw [e3]; rfl) (l_isUser (hp1 ▸ h2)) d_RD_result_12 ?_
      refine kx_get S hw fg_RD_115 2 rfl rfl d_RD_result_13 ?_
      refine lv_goto (tgt := 20) hx hb d_RD_result_16 (by decide) ?_
      exact kx_ret_i I rfl hw () (by simp only [f_RD_result, ← hp1, if_neg h2, e3]) [0, 1, 2, 3, 4, 5] (by decide) rfl d_RD_result_20
    · refine kx_aald S hw 1 2 rfl rfl (b := (ad 3)) (by rw [e3]; rfl) (l_isUser (hp1 ▸ h2)) d_RD_result_12 ?_
      refine kx_get S hw fg_RD_115 3 rfl rfl d_RD_result_13 ?_
      refine lv_goto (tgt := 20) hx hb d_RD_result_16 (by decide) ?_
      exact kx_ret_i I rfl hw () (by simp only [f_RD_result, ← hp1, if_neg h2, e3]) [0, 1, 2, 3, 4, 5] (by decide) rfl d_RD_result_20
    · refine kx_aald S hw 1 2 rfl rfl (b := (ad 4)) (by rw [e3]; rfl) (l_isUser (hp1 ▸ h2)) d_RD_result_12 ?_
      refine kx_get S hw fg_RD_115 4 rfl rfl d_RD_result_13 ?_
      refine lv_goto (tgt := 20) hx hb d_RD_result_16 (by decide) ?_
      exact kx_ret_i I rfl hw () (by simp only [f_RD_result, ← hp1, if_neg h2, e3]) [0, 1, 2, 3, 4, 5] (by decide) rfl d_RD_result_20
    · refine kx_aald S hw 1 2 rfl rfl (b := (ad 5)) (by rw [e3]; rfl) (l_isUser (hp1 ▸ h2)) d_RD_result_12 ?_
      refine kx_get S hw fg_RD_115 5 rfl rfl d_RD_result_13 ?_
      refine lv_goto (tgt := 20) hx hb d_RD_result_16 (by decide) ?_
      exact kx_ret_i I rfl hw () (by simp only [f_RD_result, ← hp1, if_neg h2, e3]) [0, 1, 2, 3, 4, 5] (by decide) rfl d_RD_result_20
def f_RD_line (mm : kt_M) (fl : kt_Ln) (tl : kt_Ln) (s : Int32) : Int32 :=
  if s = 0 then fl.2
  else if s = 1 then tl.2
  else (-1)
set_option maxHeartbeats 4000000 in
set_option maxRecDepth 100000 in
theorem c_RD_line (l : Launch) (D : va_G) (cI cZ cO : ClassId) (ad : Nat → Nat) (mm : kt_M) (fl : kt_Ln) (tl : kt_Ln) (s : Int32) : kx_Ci (S := Unit) l y_RD_line b_RD_line 2 (some .int) 0 0 0 D (kx_T cI cZ cO) [.ref (ad 0), .int s] [((ad 0), .inr (0, [.int mm.1, .ref (ad 1), .ref (ad 6), .ref (ad 8), .ref (ad 10), .ref (ad 11), .ref (ad 12), .ref (ad 13), .ref (ad 14), .ref (ad 19), .ref (ad 20), .int mm.2.1, .int mm.2.2.1, .int mm.2.2.2])), ((ad 6), .inr (2, [.ref (ad 7), .int fl.2])), ((ad 7), .inl (cI, 4, .inl fl.1)), ((ad 8), .inr (2, [.ref (ad 9), .int tl.2])), ((ad 9), .inl (cI, 4, .inl tl.1))] (fun rr _ => rr = f_RD_line mm fl tl s) (fun _ => [((ad 0), .inr (0, [.int mm.1, .ref (ad 1), .ref (ad 6), .ref (ad 8), .ref (ad 10), .ref (ad 11), .ref (ad 12), .ref (ad 13), .ref (ad 14), .ref (ad 19), .ref (ad 20), .int mm.2.1, .int mm.2.2.1, .int mm.2.2.2])), ((ad 6), .inr (2, [.ref (ad 7), .int fl.2])), ((ad 7), .inl (cI, 4, .inl fl.1)), ((ad 8), .inr (2, [.ref (ad 9), .int tl.2])), ((ad 9), .inl (cI, 4, .inl tl.1))]) := by
  refine kx_enter_i (by decide) (Nat.le_of_ble_eq_true rfl) ?_
  intro p_ e_ s_ m_ below_ meth_ c_ ls A_ H I hl hw
  have S := I.1
  have hx := S.1
  have hb := S.2.1
  have hl : lv_has ls 2 [(0, .ref (ad 0)), (1, .int s)] := hl
  refine lv_iload_n hx hb d_RD_line_0 rfl (lv_at hl 1 rfl) ?_
  refine lv_if_ne (tgt := 12) hx hb d_RD_line_1 (by decide) (fun h1 => ?_) (fun h1 => ?_)
  · refine lv_iload_n hx hb d_RD_line_12 rfl (lv_at hl 1 rfl) ?_
    refine lv_iconst (v := 1) hx hb d_RD_line_13 (by decide) ?_
    refine lv_icmp_ne (tgt := 27) hx hb d_RD_line_14 (by decide) (fun h2 => ?_) (fun h2 => ?_)
    · refine lv_iconst (v := (-1)) hx hb d_RD_line_27 (by decide) ?_
      exact kx_ret_i I rfl hw () (by simp only [f_RD_line, if_neg h1, if_neg h2]) [0, 1, 2, 3, 4] (by decide) rfl d_RD_line_28
    · refine lv_aload_n hx hb d_RD_line_17 rfl (lv_at hl 0 rfl) ?_
      refine kx_get S hw fg_RD_22 0 rfl rfl d_RD_line_18 ?_
      refine kx_get S hw fg_RD_118 3 rfl rfl d_RD_line_21 ?_
      refine lv_goto (tgt := 28) hx hb d_RD_line_24 (by decide) ?_
      exact kx_ret_i I rfl hw () (by simp only [f_RD_line, if_neg h1, if_pos h2]) [0, 1, 2, 3, 4] (by decide) rfl d_RD_line_28
  · refine lv_aload_n hx hb d_RD_line_4 rfl (lv_at hl 0 rfl) ?_
    refine kx_get S hw fg_RD_18 0 rfl rfl d_RD_line_5 ?_
    refine kx_get S hw fg_RD_118 1 rfl rfl d_RD_line_8 ?_
    exact kx_ret_i I rfl hw () (by simp only [f_RD_line, if_pos h1]) [0, 1, 2, 3, 4] (by decide) rfl d_RD_line_11
def f_RD_device (mm : kt_M) (dv : (Nat → Int32)) (b : Int32) : Int32 :=
  match f_RD_isBlock b with
  | r1 => if r1 = 0 then 0
    else dv b.toNatClampNeg
set_option maxHeartbeats 4000000 in
set_option maxRecDepth 100000 in
theorem c_RD_device (l : Launch) (D : va_G) (cI cZ cO : ClassId) (ad : Nat → Nat) (mm : kt_M) (dv : (Nat → Int32)) (b : Int32) : kx_Ci (S := Unit) l y_RD_device b_RD_device 2 (some .int) 1 0 0 D (kx_T cI cZ cO) [.ref (ad 0), .int b] [((ad 0), .inr (0, [.int mm.1, .ref (ad 1), .ref (ad 6), .ref (ad 8), .ref (ad 10), .ref (ad 11), .ref (ad 12), .ref (ad 13), .ref (ad 14), .ref (ad 19), .ref (ad 20), .int mm.2.1, .int mm.2.2.1, .int mm.2.2.2])), ((ad 19), .inl (cI, 16, .inl dv))] (fun rr _ => rr = f_RD_device mm dv b) (fun _ => [((ad 0), .inr (0, [.int mm.1, .ref (ad 1), .ref (ad 6), .ref (ad 8), .ref (ad 10), .ref (ad 11), .ref (ad 12), .ref (ad 13), .ref (ad 14), .ref (ad 19), .ref (ad 20), .int mm.2.1, .int mm.2.2.1, .int mm.2.2.2])), ((ad 19), .inl (cI, 16, .inl dv))]) := by
  refine kx_enter_i (by decide) (Nat.le_of_ble_eq_true rfl) ?_
  intro p_ e_ s_ m_ below_ meth_ c_ ls A_ H I hl hw
  have S := I.1
  have hx := S.1
  have hb := S.2.1
  have hl : lv_has ls 2 [(0, .ref (ad 0)), (1, .int b)] := hl
  refine lv_iload_n hx hb d_RD_device_0 rfl (lv_at hl 1 rfl) ?_
  refine kx_call_i (wc := []) (wr := [((ad 0), .inr (0, [.int mm.1, .ref (ad 1), .ref (ad 6), .ref (ad 8), .ref (ad 10), .ref (ad 11), .ref (ad 12), .ref (ad 13), .ref (ad 14), .ref (ad 19), .ref (ad 20), .int mm.2.1, .int mm.2.2.1, .int mm.2.2.2])), ((ad 19), .inl (cI, 16, .inl dv))]) (rest := []) hw [] [0, 1] rfl rfl (by decide) (by decide) (kx_runS S hw fc_RD_68 [] (by decide) rfl (c_RD_isBlock l D cI cZ cO b H.size) rfl hl.1 rfl (Nat.le_of_ble_eq_true rfl) d_RD_device_1 (by decide) (by decide)) (fun r1 u1 H locs hp1 hw => ?_)
  obtain ⟨hp1, hb1⟩ := hp1
  have hw : kx_w D (kx_T cI cZ cO) A_ s_ [((ad 0), .inr (0, [.int mm.1, .ref (ad 1), .ref (ad 6), .ref (ad 8), .ref (ad 10), .ref (ad 11), .ref (ad 12), .ref (ad 13), .ref (ad 14), .ref (ad 19), .ref (ad 20), .int mm.2.1, .int mm.2.2.1, .int mm.2.2.2])), ((ad 19), .inl (cI, 16, .inl dv))] H locs := hw
  refine lv_if_eq (tgt := 16) hx hb d_RD_device_4 (by decide) (fun h2 => ?_) (fun h2 => ?_)
  · refine lv_iconst (v := 0) hx hb d_RD_device_16 (by decide) ?_
    exact kx_ret_i I rfl hw () (by simp only [f_RD_device, ← hp1, if_pos h2]) [0, 1] (by decide) rfl d_RD_device_17
  · refine lv_aload_n hx hb d_RD_device_7 rfl (lv_at hl 0 rfl) ?_
    refine kx_get S hw fg_RD_52 0 rfl rfl d_RD_device_8 ?_
    refine lv_iload_n hx hb d_RD_device_11 rfl (lv_at hl 1 rfl) ?_
    refine kx_iald S hw 1 0 rfl rfl (j := b.toNatClampNeg) rfl (l_isBlock (hp1 ▸ h2)) d_RD_device_12 ?_
    refine lv_goto (tgt := 17) hx hb d_RD_device_13 (by decide) ?_
    exact kx_ret_i I rfl hw () (by simp only [f_RD_device, ← hp1, if_neg h2]) [0, 1] (by decide) rfl d_RD_device_17
def f_RD_slot (mm : kt_M) (ca : kt_Ca) (i : Int32) (k : Int32) : Int32 :=
  if i < 0 then (-1)
  else if i < 3 then (if k = 0 then ca.1 i.toNatClampNeg
    else if k = 1 then (if (ca.1 i.toNatClampNeg) = (-1) then 0
      else ca.2.1 i.toNatClampNeg)
    else if k = 2 then (if (ca.2.2.1 i.toNatClampNeg) = 0 then 0
      else 1)
    else (-1))
  else (-1)
set_option maxHeartbeats 4000000 in
set_option maxRecDepth 100000 in
theorem c_RD_slot (l : Launch) (D : va_G) (cI cZ cO : ClassId) (ad : Nat → Nat) (mm : kt_M) (ca : kt_Ca) (i : Int32) (k : Int32) : kx_Ci (S := Unit) l y_RD_slot b_RD_slot 3 (some .int) 0 0 0 D (kx_T cI cZ cO) [.ref (ad 0), .int i, .int k] [((ad 0), .inr (0, [.int mm.1, .ref (ad 1), .ref (ad 6), .ref (ad 8), .ref (ad 10), .ref (ad 11), .ref (ad 12), .ref (ad 13), .ref (ad 14), .ref (ad 19), .ref (ad 20), .int mm.2.1, .int mm.2.2.1, .int mm.2.2.2])), ((ad 14), .inr (5, [.ref (ad 15), .ref (ad 16), .ref (ad 17), .ref (ad 18)])), ((ad 15), .inl (cI, 3, .inl ca.1)), ((ad 16), .inl (cI, 3, .inl ca.2.1)), ((ad 17), .inl (cZ, 3, .inl ca.2.2.1)), ((ad 18), .inl (cI, 3, .inl ca.2.2.2))] (fun rr _ => rr = f_RD_slot mm ca i k) (fun _ => [((ad 0), .inr (0, [.int mm.1, .ref (ad 1), .ref (ad 6), .ref (ad 8), .ref (ad 10), .ref (ad 11), .ref (ad 12), .ref (ad 13), .ref (ad 14), .ref (ad 19), .ref (ad 20), .int mm.2.1, .int mm.2.2.1, .int mm.2.2.2])), ((ad 14), .inr (5, [.ref (ad 15), .ref (ad 16), .ref (ad 17), .ref (ad 18)])), ((ad 15), .inl (cI, 3, .inl ca.1)), ((ad 16), .inl (cI, 3, .inl ca.2.1)), ((ad 17), .inl (cZ, 3, .inl ca.2.2.1)), ((ad 18), .inl (cI, 3, .inl ca.2.2.2))]) := by
  refine kx_enter_i (by decide) (Nat.le_of_ble_eq_true rfl) ?_
  intro p_ e_ s_ m_ below_ meth_ c_ ls A_ H I hl hw
  have S := I.1
  have hx := S.1
  have hb := S.2.1
  have hl : lv_has ls 3 [(0, .ref (ad 0)), (1, .int i), (2, .int k)] := hl
  refine lv_iload_n hx hb d_RD_slot_0 rfl (lv_at hl 1 rfl) ?_
  refine lv_if_lt (tgt := 9) hx hb d_RD_slot_1 (by decide) (fun h1 => ?_) (fun h1 => ?_)
  · refine lv_iconst (v := (-1)) hx hb d_RD_slot_9 (by decide) ?_
    exact kx_ret_i I rfl hw () (by simp only [f_RD_slot, if_pos h1]) [0, 1, 2, 3, 4, 5] (by decide) rfl d_RD_slot_10
  · refine lv_iload_n hx hb d_RD_slot_4 rfl (lv_at hl 1 rfl) ?_
    refine lv_iconst (v := 3) hx hb d_RD_slot_5 (by decide) ?_
    refine lv_icmp_lt (tgt := 11) hx hb d_RD_slot_6 (by decide) (fun h2 => ?_) (fun h2 => ?_)
    · refine lv_iload_n hx hb d_RD_slot_11 rfl (lv_at hl 2 rfl) ?_
      by_cases h3 : k = 0
      · refine lv_tableIn (off := 28) (tgt := 40) hx hb d_RD_slot_12 (by rw [h3]; decide) (by rw [h3]; decide) (by rw [h3]; decide) (by decide) ?_
        refine lv_aload_n hx hb d_RD_slot_40 rfl (lv_at hl 0 rfl) ?_
        refine kx_get S hw fg_RD_48 0 rfl rfl d_RD_slot_41 ?_
        refine kx_get S hw fg_RD_121 1 rfl rfl d_RD_slot_44 ?_
        refine lv_iload_n hx hb d_RD_slot_47 rfl (lv_at hl 1 rfl) ?_
        refine kx_iald S hw 2 0 rfl rfl (j := i.toNatClampNeg) rfl (kx_i2 rfl h1 (Int32.not_le.mpr h2)) d_RD_slot_48 ?_
        exact kx_ret_i I rfl hw () (by simp only [f_RD_slot, if_neg h1, if_pos h2, if_pos h3]) [0, 1, 2, 3, 4, 5] (by decide) rfl d_RD_slot_49
      by_cases h4 : k = 1
      · refine lv_tableIn (off := 38) (tgt := 50) hx hb d_RD_slot_12 (by rw [h4]; decide) (by rw [h4]; decide) (by rw [h4]; decide) (by decide) ?_
        refine lv_aload_n hx hb d_RD_slot_50 rfl (lv_at hl 0 rfl) ?_
        refine kx_get S hw fg_RD_48 0 rfl rfl d_RD_slot_51 ?_
        refine kx_get S hw fg_RD_121 1 rfl rfl d_RD_slot_54 ?_
        refine lv_iload_n hx hb d_RD_slot_57 rfl (lv_at hl 1 rfl) ?_
        refine kx_iald S hw 2 0 rfl rfl (j := i.toNatClampNeg) rfl (kx_i2 rfl h1 (Int32.not_le.mpr h2)) d_RD_slot_58 ?_
        refine lv_iconst (v := (-1)) hx hb d_RD_slot_59 (by decide) ?_
        refine lv_icmp_ne (tgt := 67) hx hb d_RD_slot_60 (by decide) (fun h5 => ?_) (fun h5 => ?_)
        · refine lv_aload_n hx hb d_RD_slot_67 rfl (lv_at hl 0 rfl) ?_
          refine kx_get S hw fg_RD_48 0 rfl rfl d_RD_slot_68 ?_
          refine kx_get S hw fg_RD_124 1 rfl rfl d_RD_slot_71 ?_
          refine lv_iload_n hx hb d_RD_slot_74 rfl (lv_at hl 1 rfl) ?_
          refine kx_iald S hw 3 0 rfl rfl (j := i.toNatClampNeg) rfl (kx_i2 rfl h1 (Int32.not_le.mpr h2)) d_RD_slot_75 ?_
          exact kx_ret_i I rfl hw () (by simp only [f_RD_slot, if_neg h1, if_pos h2, if_neg h3, if_pos h4, if_neg h5]) [0, 1, 2, 3, 4, 5] (by decide) rfl d_RD_slot_76
        · refine lv_iconst (v := 0) hx hb d_RD_slot_63 (by decide) ?_
          refine lv_goto (tgt := 76) hx hb d_RD_slot_64 (by decide) ?_
          exact kx_ret_i I rfl hw () (by simp only [f_RD_slot, if_neg h1, if_pos h2, if_neg h3, if_pos h4, if_pos h5]) [0, 1, 2, 3, 4, 5] (by decide) rfl d_RD_slot_76
      by_cases h6 : k = 2
      · refine lv_tableIn (off := 65) (tgt := 77) hx hb d_RD_slot_12 (by rw [h6]; decide) (by rw [h6]; decide) (by rw [h6]; decide) (by decide) ?_
        refine lv_aload_n hx hb d_RD_slot_77 rfl (lv_at hl 0 rfl) ?_
        refine kx_get S hw fg_RD_48 0 rfl rfl d_RD_slot_78 ?_
        refine kx_get S hw fg_RD_127 1 rfl rfl d_RD_slot_81 ?_
        refine lv_iload_n hx hb d_RD_slot_84 rfl (lv_at hl 1 rfl) ?_
        refine kx_zald S hw 4 1 rfl rfl (j := i.toNatClampNeg) rfl (kx_i2 rfl h1 (Int32.not_le.mpr h2)) d_RD_slot_85 ?_
        refine lv_if_eq (tgt := 93) hx hb d_RD_slot_86 (by decide) (fun h7 => ?_) (fun h7 => ?_)
        · refine lv_iconst (v := 0) hx hb d_RD_slot_93 (by decide) ?_
          exact kx_ret_i I rfl hw () (by simp only [f_RD_slot, if_neg h1, if_pos h2, if_neg h3, if_neg h4, if_pos h6, if_pos h7]) [0, 1, 2, 3, 4, 5] (by decide) rfl d_RD_slot_94
        · refine lv_iconst (v := 1) hx hb d_RD_slot_89 (by decide) ?_
          refine lv_goto (tgt := 94) hx hb d_RD_slot_90 (by decide) ?_
          exact kx_ret_i I rfl hw () (by simp only [f_RD_slot, if_neg h1, if_pos h2, if_neg h3, if_neg h4, if_pos h6, if_neg h7]) [0, 1, 2, 3, 4, 5] (by decide) rfl d_RD_slot_94
      refine lv_tableOut (tgt := 95) hx hb d_RD_slot_12 (kx_sw3 h3 h4 h6) (by decide) ?_
      refine lv_iconst (v := (-1)) hx hb d_RD_slot_95 (by decide) ?_
      exact kx_ret_i I rfl hw () (by simp only [f_RD_slot, if_neg h1, if_pos h2, if_neg h3, if_neg h4, if_neg h6]) [0, 1, 2, 3, 4, 5] (by decide) rfl d_RD_slot_96
    · refine lv_iconst (v := (-1)) hx hb d_RD_slot_9 (by decide) ?_
      exact kx_ret_i I rfl hw () (by simp only [f_RD_slot, if_neg h1, if_neg h2]) [0, 1, 2, 3, 4, 5] (by decide) rfl d_RD_slot_10
def f_RD_output (mm : kt_M) (po : (Nat → Int32)) (i : Int32) : Int32 :=
  if i = (-1) then mm.2.1
  else if i < 0 then (-2)
  else if mm.2.1 ≤ i then (-2)
  else po i.toNatClampNeg
set_option maxHeartbeats 4000000 in
set_option maxRecDepth 100000 in
theorem c_RD_output (l : Launch) (D : va_G) (cI cZ cO : ClassId) (ad : Nat → Nat) (mm : kt_M) (po : (Nat → Int32)) (i : Int32) (hol : kv_ol mm) : kx_Ci (S := Unit) l y_RD_output b_RD_output 2 (some .int) 0 0 0 D (kx_T cI cZ cO) [.ref (ad 0), .int i] [((ad 0), .inr (0, [.int mm.1, .ref (ad 1), .ref (ad 6), .ref (ad 8), .ref (ad 10), .ref (ad 11), .ref (ad 12), .ref (ad 13), .ref (ad 14), .ref (ad 19), .ref (ad 20), .int mm.2.1, .int mm.2.2.1, .int mm.2.2.2])), ((ad 20), .inl (cI, 200, .inl po))] (fun rr _ => rr = f_RD_output mm po i) (fun _ => [((ad 0), .inr (0, [.int mm.1, .ref (ad 1), .ref (ad 6), .ref (ad 8), .ref (ad 10), .ref (ad 11), .ref (ad 12), .ref (ad 13), .ref (ad 14), .ref (ad 19), .ref (ad 20), .int mm.2.1, .int mm.2.2.1, .int mm.2.2.2])), ((ad 20), .inl (cI, 200, .inl po))]) := by
  refine kx_enter_i (by decide) (Nat.le_of_ble_eq_true rfl) ?_
  intro p_ e_ s_ m_ below_ meth_ c_ ls A_ H I hl hw
  have S := I.1
  have hx := S.1
  have hb := S.2.1
  have hl : lv_has ls 2 [(0, .ref (ad 0)), (1, .int i)] := hl
  refine lv_iload_n hx hb d_RD_output_0 rfl (lv_at hl 1 rfl) ?_
  refine lv_iconst (v := (-1)) hx hb d_RD_output_1 (by decide) ?_
  refine lv_icmp_ne (tgt := 10) hx hb d_RD_output_2 (by decide) (fun h1 => ?_) (fun h1 => ?_)
  · refine lv_iload_n hx hb d_RD_output_10 rfl (lv_at hl 1 rfl) ?_
    refine lv_if_lt (tgt := 31) hx hb d_RD_output_11 (by decide) (fun h2 => ?_) (fun h2 => ?_)
    · refine lv_bipush (v := (-2)) hx hb d_RD_output_31 (by decide) ?_
      exact kx_ret_i I rfl hw () (by simp only [f_RD_output, if_neg h1, if_pos h2]) [0, 1] (by decide) rfl d_RD_output_33
    · refine lv_iload_n hx hb d_RD_output_14 rfl (lv_at hl 1 rfl) ?_
      refine lv_aload_n hx hb d_RD_output_15 rfl (lv_at hl 0 rfl) ?_
      refine kx_get S hw fg_RD_131 0 rfl rfl d_RD_output_16 ?_
      refine lv_icmp_ge (tgt := 31) hx hb d_RD_output_19 (by decide) (fun h3 => ?_) (fun h3 => ?_)
      · refine lv_bipush (v := (-2)) hx hb d_RD_output_31 (by decide) ?_
        exact kx_ret_i I rfl hw () (by simp only [f_RD_output, if_neg h1, if_neg h2, if_pos h3]) [0, 1] (by decide) rfl d_RD_output_33
      · refine lv_aload_n hx hb d_RD_output_22 rfl (lv_at hl 0 rfl) ?_
        refine kx_get S hw fg_RD_56 0 rfl rfl d_RD_output_23 ?_
        refine lv_iload_n hx hb d_RD_output_26 rfl (lv_at hl 1 rfl) ?_
        refine kx_iald S hw 1 0 rfl rfl (j := i.toNatClampNeg) rfl (kx_i5 h2 h3 hol.2) d_RD_output_27 ?_
        refine lv_goto (tgt := 33) hx hb d_RD_output_28 (by decide) ?_
        exact kx_ret_i I rfl hw () (by simp only [f_RD_output, if_neg h1, if_neg h2, if_neg h3]) [0, 1] (by decide) rfl d_RD_output_33
  · refine lv_aload_n hx hb d_RD_output_5 rfl (lv_at hl 0 rfl) ?_
    refine kx_get S hw fg_RD_131 0 rfl rfl d_RD_output_6 ?_
    exact kx_ret_i I rfl hw () (by simp only [f_RD_output, if_pos h1]) [0, 1] (by decide) rfl d_RD_output_9
def f_RD_request (mm : kt_M) (fr : kt_Rq) (tr : kt_Rq) (s : Int32) : Int32 :=
  if s = 0 then (match f_Rq_progress fr with
    | r4 => r4)
  else if s = 1 then (match f_Rq_progress tr with
    | r3 => r3)
  else (-1)
set_option maxHeartbeats 4000000 in
set_option maxRecDepth 100000 in
theorem c_RD_request (l : Launch) (D : va_G) (cI cZ cO : ClassId) (ad : Nat → Nat) (mm : kt_M) (fr : kt_Rq) (tr : kt_Rq) (s : Int32) : kx_Ci (S := Unit) l y_RD_request b_RD_request 2 (some .int) 2 0 0 D (kx_T cI cZ cO) [.ref (ad 0), .int s] [((ad 0), .inr (0, [.int mm.1, .ref (ad 1), .ref (ad 6), .ref (ad 8), .ref (ad 10), .ref (ad 11), .ref (ad 12), .ref (ad 13), .ref (ad 14), .ref (ad 19), .ref (ad 20), .int mm.2.1, .int mm.2.2.1, .int mm.2.2.2])), ((ad 12), .inr (4, [.int fr.1, .int fr.2.1, .int fr.2.2.1, .int fr.2.2.2.1, .int fr.2.2.2.2.1, .int fr.2.2.2.2.2.1, .int fr.2.2.2.2.2.2])), ((ad 13), .inr (4, [.int tr.1, .int tr.2.1, .int tr.2.2.1, .int tr.2.2.2.1, .int tr.2.2.2.2.1, .int tr.2.2.2.2.2.1, .int tr.2.2.2.2.2.2]))] (fun rr _ => rr = f_RD_request mm fr tr s) (fun _ => [((ad 0), .inr (0, [.int mm.1, .ref (ad 1), .ref (ad 6), .ref (ad 8), .ref (ad 10), .ref (ad 11), .ref (ad 12), .ref (ad 13), .ref (ad 14), .ref (ad 19), .ref (ad 20), .int mm.2.1, .int mm.2.2.1, .int mm.2.2.2])), ((ad 12), .inr (4, [.int fr.1, .int fr.2.1, .int fr.2.2.1, .int fr.2.2.2.1, .int fr.2.2.2.2.1, .int fr.2.2.2.2.2.1, .int fr.2.2.2.2.2.2])), ((ad 13), .inr (4, [.int tr.1, .int tr.2.1, .int tr.2.2.1, .int tr.2.2.2.1, .int tr.2.2.2.2.1, .int tr.2.2.2.2.2.1, .int tr.2.2.2.2.2.2]))]) := by
  refine kx_enter_i (by decide) (Nat.le_of_ble_eq_true rfl) ?_
  intro p_ e_ s_ m_ below_ meth_ c_ ls A_ H I hl hw
  have S := I.1
  have hx := S.1
  have hb := S.2.1
  have hl : lv_has ls 2 [(0, .ref (ad 0)), (1, .int s)] := hl
  refine lv_iload_n hx hb d_RD_request_0 rfl (lv_at hl 1 rfl) ?_
  refine lv_if_ne (tgt := 12) hx hb d_RD_request_1 (by decide) (fun h1 => ?_) (fun h1 => ?_)
  · refine lv_iload_n hx hb d_RD_request_12 rfl (lv_at hl 1 rfl) ?_
    refine lv_iconst (v := 1) hx hb d_RD_request_13 (by decide) ?_
    refine lv_icmp_ne (tgt := 27) hx hb d_RD_request_14 (by decide) (fun h2 => ?_) (fun h2 => ?_)
    · refine lv_iconst (v := (-1)) hx hb d_RD_request_27 (by decide) ?_
      exact kx_ret_i I rfl hw () (by simp only [f_RD_request, if_neg h1, if_neg h2]) [0, 1, 2] (by decide) rfl d_RD_request_28
    · refine lv_aload_n hx hb d_RD_request_17 rfl (lv_at hl 0 rfl) ?_
      refine kx_get S hw fg_RD_42 0 rfl rfl d_RD_request_18 ?_
      refine kx_call_i (wc := [((ad 13), .inr (4, [.int tr.1, .int tr.2.1, .int tr.2.2.1, .int tr.2.2.2.1, .int tr.2.2.2.2.1, .int tr.2.2.2.2.2.1, .int tr.2.2.2.2.2.2]))]) (wr := [((ad 0), .inr (0, [.int mm.1, .ref (ad 1), .ref (ad 6), .ref (ad 8), .ref (ad 10), .ref (ad 11), .ref (ad 12), .ref (ad 13), .ref (ad 14), .ref (ad 19), .ref (ad 20), .int mm.2.1, .int mm.2.2.1, .int mm.2.2.2])), ((ad 12), .inr (4, [.int fr.1, .int fr.2.1, .int fr.2.2.1, .int fr.2.2.2.1, .int fr.2.2.2.2.1, .int fr.2.2.2.2.2.1, .int fr.2.2.2.2.2.2]))]) (rest := []) hw [2] [0, 1] rfl rfl (by decide) (by decide) (kx_runV S hw fc_RD_150 rfl 2 rfl [2] (by decide) rfl (c_Rq_progress l D cI cZ cO (ad 13) tr H.size) rfl hl.1 rfl (Nat.le_of_ble_eq_true rfl) d_RD_request_21 (by decide) (by decide)) (fun r3 u3 H locs hp3 hw => ?_)
      have hw : kx_w D (kx_T cI cZ cO) A_ s_ [((ad 0), .inr (0, [.int mm.1, .ref (ad 1), .ref (ad 6), .ref (ad 8), .ref (ad 10), .ref (ad 11), .ref (ad 12), .ref (ad 13), .ref (ad 14), .ref (ad 19), .ref (ad 20), .int mm.2.1, .int mm.2.2.1, .int mm.2.2.2])), ((ad 12), .inr (4, [.int fr.1, .int fr.2.1, .int fr.2.2.1, .int fr.2.2.2.1, .int fr.2.2.2.2.1, .int fr.2.2.2.2.2.1, .int fr.2.2.2.2.2.2])), ((ad 13), .inr (4, [.int tr.1, .int tr.2.1, .int tr.2.2.1, .int tr.2.2.2.1, .int tr.2.2.2.2.1, .int tr.2.2.2.2.2.1, .int tr.2.2.2.2.2.2]))] H locs := hw
      refine lv_goto (tgt := 28) hx hb d_RD_request_24 (by decide) ?_
      exact kx_ret_i I rfl hw () (by simp only [f_RD_request, if_neg h1, if_pos h2, ← hp3]) [0, 1, 2] (by decide) rfl d_RD_request_28
  · refine lv_aload_n hx hb d_RD_request_4 rfl (lv_at hl 0 rfl) ?_
    refine kx_get S hw fg_RD_38 0 rfl rfl d_RD_request_5 ?_
    refine kx_call_i (wc := [((ad 12), .inr (4, [.int fr.1, .int fr.2.1, .int fr.2.2.1, .int fr.2.2.2.1, .int fr.2.2.2.2.1, .int fr.2.2.2.2.2.1, .int fr.2.2.2.2.2.2]))]) (wr := [((ad 0), .inr (0, [.int mm.1, .ref (ad 1), .ref (ad 6), .ref (ad 8), .ref (ad 10), .ref (ad 11), .ref (ad 12), .ref (ad 13), .ref (ad 14), .ref (ad 19), .ref (ad 20), .int mm.2.1, .int mm.2.2.1, .int mm.2.2.2])), ((ad 13), .inr (4, [.int tr.1, .int tr.2.1, .int tr.2.2.1, .int tr.2.2.2.1, .int tr.2.2.2.2.1, .int tr.2.2.2.2.2.1, .int tr.2.2.2.2.2.2]))]) (rest := []) hw [1] [0, 2] rfl rfl (by decide) (by decide) (kx_runV S hw fc_RD_150 rfl 1 rfl [1] (by decide) rfl (c_Rq_progress l D cI cZ cO (ad 12) fr H.size) rfl hl.1 rfl (Nat.le_of_ble_eq_true rfl) d_RD_request_8 (by decide) (by decide)) (fun r4 u4 H locs hp4 hw => ?_)
    have hw : kx_w D (kx_T cI cZ cO) A_ s_ [((ad 0), .inr (0, [.int mm.1, .ref (ad 1), .ref (ad 6), .ref (ad 8), .ref (ad 10), .ref (ad 11), .ref (ad 12), .ref (ad 13), .ref (ad 14), .ref (ad 19), .ref (ad 20), .int mm.2.1, .int mm.2.2.1, .int mm.2.2.2])), ((ad 13), .inr (4, [.int tr.1, .int tr.2.1, .int tr.2.2.1, .int tr.2.2.2.1, .int tr.2.2.2.2.1, .int tr.2.2.2.2.2.1, .int tr.2.2.2.2.2.2])), ((ad 12), .inr (4, [.int fr.1, .int fr.2.1, .int fr.2.2.1, .int fr.2.2.2.1, .int fr.2.2.2.2.1, .int fr.2.2.2.2.2.1, .int fr.2.2.2.2.2.2]))] H locs := hw
    exact kx_ret_i I rfl hw () (by simp only [f_RD_request, if_pos h1, ← hp4]) [0, 2, 1] (by decide) rfl d_RD_request_11
def f_RD_now (mm : kt_M) : Int32 :=
  mm.2.2.2
set_option maxHeartbeats 4000000 in
set_option maxRecDepth 100000 in
theorem c_RD_now (l : Launch) (D : va_G) (cI cZ cO : ClassId) (ad : Nat → Nat) (mm : kt_M) : kx_Ci (S := Unit) l y_RD_now b_RD_now 1 (some .int) 0 0 0 D (kx_T cI cZ cO) [.ref (ad 0)] [((ad 0), .inr (0, [.int mm.1, .ref (ad 1), .ref (ad 6), .ref (ad 8), .ref (ad 10), .ref (ad 11), .ref (ad 12), .ref (ad 13), .ref (ad 14), .ref (ad 19), .ref (ad 20), .int mm.2.1, .int mm.2.2.1, .int mm.2.2.2]))] (fun rr _ => rr = f_RD_now mm) (fun _ => [((ad 0), .inr (0, [.int mm.1, .ref (ad 1), .ref (ad 6), .ref (ad 8), .ref (ad 10), .ref (ad 11), .ref (ad 12), .ref (ad 13), .ref (ad 14), .ref (ad 19), .ref (ad 20), .int mm.2.1, .int mm.2.2.1, .int mm.2.2.2]))]) := by
  refine kx_enter_i (by decide) (Nat.le_of_ble_eq_true rfl) ?_
  intro p_ e_ s_ m_ below_ meth_ c_ ls A_ H I hl hw
  have S := I.1
  have hx := S.1
  have hb := S.2.1
  have hl : lv_has ls 1 [(0, .ref (ad 0))] := hl
  refine lv_aload_n hx hb d_RD_now_0 rfl (lv_at hl 0 rfl) ?_
  refine kx_get S hw fg_RD_79 0 rfl rfl d_RD_now_1 ?_
  exact kx_ret_i I rfl hw () (by simp only [f_RD_now]) [0] (by decide) rfl d_RD_now_4
