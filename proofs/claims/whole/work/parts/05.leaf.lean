theorem mm_131 : Cond.fieldLink "RebornDrivers$Operation" 7 "RebornDrivers$Operation" "kind" "I" ∈ kx_tbl := List.mem_filter.mpr ⟨List.mem_append_right _ (List.mem_of_getElem? (i := 131) (by decide +kernel)), by decide +kernel⟩
theorem mm_133 : Cond.fieldLink "RebornDrivers$Operation" 13 "RebornDrivers$Operation" "block" "I" ∈ kx_tbl := List.mem_filter.mpr ⟨List.mem_append_right _ (List.mem_of_getElem? (i := 133) (by decide +kernel)), by decide +kernel⟩
theorem mm_135 : Cond.fieldLink "RebornDrivers$Operation" 16 "RebornDrivers$Operation" "value" "I" ∈ kx_tbl := List.mem_filter.mpr ⟨List.mem_append_right _ (List.mem_of_getElem? (i := 135) (by decide +kernel)), by decide +kernel⟩
theorem mm_137 : Cond.fieldLink "RebornDrivers$Operation" 19 "RebornDrivers$Operation" "writesAsked" "I" ∈ kx_tbl := List.mem_filter.mpr ⟨List.mem_append_right _ (List.mem_of_getElem? (i := 137) (by decide +kernel)), by decide +kernel⟩
theorem mm_139 : Cond.fieldLink "RebornDrivers$Operation" 22 "RebornDrivers$Operation" "state" "I" ∈ kx_tbl := List.mem_filter.mpr ⟨List.mem_append_right _ (List.mem_of_getElem? (i := 139) (by decide +kernel)), by decide +kernel⟩
theorem mm_141 : Cond.fieldLink "RebornDrivers$Operation" 25 "RebornDrivers$Operation" "result" "I" ∈ kx_tbl := List.mem_filter.mpr ⟨List.mem_append_right _ (List.mem_of_getElem? (i := 141) (by decide +kernel)), by decide +kernel⟩
theorem mm_27 : Cond.fieldLink "RebornDrivers$Line" 15 "RebornDrivers$Line" "length" "I" ∈ kx_tbl := List.mem_filter.mpr ⟨List.mem_append_right _ (List.mem_of_getElem? (i := 27) (by decide +kernel)), by decide +kernel⟩
theorem mm_26 : Cond.fieldLink "RebornDrivers$Line" 9 "RebornDrivers$Line" "users" "[I" ∈ kx_tbl := List.mem_filter.mpr ⟨List.mem_append_right _ (List.mem_of_getElem? (i := 26) (by decide +kernel)), by decide +kernel⟩
theorem mm_44 : Cond.fieldLink "RebornDrivers$Driver" 11 "RebornDrivers$Driver" "condition" "I" ∈ kx_tbl := List.mem_filter.mpr ⟨List.mem_append_right _ (List.mem_of_getElem? (i := 44) (by decide +kernel)), by decide +kernel⟩
theorem mm_47 : Cond.fieldLink "RebornDrivers$Driver" 15 "RebornDrivers$Driver" "stage" "I" ∈ kx_tbl := List.mem_filter.mpr ⟨List.mem_append_right _ (List.mem_of_getElem? (i := 47) (by decide +kernel)), by decide +kernel⟩
theorem mm_52 : Cond.fieldLink "RebornDrivers$Driver" 22 "RebornDrivers$Driver" "badness" "I" ∈ kx_tbl := List.mem_filter.mpr ⟨List.mem_append_right _ (List.mem_of_getElem? (i := 52) (by decide +kernel)), by decide +kernel⟩
theorem mm_41 : Cond.fieldLink "RebornDrivers$Driver" 31 "RebornDrivers$Driver" "endpoint" "I" ∈ kx_tbl := List.mem_filter.mpr ⟨List.mem_append_right _ (List.mem_of_getElem? (i := 41) (by decide +kernel)), by decide +kernel⟩
theorem mm_50 : Cond.fieldLink "RebornDrivers$Driver" 18 "RebornDrivers$Driver" "hasAnswered" "Z" ∈ kx_tbl := List.mem_filter.mpr ⟨List.mem_append_right _ (List.mem_of_getElem? (i := 50) (by decide +kernel)), by decide +kernel⟩
theorem mm_260 : Cond.code ⟨"RebornDrivers$Driver", "die", "()V"⟩ prog_3_method_3_code 1 none ∈ kx_tbl := List.mem_filter.mpr ⟨List.mem_append_right _ (List.mem_of_getElem? (i := 260) (by decide +kernel)), by decide +kernel⟩
theorem mm_3 : Cond.initialized "RebornDrivers$Driver" ∈ kx_tbl := List.mem_filter.mpr ⟨List.mem_append_right _ (List.mem_of_getElem? (i := 3) (by decide +kernel)), by decide +kernel⟩
theorem mm_257 : Cond.methodLink "RebornDrivers$Driver" 25 ⟨"RebornDrivers$Driver", "die", "()V"⟩ ∈ kx_tbl := List.mem_filter.mpr ⟨List.mem_append_right _ (List.mem_of_getElem? (i := 257) (by decide +kernel)), by decide +kernel⟩
theorem mm_259 : Cond.instanceMethod ⟨"RebornDrivers$Driver", "die", "()V"⟩ ∈ kx_tbl := List.mem_filter.mpr ⟨List.mem_append_right _ (List.mem_of_getElem? (i := 259) (by decide +kernel)), by decide +kernel⟩
theorem mm_244 : Cond.code ⟨"RebornDrivers$Driver", "restart", "()V"⟩ prog_3_method_5_code 1 none ∈ kx_tbl := List.mem_filter.mpr ⟨List.mem_append_right _ (List.mem_of_getElem? (i := 244) (by decide +kernel)), by decide +kernel⟩
theorem mm_241 : Cond.methodLink "RebornDrivers$Driver" 28 ⟨"RebornDrivers$Driver", "restart", "()V"⟩ ∈ kx_tbl := List.mem_filter.mpr ⟨List.mem_append_right _ (List.mem_of_getElem? (i := 241) (by decide +kernel)), by decide +kernel⟩
theorem mm_243 : Cond.instanceMethod ⟨"RebornDrivers$Driver", "restart", "()V"⟩ ∈ kx_tbl := List.mem_filter.mpr ⟨List.mem_append_right _ (List.mem_of_getElem? (i := 243) (by decide +kernel)), by decide +kernel⟩
theorem mm_53 : Cond.fieldLink "RebornDrivers$Driver" 37 "RebornDrivers$Driver" "refusals" "I" ∈ kx_tbl := List.mem_filter.mpr ⟨List.mem_append_right _ (List.mem_of_getElem? (i := 53) (by decide +kernel)), by decide +kernel⟩
theorem mm_256 : Cond.code ⟨"RebornDrivers$Driver", "beRefused", "()V"⟩ prog_3_method_7_code 1 none ∈ kx_tbl := List.mem_filter.mpr ⟨List.mem_append_right _ (List.mem_of_getElem? (i := 256) (by decide +kernel)), by decide +kernel⟩
theorem mm_253 : Cond.methodLink "RebornDrivers$Driver" 34 ⟨"RebornDrivers$Driver", "beRefused", "()V"⟩ ∈ kx_tbl := List.mem_filter.mpr ⟨List.mem_append_right _ (List.mem_of_getElem? (i := 253) (by decide +kernel)), by decide +kernel⟩
theorem mm_255 : Cond.instanceMethod ⟨"RebornDrivers$Driver", "beRefused", "()V"⟩ ∈ kx_tbl := List.mem_filter.mpr ⟨List.mem_append_right _ (List.mem_of_getElem? (i := 255) (by decide +kernel)), by decide +kernel⟩
theorem mm_74 : Cond.fieldLink "RebornDrivers$Request" 9 "RebornDrivers$Request" "kind" "I" ∈ kx_tbl := List.mem_filter.mpr ⟨List.mem_append_right _ (List.mem_of_getElem? (i := 74) (by decide +kernel)), by decide +kernel⟩
theorem mm_79 : Cond.fieldLink "RebornDrivers$Request" 13 "RebornDrivers$Request" "given" "Z" ∈ kx_tbl := List.mem_filter.mpr ⟨List.mem_append_right _ (List.mem_of_getElem? (i := 79) (by decide +kernel)), by decide +kernel⟩
theorem mm_81 : Cond.fieldLink "RebornDrivers$Request" 17 "RebornDrivers$Request" "answered" "Z" ∈ kx_tbl := List.mem_filter.mpr ⟨List.mem_append_right _ (List.mem_of_getElem? (i := 81) (by decide +kernel)), by decide +kernel⟩
theorem mm_83 : Cond.fieldLink "RebornDrivers$Request" 20 "RebornDrivers$Request" "givenTo" "I" ∈ kx_tbl := List.mem_filter.mpr ⟨List.mem_append_right _ (List.mem_of_getElem? (i := 83) (by decide +kernel)), by decide +kernel⟩
theorem mm_42 : Cond.fieldLinkNest "RebornDrivers$Request" 23 "RebornDrivers$Driver" "endpoint" "I" "RebornDrivers" ∈ kx_nl := List.mem_filter.mpr ⟨List.mem_append_right _ (List.mem_of_getElem? (i := 42) (by decide +kernel)), by decide +kernel⟩
theorem mm_45 : Cond.fieldLinkNest "RebornDrivers$Request" 28 "RebornDrivers$Driver" "condition" "I" "RebornDrivers" ∈ kx_nl := List.mem_filter.mpr ⟨List.mem_append_right _ (List.mem_of_getElem? (i := 45) (by decide +kernel)), by decide +kernel⟩
theorem mm_48 : Cond.fieldLinkNest "RebornDrivers$Request" 31 "RebornDrivers$Driver" "stage" "I" "RebornDrivers" ∈ kx_nl := List.mem_filter.mpr ⟨List.mem_append_right _ (List.mem_of_getElem? (i := 48) (by decide +kernel)), by decide +kernel⟩
theorem mm_280 : Cond.code ⟨"RebornDrivers$Request", "isOpen", "()Z"⟩ prog_6_method_2_code 1 (some .boolean) ∈ kx_tbl := List.mem_filter.mpr ⟨List.mem_append_right _ (List.mem_of_getElem? (i := 280) (by decide +kernel)), by decide +kernel⟩
theorem mm_4 : Cond.initialized "RebornDrivers$Request" ∈ kx_tbl := List.mem_filter.mpr ⟨List.mem_append_right _ (List.mem_of_getElem? (i := 4) (by decide +kernel)), by decide +kernel⟩
theorem mm_425 : Cond.methodLink "RebornDrivers$Request" 34 ⟨"RebornDrivers$Request", "isOpen", "()Z"⟩ ∈ kx_tbl := List.mem_filter.mpr ⟨List.mem_append_right _ (List.mem_of_getElem? (i := 425) (by decide +kernel)), by decide +kernel⟩
theorem mm_279 : Cond.instanceMethod ⟨"RebornDrivers$Request", "isOpen", "()Z"⟩ ∈ kx_tbl := List.mem_filter.mpr ⟨List.mem_append_right _ (List.mem_of_getElem? (i := 279) (by decide +kernel)), by decide +kernel⟩
theorem mm_108 : Cond.fieldLink "RebornDrivers$Cache" 9 "RebornDrivers$Cache" "blocks" "[I" ∈ kx_tbl := List.mem_filter.mpr ⟨List.mem_append_right _ (List.mem_of_getElem? (i := 108) (by decide +kernel)), by decide +kernel⟩
theorem mm_336 : Cond.code ⟨"RebornDrivers$Cache", "find", "(I)I"⟩ prog_2_method_2_code 3 (some .int) ∈ kx_tbl := List.mem_filter.mpr ⟨List.mem_append_right _ (List.mem_of_getElem? (i := 336) (by decide +kernel)), by decide +kernel⟩
theorem mm_5 : Cond.initialized "RebornDrivers$Cache" ∈ kx_tbl := List.mem_filter.mpr ⟨List.mem_append_right _ (List.mem_of_getElem? (i := 5) (by decide +kernel)), by decide +kernel⟩
theorem mm_345 : Cond.methodLink "RebornDrivers$Cache" 31 ⟨"RebornDrivers$Cache", "find", "(I)I"⟩ ∈ kx_tbl := List.mem_filter.mpr ⟨List.mem_append_right _ (List.mem_of_getElem? (i := 345) (by decide +kernel)), by decide +kernel⟩
theorem mm_335 : Cond.instanceMethod ⟨"RebornDrivers$Cache", "find", "(I)I"⟩ ∈ kx_tbl := List.mem_filter.mpr ⟨List.mem_append_right _ (List.mem_of_getElem? (i := 335) (by decide +kernel)), by decide +kernel⟩
theorem mm_114 : Cond.fieldLink "RebornDrivers$Cache" 22 "RebornDrivers$Cache" "usedAt" "[I" ∈ kx_tbl := List.mem_filter.mpr ⟨List.mem_append_right _ (List.mem_of_getElem? (i := 114) (by decide +kernel)), by decide +kernel⟩
theorem mm_112 : Cond.fieldLink "RebornDrivers$Cache" 18 "RebornDrivers$Cache" "dirty" "[Z" ∈ kx_tbl := List.mem_filter.mpr ⟨List.mem_append_right _ (List.mem_of_getElem? (i := 112) (by decide +kernel)), by decide +kernel⟩
theorem mm_110 : Cond.fieldLink "RebornDrivers$Cache" 15 "RebornDrivers$Cache" "values" "[I" ∈ kx_tbl := List.mem_filter.mpr ⟨List.mem_append_right _ (List.mem_of_getElem? (i := 110) (by decide +kernel)), by decide +kernel⟩
theorem mm_296 : Cond.code ⟨"RebornDrivers$Cache", "hold", "(IIIZ)V"⟩ prog_2_method_5_code 5 none ∈ kx_tbl := List.mem_filter.mpr ⟨List.mem_append_right _ (List.mem_of_getElem? (i := 296) (by decide +kernel)), by decide +kernel⟩
theorem mm_350 : Cond.methodLink "RebornDrivers$Cache" 35 ⟨"RebornDrivers$Cache", "hold", "(IIIZ)V"⟩ ∈ kx_tbl := List.mem_filter.mpr ⟨List.mem_append_right _ (List.mem_of_getElem? (i := 350) (by decide +kernel)), by decide +kernel⟩
theorem mm_295 : Cond.instanceMethod ⟨"RebornDrivers$Cache", "hold", "(IIIZ)V"⟩ ∈ kx_tbl := List.mem_filter.mpr ⟨List.mem_append_right _ (List.mem_of_getElem? (i := 295) (by decide +kernel)), by decide +kernel⟩
theorem fp_Op_7 : kx_q "RebornDrivers$Operation" 7 1 0 (.int) := ⟨R_Op, F_Op, 6, t_Op, rfl, by decide, in_Op, Or.inl mm_131, t_Op_ok, n_Op, rfl, by decide +kernel⟩
theorem fp_Op_13 : kx_q "RebornDrivers$Operation" 13 1 1 (.int) := ⟨R_Op, F_Op, 6, t_Op, rfl, by decide, in_Op, Or.inl mm_133, t_Op_ok, n_Op, rfl, by decide +kernel⟩
theorem fp_Op_16 : kx_q "RebornDrivers$Operation" 16 1 2 (.int) := ⟨R_Op, F_Op, 6, t_Op, rfl, by decide, in_Op, Or.inl mm_135, t_Op_ok, n_Op, rfl, by decide +kernel⟩
theorem fp_Op_19 : kx_q "RebornDrivers$Operation" 19 1 3 (.int) := ⟨R_Op, F_Op, 6, t_Op, rfl, by decide, in_Op, Or.inl mm_137, t_Op_ok, n_Op, rfl, by decide +kernel⟩
theorem fp_Op_22 : kx_q "RebornDrivers$Operation" 22 1 4 (.int) := ⟨R_Op, F_Op, 6, t_Op, rfl, by decide, in_Op, Or.inl mm_139, t_Op_ok, n_Op, rfl, by decide +kernel⟩
theorem fp_Op_25 : kx_q "RebornDrivers$Operation" 25 1 5 (.int) := ⟨R_Op, F_Op, 6, t_Op, rfl, by decide, in_Op, Or.inl mm_141, t_Op_ok, n_Op, rfl, by decide +kernel⟩
theorem fg_Ln_15 : kx_f "RebornDrivers$Line" 15 2 1 := ⟨R_Ln, F_Ln, 2, rfl, by decide, in_Ln, Or.inl mm_27⟩
theorem fg_Ln_9 : kx_f "RebornDrivers$Line" 9 2 0 := ⟨R_Ln, F_Ln, 2, rfl, by decide, in_Ln, Or.inl mm_26⟩
theorem fp_Ln_15 : kx_q "RebornDrivers$Line" 15 2 1 (.int) := ⟨R_Ln, F_Ln, 2, t_Ln, rfl, by decide, in_Ln, Or.inl mm_27, t_Ln_ok, n_Ln, rfl, by decide +kernel⟩
theorem fm_Ln_19 : Cond.methodLink "RebornDrivers$Line" 19 Lib.Math.max.name ∈ kx_tbl ∧ Cond.static Lib.Math.max.name ∈ kx_tbl ∧ Cond.initialized "java/lang/Math" ∈ kx_tbl ∧ Cond.code Lib.Math.max.name Lib.Math.max.code 2 (some .int) ∈ kx_tbl := ⟨List.mem_filter.mpr ⟨List.mem_append_right _ (List.mem_of_getElem? (i := 359) (by decide +kernel)), by decide +kernel⟩, List.mem_filter.mpr ⟨List.mem_append_right _ (List.mem_of_getElem? (i := 360) (by decide +kernel)), by decide +kernel⟩, List.mem_filter.mpr ⟨List.mem_append_right _ (List.mem_of_getElem? (i := 9) (by decide +kernel)), by decide +kernel⟩, List.mem_filter.mpr ⟨List.mem_append_right _ (List.mem_of_getElem? (i := 361) (by decide +kernel)), by decide +kernel⟩⟩
theorem fp_Dr_11 : kx_q "RebornDrivers$Driver" 11 3 1 (.int) := ⟨R_Dr, F_Dr, 6, t_Dr, rfl, by decide, in_Dr, Or.inl mm_44, t_Dr_ok, n_Dr, rfl, by decide +kernel⟩
theorem fp_Dr_15 : kx_q "RebornDrivers$Driver" 15 3 2 (.int) := ⟨R_Dr, F_Dr, 6, t_Dr, rfl, by decide, in_Dr, Or.inl mm_47, t_Dr_ok, n_Dr, rfl, by decide +kernel⟩
theorem fp_Dr_22 : kx_q "RebornDrivers$Driver" 22 3 4 (.int) := ⟨R_Dr, F_Dr, 6, t_Dr, rfl, by decide, in_Dr, Or.inl mm_52, t_Dr_ok, n_Dr, rfl, by decide +kernel⟩
theorem fg_Dr_31 : kx_f "RebornDrivers$Driver" 31 3 0 := ⟨R_Dr, F_Dr, 6, rfl, by decide, in_Dr, Or.inl mm_41⟩
theorem fp_Dr_31 : kx_q "RebornDrivers$Driver" 31 3 0 (.int) := ⟨R_Dr, F_Dr, 6, t_Dr, rfl, by decide, in_Dr, Or.inl mm_41, t_Dr_ok, n_Dr, rfl, by decide +kernel⟩
theorem fp_Dr_18 : kx_q "RebornDrivers$Driver" 18 3 3 (.boolean) := ⟨R_Dr, F_Dr, 6, t_Dr, rfl, by decide, in_Dr, Or.inl mm_50, t_Dr_ok, n_Dr, rfl, by decide +kernel⟩
theorem fg_Dr_11 : kx_f "RebornDrivers$Driver" 11 3 1 := ⟨R_Dr, F_Dr, 6, rfl, by decide, in_Dr, Or.inl mm_44⟩
theorem sel_Dr_die : Cond.selects "RebornDrivers$Driver" y_Dr_die y_Dr_die ∈ kx_tbl := List.mem_filter.mpr ⟨List.mem_append_left _ (by decide +kernel), by decide +kernel⟩
theorem fc_Dr_25 : kx_m "RebornDrivers$Driver" 25 y_Dr_die b_Dr_die 1 none 0 ∧ Cond.instanceMethod y_Dr_die ∈ kx_tbl ∧ Cond.selects "RebornDrivers$Driver" y_Dr_die y_Dr_die ∈ kx_tbl := ⟨⟨mm_260, mm_3, by decide +kernel, Or.inl mm_257⟩, mm_259, sel_Dr_die⟩
theorem sel_Dr_restart : Cond.selects "RebornDrivers$Driver" y_Dr_restart y_Dr_restart ∈ kx_tbl := List.mem_filter.mpr ⟨List.mem_append_left _ (by decide +kernel), by decide +kernel⟩
theorem fc_Dr_28 : kx_m "RebornDrivers$Driver" 28 y_Dr_restart b_Dr_restart 1 none 0 ∧ Cond.instanceMethod y_Dr_restart ∈ kx_tbl ∧ Cond.selects "RebornDrivers$Driver" y_Dr_restart y_Dr_restart ∈ kx_tbl := ⟨⟨mm_244, mm_3, by decide +kernel, Or.inl mm_241⟩, mm_243, sel_Dr_restart⟩
theorem fg_Dr_18 : kx_f "RebornDrivers$Driver" 18 3 3 := ⟨R_Dr, F_Dr, 6, rfl, by decide, in_Dr, Or.inl mm_50⟩
theorem fg_Dr_37 : kx_f "RebornDrivers$Driver" 37 3 5 := ⟨R_Dr, F_Dr, 6, rfl, by decide, in_Dr, Or.inl mm_53⟩
theorem fp_Dr_37 : kx_q "RebornDrivers$Driver" 37 3 5 (.int) := ⟨R_Dr, F_Dr, 6, t_Dr, rfl, by decide, in_Dr, Or.inl mm_53, t_Dr_ok, n_Dr, rfl, by decide +kernel⟩
theorem fg_Dr_22 : kx_f "RebornDrivers$Driver" 22 3 4 := ⟨R_Dr, F_Dr, 6, rfl, by decide, in_Dr, Or.inl mm_52⟩
theorem fg_Dr_15 : kx_f "RebornDrivers$Driver" 15 3 2 := ⟨R_Dr, F_Dr, 6, rfl, by decide, in_Dr, Or.inl mm_47⟩
theorem sel_Dr_beRefused : Cond.selects "RebornDrivers$Driver" y_Dr_beRefused y_Dr_beRefused ∈ kx_tbl := List.mem_filter.mpr ⟨List.mem_append_left _ (by decide +kernel), by decide +kernel⟩
theorem fc_Dr_34 : kx_m "RebornDrivers$Driver" 34 y_Dr_beRefused b_Dr_beRefused 1 none 0 ∧ Cond.instanceMethod y_Dr_beRefused ∈ kx_tbl ∧ Cond.selects "RebornDrivers$Driver" y_Dr_beRefused y_Dr_beRefused ∈ kx_tbl := ⟨⟨mm_256, mm_3, by decide +kernel, Or.inl mm_253⟩, mm_255, sel_Dr_beRefused⟩
theorem fg_Rq_9 : kx_f "RebornDrivers$Request" 9 4 0 := ⟨R_Rq, F_Rq, 7, rfl, by decide, in_Rq, Or.inl mm_74⟩
theorem fp_Rq_9 : kx_q "RebornDrivers$Request" 9 4 0 (.int) := ⟨R_Rq, F_Rq, 7, t_Rq, rfl, by decide, in_Rq, Or.inl mm_74, t_Rq_ok, n_Rq, rfl, by decide +kernel⟩
theorem fp_Rq_13 : kx_q "RebornDrivers$Request" 13 4 4 (.boolean) := ⟨R_Rq, F_Rq, 7, t_Rq, rfl, by decide, in_Rq, Or.inl mm_79, t_Rq_ok, n_Rq, rfl, by decide +kernel⟩
theorem fp_Rq_17 : kx_q "RebornDrivers$Request" 17 4 5 (.boolean) := ⟨R_Rq, F_Rq, 7, t_Rq, rfl, by decide, in_Rq, Or.inl mm_81, t_Rq_ok, n_Rq, rfl, by decide +kernel⟩
theorem fg_Rq_13 : kx_f "RebornDrivers$Request" 13 4 4 := ⟨R_Rq, F_Rq, 7, rfl, by decide, in_Rq, Or.inl mm_79⟩
theorem fg_Rq_20 : kx_f "RebornDrivers$Request" 20 4 6 := ⟨R_Rq, F_Rq, 7, rfl, by decide, in_Rq, Or.inl mm_83⟩
theorem fg_Rq_23 : kx_f "RebornDrivers$Request" 23 3 0 := ⟨R_Dr, F_Dr, 6, rfl, by decide, in_Dr, Or.inr ⟨_, mm_42⟩⟩
theorem fg_Rq_28 : kx_f "RebornDrivers$Request" 28 3 1 := ⟨R_Dr, F_Dr, 6, rfl, by decide, in_Dr, Or.inr ⟨_, mm_45⟩⟩
theorem fp_Rq_31 : kx_q "RebornDrivers$Request" 31 3 2 (.int) := ⟨R_Dr, F_Dr, 6, t_Dr, rfl, by decide, in_Dr, Or.inr ⟨_, mm_48⟩, t_Dr_ok, n_Dr, rfl, by decide +kernel⟩
theorem fp_Rq_20 : kx_q "RebornDrivers$Request" 20 4 6 (.int) := ⟨R_Rq, F_Rq, 7, t_Rq, rfl, by decide, in_Rq, Or.inl mm_83, t_Rq_ok, n_Rq, rfl, by decide +kernel⟩
theorem sel_Rq_isOpen : Cond.selects "RebornDrivers$Request" y_Rq_isOpen y_Rq_isOpen ∈ kx_tbl := List.mem_filter.mpr ⟨List.mem_append_left _ (by decide +kernel), by decide +kernel⟩
theorem fc_Rq_34 : kx_m "RebornDrivers$Request" 34 y_Rq_isOpen b_Rq_isOpen 1 (some .boolean) 0 ∧ Cond.instanceMethod y_Rq_isOpen ∈ kx_tbl ∧ Cond.selects "RebornDrivers$Request" y_Rq_isOpen y_Rq_isOpen ∈ kx_tbl := ⟨⟨mm_280, mm_4, by decide +kernel, Or.inl mm_425⟩, mm_279, sel_Rq_isOpen⟩
theorem fg_Ca_9 : kx_f "RebornDrivers$Cache" 9 5 0 := ⟨R_Ca, F_Ca, 4, rfl, by decide, in_Ca, Or.inl mm_108⟩
theorem sel_Ca_find : Cond.selects "RebornDrivers$Cache" y_Ca_find y_Ca_find ∈ kx_tbl := List.mem_filter.mpr ⟨List.mem_append_left _ (by decide +kernel), by decide +kernel⟩
theorem fc_Ca_31 : kx_m "RebornDrivers$Cache" 31 y_Ca_find b_Ca_find 3 (some .int) 1 ∧ Cond.instanceMethod y_Ca_find ∈ kx_tbl ∧ Cond.selects "RebornDrivers$Cache" y_Ca_find y_Ca_find ∈ kx_tbl := ⟨⟨mm_336, mm_5, by decide +kernel, Or.inl mm_345⟩, mm_335, sel_Ca_find⟩
theorem fg_Ca_22 : kx_f "RebornDrivers$Cache" 22 5 3 := ⟨R_Ca, F_Ca, 4, rfl, by decide, in_Ca, Or.inl mm_114⟩
theorem fg_Ca_18 : kx_f "RebornDrivers$Cache" 18 5 2 := ⟨R_Ca, F_Ca, 4, rfl, by decide, in_Ca, Or.inl mm_112⟩
theorem fg_Ca_15 : kx_f "RebornDrivers$Cache" 15 5 1 := ⟨R_Ca, F_Ca, 4, rfl, by decide, in_Ca, Or.inl mm_110⟩
theorem sel_Ca_hold : Cond.selects "RebornDrivers$Cache" y_Ca_hold y_Ca_hold ∈ kx_tbl := List.mem_filter.mpr ⟨List.mem_append_left _ (by decide +kernel), by decide +kernel⟩
theorem fc_Ca_35 : kx_m "RebornDrivers$Cache" 35 y_Ca_hold b_Ca_hold 5 none 4 ∧ Cond.instanceMethod y_Ca_hold ∈ kx_tbl ∧ Cond.selects "RebornDrivers$Cache" y_Ca_hold y_Ca_hold ∈ kx_tbl := ⟨⟨mm_296, mm_5, by decide +kernel, Or.inl mm_350⟩, mm_295, sel_Ca_hold⟩

def f_Op_begin (o : kt_Op) (k : Int32) (b : Int32) (v : Int32) : kt_Op :=
  (k, b, v, 0, 1, 0)
set_option maxHeartbeats 4000000 in
set_option maxRecDepth 100000 in
theorem c_Op_begin (l : Launch) (D : va_G) (cI cZ cO : ClassId) (h : Nat) (o : kt_Op) (k : Int32) (b : Int32) (v : Int32) : kx_Cv (S := kt_Op) l y_Op_begin b_Op_begin 4 0 0 0 D (kx_T cI cZ cO) [.ref h, .int k, .int b, .int v] [(h, .inr (1, [.int o.1, .int o.2.1, .int o.2.2.1, .int o.2.2.2.1, .int o.2.2.2.2.1, .int o.2.2.2.2.2]))] (fun zz => zz = f_Op_begin o k b v) (fun zz => [(h, .inr (1, [.int zz.1, .int zz.2.1, .int zz.2.2.1, .int zz.2.2.2.1, .int zz.2.2.2.2.1, .int zz.2.2.2.2.2]))]) := by
  refine kx_enter_v (by decide) (Nat.le_of_ble_eq_true rfl) ?_
  intro p_ e_ s_ m_ below_ meth_ c_ ls A_ H I hl hw
  have S := I.1
  have hx := S.1
  have hb := S.2.1
  have hl : lv_has ls 4 [(0, .ref h), (1, .int k), (2, .int b), (3, .int v)] := hl
  refine lv_aload_n hx hb d_Op_begin_0 rfl (lv_at hl 0 rfl) ?_
  refine lv_iload_n hx hb d_Op_begin_1 rfl (lv_at hl 1 rfl) ?_
  refine kx_put S hw fp_Op_7 0 rfl rfl rfl (Nat.le_of_ble_eq_true rfl) d_Op_begin_2 (fun H locs hw => ?_)
  have hw : kx_w D (kx_T cI cZ cO) A_ s_ [(h, .inr (1, [.int k, .int o.2.1, .int o.2.2.1, .int o.2.2.2.1, .int o.2.2.2.2.1, .int o.2.2.2.2.2]))] H locs := hw
  refine lv_aload_n hx hb d_Op_begin_5 rfl (lv_at hl 0 rfl) ?_
  refine lv_iload_n hx hb d_Op_begin_6 rfl (lv_at hl 2 rfl) ?_
  refine kx_put S hw fp_Op_13 0 rfl rfl rfl (Nat.le_of_ble_eq_true rfl) d_Op_begin_7 (fun H locs hw => ?_)
  have hw : kx_w D (kx_T cI cZ cO) A_ s_ [(h, .inr (1, [.int k, .int b, .int o.2.2.1, .int o.2.2.2.1, .int o.2.2.2.2.1, .int o.2.2.2.2.2]))] H locs := hw
  refine lv_aload_n hx hb d_Op_begin_10 rfl (lv_at hl 0 rfl) ?_
  refine lv_iload_n hx hb d_Op_begin_11 rfl (lv_at hl 3 rfl) ?_
  refine kx_put S hw fp_Op_16 0 rfl rfl rfl (Nat.le_of_ble_eq_true rfl) d_Op_begin_12 (fun H locs hw => ?_)
  have hw : kx_w D (kx_T cI cZ cO) A_ s_ [(h, .inr (1, [.int k, .int b, .int v, .int o.2.2.2.1, .int o.2.2.2.2.1, .int o.2.2.2.2.2]))] H locs := hw
  refine lv_aload_n hx hb d_Op_begin_15 rfl (lv_at hl 0 rfl) ?_
  refine lv_iconst (v := 0) hx hb d_Op_begin_16 (by decide) ?_
  refine kx_put S hw fp_Op_19 0 rfl rfl rfl (Nat.le_of_ble_eq_true rfl) d_Op_begin_17 (fun H locs hw => ?_)
  have hw : kx_w D (kx_T cI cZ cO) A_ s_ [(h, .inr (1, [.int k, .int b, .int v, .int 0, .int o.2.2.2.2.1, .int o.2.2.2.2.2]))] H locs := hw
  refine lv_aload_n hx hb d_Op_begin_20 rfl (lv_at hl 0 rfl) ?_
  refine lv_iconst (v := 1) hx hb d_Op_begin_21 (by decide) ?_
  refine kx_put S hw fp_Op_22 0 rfl rfl rfl (Nat.le_of_ble_eq_true rfl) d_Op_begin_22 (fun H locs hw => ?_)
  have hw : kx_w D (kx_T cI cZ cO) A_ s_ [(h, .inr (1, [.int k, .int b, .int v, .int 0, .int 1, .int o.2.2.2.2.2]))] H locs := hw
  refine lv_aload_n hx hb d_Op_begin_25 rfl (lv_at hl 0 rfl) ?_
  refine lv_iconst (v := 0) hx hb d_Op_begin_26 (by decide) ?_
  refine kx_put S hw fp_Op_25 0 rfl rfl rfl (Nat.le_of_ble_eq_true rfl) d_Op_begin_27 (fun H locs hw => ?_)
  have hw : kx_w D (kx_T cI cZ cO) A_ s_ [(h, .inr (1, [.int k, .int b, .int v, .int 0, .int 1, .int 0]))] H locs := hw
  exact kx_ret_v I rfl hw (k, b, v, 0, 1, 0) (by simp only [f_Op_begin]) [0] (by decide) rfl d_Op_begin_30
def f_Op_finish (o : kt_Op) (v : Int32) : kt_Op :=
  (o.1, o.2.1, o.2.2.1, o.2.2.2.1, 2, v)
set_option maxHeartbeats 4000000 in
set_option maxRecDepth 100000 in
theorem c_Op_finish (l : Launch) (D : va_G) (cI cZ cO : ClassId) (h : Nat) (o : kt_Op) (v : Int32) : kx_Cv (S := kt_Op) l y_Op_finish b_Op_finish 2 0 0 0 D (kx_T cI cZ cO) [.ref h, .int v] [(h, .inr (1, [.int o.1, .int o.2.1, .int o.2.2.1, .int o.2.2.2.1, .int o.2.2.2.2.1, .int o.2.2.2.2.2]))] (fun zz => zz = f_Op_finish o v) (fun zz => [(h, .inr (1, [.int zz.1, .int zz.2.1, .int zz.2.2.1, .int zz.2.2.2.1, .int zz.2.2.2.2.1, .int zz.2.2.2.2.2]))]) := by
  refine kx_enter_v (by decide) (Nat.le_of_ble_eq_true rfl) ?_
  intro p_ e_ s_ m_ below_ meth_ c_ ls A_ H I hl hw
  have S := I.1
  have hx := S.1
  have hb := S.2.1
  have hl : lv_has ls 2 [(0, .ref h), (1, .int v)] := hl
  refine lv_aload_n hx hb d_Op_finish_0 rfl (lv_at hl 0 rfl) ?_
  refine lv_iconst (v := 2) hx hb d_Op_finish_1 (by decide) ?_
  refine kx_put S hw fp_Op_22 0 rfl rfl rfl (Nat.le_of_ble_eq_true rfl) d_Op_finish_2 (fun H locs hw => ?_)
  have hw : kx_w D (kx_T cI cZ cO) A_ s_ [(h, .inr (1, [.int o.1, .int o.2.1, .int o.2.2.1, .int o.2.2.2.1, .int 2, .int o.2.2.2.2.2]))] H locs := hw
  refine lv_aload_n hx hb d_Op_finish_5 rfl (lv_at hl 0 rfl) ?_
  refine lv_iload_n hx hb d_Op_finish_6 rfl (lv_at hl 1 rfl) ?_
  refine kx_put S hw fp_Op_25 0 rfl rfl rfl (Nat.le_of_ble_eq_true rfl) d_Op_finish_7 (fun H locs hw => ?_)
  have hw : kx_w D (kx_T cI cZ cO) A_ s_ [(h, .inr (1, [.int o.1, .int o.2.1, .int o.2.2.1, .int o.2.2.2.1, .int 2, .int v]))] H locs := hw
  exact kx_ret_v I rfl hw (o.1, o.2.1, o.2.2.1, o.2.2.2.1, 2, v) (by simp only [f_Op_finish]) [0] (by decide) rfl d_Op_finish_10
def f_Op_fail (o : kt_Op) : kt_Op :=
  (o.1, o.2.1, o.2.2.1, o.2.2.2.1, 3, (-5))
set_option maxHeartbeats 4000000 in
set_option maxRecDepth 100000 in
theorem c_Op_fail (l : Launch) (D : va_G) (cI cZ cO : ClassId) (h : Nat) (o : kt_Op) : kx_Cv (S := kt_Op) l y_Op_fail b_Op_fail 1 0 0 0 D (kx_T cI cZ cO) [.ref h] [(h, .inr (1, [.int o.1, .int o.2.1, .int o.2.2.1, .int o.2.2.2.1, .int o.2.2.2.2.1, .int o.2.2.2.2.2]))] (fun zz => zz = f_Op_fail o) (fun zz => [(h, .inr (1, [.int zz.1, .int zz.2.1, .int zz.2.2.1, .int zz.2.2.2.1, .int zz.2.2.2.2.1, .int zz.2.2.2.2.2]))]) := by
  refine kx_enter_v (by decide) (Nat.le_of_ble_eq_true rfl) ?_
  intro p_ e_ s_ m_ below_ meth_ c_ ls A_ H I hl hw
  have S := I.1
  have hx := S.1
  have hb := S.2.1
  have hl : lv_has ls 1 [(0, .ref h)] := hl
  refine lv_aload_n hx hb d_Op_fail_0 rfl (lv_at hl 0 rfl) ?_
  refine lv_iconst (v := 3) hx hb d_Op_fail_1 (by decide) ?_
  refine kx_put S hw fp_Op_22 0 rfl rfl rfl (Nat.le_of_ble_eq_true rfl) d_Op_fail_2 (fun H locs hw => ?_)
  have hw : kx_w D (kx_T cI cZ cO) A_ s_ [(h, .inr (1, [.int o.1, .int o.2.1, .int o.2.2.1, .int o.2.2.2.1, .int 3, .int o.2.2.2.2.2]))] H locs := hw
  refine lv_aload_n hx hb d_Op_fail_5 rfl (lv_at hl 0 rfl) ?_
  refine lv_bipush (v := (-5)) hx hb d_Op_fail_6 (by decide) ?_
  refine kx_put S hw fp_Op_25 0 rfl rfl rfl (Nat.le_of_ble_eq_true rfl) d_Op_fail_8 (fun H locs hw => ?_)
  have hw : kx_w D (kx_T cI cZ cO) A_ s_ [(h, .inr (1, [.int o.1, .int o.2.1, .int o.2.2.1, .int o.2.2.2.1, .int 3, .int (-5)]))] H locs := hw
  exact kx_ret_v I rfl hw (o.1, o.2.1, o.2.2.1, o.2.2.2.1, 3, (-5)) (by simp only [f_Op_fail]) [0] (by decide) rfl d_Op_fail_11
def f_Ln_isEmpty (n : kt_Ln) : Int32 :=
  if n.2 = 0 then 1
  else 0
set_option maxHeartbeats 4000000 in
set_option maxRecDepth 100000 in
theorem c_Ln_isEmpty (l : Launch) (D : va_G) (cI cZ cO : ClassId) (h : Nat) (a : Nat) (n : kt_Ln) : kx_Ci (S := Unit) l y_Ln_isEmpty b_Ln_isEmpty 1 (some .boolean) 0 0 0 D (kx_T cI cZ cO) [.ref h] [(h, .inr (2, [.ref a, .int n.2])), (a, .inl (cI, 4, .inl n.1))] (fun rr _ => rr = f_Ln_isEmpty n ∧ kx_b rr) (fun _ => [(h, .inr (2, [.ref a, .int n.2])), (a, .inl (cI, 4, .inl n.1))]) := by
  refine kx_enter_i (by decide) (Nat.le_of_ble_eq_true rfl) ?_
  intro p_ e_ s_ m_ below_ meth_ c_ ls A_ H I hl hw
  have S := I.1
  have hx := S.1
  have hb := S.2.1
  have hl : lv_has ls 1 [(0, .ref h)] := hl
  refine lv_aload_n hx hb d_Ln_isEmpty_0 rfl (lv_at hl 0 rfl) ?_
  refine kx_get S hw fg_Ln_15 0 rfl rfl d_Ln_isEmpty_1 ?_
  refine lv_if_ne (tgt := 11) hx hb d_Ln_isEmpty_4 (by decide) (fun h1 => ?_) (fun h1 => ?_)
  · refine lv_iconst (v := 0) hx hb d_Ln_isEmpty_11 (by decide) ?_
    exact kx_ret_z I rfl hw (Or.inl rfl) () ⟨(by simp only [f_Ln_isEmpty, if_neg h1]), (Or.inl rfl)⟩ [0, 1] (by decide) rfl d_Ln_isEmpty_12
  · refine lv_iconst (v := 1) hx hb d_Ln_isEmpty_7 (by decide) ?_
    refine lv_goto (tgt := 12) hx hb d_Ln_isEmpty_8 (by decide) ?_
    exact kx_ret_z I rfl hw (Or.inr rfl) () ⟨(by simp only [f_Ln_isEmpty, if_pos h1]), (Or.inr rfl)⟩ [0, 1] (by decide) rfl d_Ln_isEmpty_12
def f_Ln_head (n : kt_Ln) : Int32 :=
  n.1 0
set_option maxHeartbeats 4000000 in
set_option maxRecDepth 100000 in
theorem c_Ln_head (l : Launch) (D : va_G) (cI cZ cO : ClassId) (h : Nat) (a : Nat) (n : kt_Ln) : kx_Ci (S := Unit) l y_Ln_head b_Ln_head 1 (some .int) 0 0 0 D (kx_T cI cZ cO) [.ref h] [(h, .inr (2, [.ref a, .int n.2])), (a, .inl (cI, 4, .inl n.1))] (fun rr _ => rr = f_Ln_head n) (fun _ => [(h, .inr (2, [.ref a, .int n.2])), (a, .inl (cI, 4, .inl n.1))]) := by
  refine kx_enter_i (by decide) (Nat.le_of_ble_eq_true rfl) ?_
  intro p_ e_ s_ m_ below_ meth_ c_ ls A_ H I hl hw
  have S := I.1
  have hx := S.1
  have hb := S.2.1
  have hl : lv_has ls 1 [(0, .ref h)] := hl
  refine lv_aload_n hx hb d_Ln_head_0 rfl (lv_at hl 0 rfl) ?_
  refine kx_get S hw fg_Ln_9 0 rfl rfl d_Ln_head_1 ?_
  refine lv_iconst (v := 0) hx hb d_Ln_head_4 (by decide) ?_
  refine kx_iald S hw 1 0 rfl rfl (j := 0) (by decide) (by unfold vp_in; decide) d_Ln_head_5 ?_
  exact kx_ret_i I rfl hw () (by simp only [f_Ln_head]) [0, 1] (by decide) rfl d_Ln_head_6
def f_Ln_join (n : kt_Ln) (u : Int32) : kt_Ln :=
  if 4 ≤ n.2 then n
  else (upd n.1 n.2.toNatClampNeg u, n.2 + 1)
set_option maxHeartbeats 4000000 in
set_option maxRecDepth 100000 in
theorem c_Ln_join (l : Launch) (D : va_G) (cI cZ cO : ClassId) (h : Nat) (a : Nat) (n : kt_Ln) (u : Int32) (h0 : 0 ≤ n.2) : kx_Cv (S := kt_Ln) l y_Ln_join b_Ln_join 2 0 0 0 D (kx_T cI cZ cO) [.ref h, .int u] [(h, .inr (2, [.ref a, .int n.2])), (a, .inl (cI, 4, .inl n.1))] (fun zz => zz = f_Ln_join n u) (fun zz => [(h, .inr (2, [.ref a, .int zz.2])), (a, .inl (cI, 4, .inl zz.1))]) := by
  refine kx_enter_v (by decide) (Nat.le_of_ble_eq_true rfl) ?_
  intro p_ e_ s_ m_ below_ meth_ c_ ls A_ H I hl hw
  have S := I.1
  have hx := S.1
  have hb := S.2.1
  have hl : lv_has ls 2 [(0, .ref h), (1, .int u)] := hl
  refine lv_aload_n hx hb d_Ln_join_0 rfl (lv_at hl 0 rfl) ?_
  refine kx_get S hw fg_Ln_15 0 rfl rfl d_Ln_join_1 ?_
  refine lv_iconst (v := 4) hx hb d_Ln_join_4 (by decide) ?_
  refine lv_icmp_ge (tgt := 28) hx hb d_Ln_join_5 (by decide) (fun h1 => ?_) (fun h1 => ?_)
  · exact kx_ret_v I rfl hw n (by simp only [f_Ln_join, if_pos h1]) [0, 1] (by decide) rfl d_Ln_join_28
  · refine lv_aload_n hx hb d_Ln_join_8 rfl (lv_at hl 0 rfl) ?_
    refine kx_get S hw fg_Ln_9 0 rfl rfl d_Ln_join_9 ?_
    refine lv_aload_n hx hb d_Ln_join_12 rfl (lv_at hl 0 rfl) ?_
    refine kx_get S hw fg_Ln_15 0 rfl rfl d_Ln_join_13 ?_
    refine lv_iload_n hx hb d_Ln_join_16 rfl (lv_at hl 1 rfl) ?_
    refine kx_iast S hw 1 0 rfl rfl (j := n.2.toNatClampNeg) rfl (kx_i3 rfl h0 h1) d_Ln_join_17 (fun H locs hw => ?_)
    have hw : kx_w D (kx_T cI cZ cO) A_ s_ [(h, .inr (2, [.ref a, .int n.2])), (a, .inl (cI, 4, .inl (upd n.1 n.2.toNatClampNeg u)))] H locs := hw
    refine lv_aload_n hx hb d_Ln_join_18 rfl (lv_at hl 0 rfl) ?_
    refine lv_dup hx hb d_Ln_join_19 rfl ?_
    refine kx_get S hw fg_Ln_15 0 rfl rfl d_Ln_join_20 ?_
    refine lv_iconst (v := 1) hx hb d_Ln_join_23 (by decide) ?_
    refine lv_iadd hx hb d_Ln_join_24 ?_
    refine kx_put S hw fp_Ln_15 0 rfl rfl rfl (Nat.le_of_ble_eq_true rfl) d_Ln_join_25 (fun H locs hw => ?_)
    have hw : kx_w D (kx_T cI cZ cO) A_ s_ [(h, .inr (2, [.ref a, .int (n.2 + 1)])), (a, .inl (cI, 4, .inl (upd n.1 n.2.toNatClampNeg u)))] H locs := hw
    exact kx_ret_v I rfl hw (upd n.1 n.2.toNatClampNeg u, n.2 + 1) (by simp only [f_Ln_join, if_neg h1]) [0, 1] (by decide) rfl d_Ln_join_28
def f_Ln_dropHead (n : kt_Ln) : kt_Ln :=
  if n.2 ≤ 1 then (n.1, if (n.2 - 1) < 0 then 0 else (n.2 - 1))
  else if n.2 ≤ 2 then (upd n.1 0 (n.1 1), if (n.2 - 1) < 0 then 0 else (n.2 - 1))
  else if n.2 ≤ 3 then (upd (upd n.1 0 (n.1 1)) 1 ((upd n.1 0 (n.1 1)) 2), if (n.2 - 1) < 0 then 0 else (n.2 - 1))
  else (upd (upd (upd n.1 0 (n.1 1)) 1 ((upd n.1 0 (n.1 1)) 2)) 2 ((upd (upd n.1 0 (n.1 1)) 1 ((upd n.1 0 (n.1 1)) 2)) 3), if (n.2 - 1) < 0 then 0 else (n.2 - 1))
set_option maxHeartbeats 4000000 in
set_option maxRecDepth 100000 in
theorem c_Ln_dropHead (l : Launch) (D : va_G) (cI cZ cO : ClassId) (h : Nat) (a : Nat) (n : kt_Ln) (h4 : ¬ 4 < n.2) : kx_Cv (S := kt_Ln) l y_Ln_dropHead b_Ln_dropHead 2 1 0 0 D (kx_T cI cZ cO) [.ref h] [(h, .inr (2, [.ref a, .int n.2])), (a, .inl (cI, 4, .inl n.1))] (fun zz => zz = f_Ln_dropHead n) (fun zz => [(h, .inr (2, [.ref a, .int zz.2])), (a, .inl (cI, 4, .inl zz.1))]) := by
  refine kx_enter_v (by decide) (Nat.le_of_ble_eq_true rfl) ?_
  intro p_ e_ s_ m_ below_ meth_ c_ ls A_ H I hl hw
  have S := I.1
  have hx := S.1
  have hb := S.2.1
  have hl : lv_has ls 2 [(0, .ref h)] := hl
  refine lv_iconst (v := 1) hx hb d_Ln_dropHead_0 (by decide) ?_
  refine lv_istore_n (lv' := [(1, .int 1), (0, .ref h)]) hx hb d_Ln_dropHead_1 rfl hl (by decide) rfl (fun ls hl => ?_)
  refine lv_iload_n hx hb d_Ln_dropHead_2 rfl (lv_at hl 0 rfl) ?_
  refine lv_aload_n hx hb d_Ln_dropHead_3 rfl (lv_at hl 1 rfl) ?_
  refine kx_get S hw fg_Ln_15 0 rfl rfl d_Ln_dropHead_4 ?_
  refine lv_icmp_ge (tgt := 30) hx hb d_Ln_dropHead_7 (by decide) (fun h1 => ?_) (fun h1 => ?_)
  · refine lv_aload_n hx hb d_Ln_dropHead_30 rfl (lv_at hl 1 rfl) ?_
    refine lv_aload_n hx hb d_Ln_dropHead_31 rfl (lv_at hl 1 rfl) ?_
    refine kx_get S hw fg_Ln_15 0 rfl rfl d_Ln_dropHead_32 ?_
    refine lv_iconst (v := 1) hx hb d_Ln_dropHead_35 (by decide) ?_
    refine lv_isub hx hb d_Ln_dropHead_36 ?_
    refine lv_iconst (v := 0) hx hb d_Ln_dropHead_37 (by decide) ?_
    refine kx_max S fm_Ln_19 hl.1 (by decide) (Nat.le_of_ble_eq_true rfl) (by decide) (by decide) d_Ln_dropHead_38 ?_
    refine kx_put S hw fp_Ln_15 0 rfl rfl rfl (Nat.le_of_ble_eq_true rfl) d_Ln_dropHead_41 (fun H locs hw => ?_)
    have hw : kx_w D (kx_T cI cZ cO) A_ s_ [(h, .inr (2, [.ref a, .int (if (n.2 - 1) < 0 then 0 else (n.2 - 1))])), (a, .inl (cI, 4, .inl n.1))] H locs := hw
    exact kx_ret_v I rfl hw (n.1, if (n.2 - 1) < 0 then 0 else (n.2 - 1)) (by simp only [f_Ln_dropHead, if_pos h1]) [0, 1] (by decide) rfl d_Ln_dropHead_44
  · refine lv_aload_n hx hb d_Ln_dropHead_10 rfl (lv_at hl 1 rfl) ?_
    refine kx_get S hw fg_Ln_9 0 rfl rfl d_Ln_dropHead_11 ?_
    refine lv_iload_n hx hb d_Ln_dropHead_14 rfl (lv_at hl 0 rfl) ?_
    refine lv_iconst (v := 1) hx hb d_Ln_dropHead_15 (by decide) ?_
    refine lv_isub hx hb d_Ln_dropHead_16 ?_
    refine kx_top (v := 0) (by decide) ?_
    refine lv_aload_n hx hb d_Ln_dropHead_17 rfl (lv_at hl 1 rfl) ?_
    refine kx_get S hw fg_Ln_9 0 rfl rfl d_Ln_dropHead_18 ?_
    refine lv_iload_n hx hb d_Ln_dropHead_21 rfl (lv_at hl 0 rfl) ?_
    refine kx_iald S hw 1 0 rfl rfl (j := 1) (by decide) (by unfold vp_in; decide) d_Ln_dropHead_22 ?_
    refine kx_iast S hw 1 0 rfl rfl (j := 0) (by decide) (by unfold vp_in; decide) d_Ln_dropHead_23 (fun H locs hw => ?_)
    have hw : kx_w D (kx_T cI cZ cO) A_ s_ [(h, .inr (2, [.ref a, .int n.2])), (a, .inl (cI, 4, .inl (upd n.1 0 (n.1 1))))] H locs := hw
    refine lv_iinc (v := 2) (k := 0) (lv' := [(1, .int 2), (0, .ref h)]) hx hb d_Ln_dropHead_24 hl rfl (by decide) (by decide) rfl (fun ls hl => ?_)
    refine lv_goto (tgt := 2) hx hb d_Ln_dropHead_27 (by decide) ?_
    refine lv_iload_n hx hb d_Ln_dropHead_2 rfl (lv_at hl 0 rfl) ?_
    refine lv_aload_n hx hb d_Ln_dropHead_3 rfl (lv_at hl 1 rfl) ?_
    refine kx_get S hw fg_Ln_15 0 rfl rfl d_Ln_dropHead_4 ?_
    refine lv_icmp_ge (tgt := 30) hx hb d_Ln_dropHead_7 (by decide) (fun h2 => ?_) (fun h2 => ?_)
    · refine lv_aload_n hx hb d_Ln_dropHead_30 rfl (lv_at hl 1 rfl) ?_
      refine lv_aload_n hx hb d_Ln_dropHead_31 rfl (lv_at hl 1 rfl) ?_
      refine kx_get S hw fg_Ln_15 0 rfl rfl d_Ln_dropHead_32 ?_
      refine lv_iconst (v := 1) hx hb d_Ln_dropHead_35 (by decide) ?_
      refine lv_isub hx hb d_Ln_dropHead_36 ?_
      refine lv_iconst (v := 0) hx hb d_Ln_dropHead_37 (by decide) ?_
      refine kx_max S fm_Ln_19 hl.1 (by decide) (Nat.le_of_ble_eq_true rfl) (by decide) (by decide) d_Ln_dropHead_38 ?_
      refine kx_put S hw fp_Ln_15 0 rfl rfl rfl (Nat.le_of_ble_eq_true rfl) d_Ln_dropHead_41 (fun H locs hw => ?_)
      have hw : kx_w D (kx_T cI cZ cO) A_ s_ [(h, .inr (2, [.ref a, .int (if (n.2 - 1) < 0 then 0 else (n.2 - 1))])), (a, .inl (cI, 4, .inl (upd n.1 0 (n.1 1))))] H locs := hw
      exact kx_ret_v I rfl hw (upd n.1 0 (n.1 1), if (n.2 - 1) < 0 then 0 else (n.2 - 1)) (by simp only [f_Ln_dropHead, if_neg h1, if_pos h2]) [0, 1] (by decide) rfl d_Ln_dropHead_44
    · refine lv_aload_n hx hb d_Ln_dropHead_10 rfl (lv_at hl 1 rfl) ?_
      refine kx_get S hw fg_Ln_9 0 rfl rfl d_Ln_dropHead_11 ?_
      refine lv_iload_n hx hb d_Ln_dropHead_14 rfl (lv_at hl 0 rfl) ?_
      refine lv_iconst (v := 1) hx hb d_Ln_dropHead_15 (by decide) ?_
      refine lv_isub hx hb d_Ln_dropHead_16 ?_
      refine kx_top (v := 1) (by decide) ?_
      refine lv_aload_n hx hb d_Ln_dropHead_17 rfl (lv_at hl 1 rfl) ?_
      refine kx_get S hw fg_Ln_9 0 rfl rfl d_Ln_dropHead_18 ?_
      refine lv_iload_n hx hb d_Ln_dropHead_21 rfl (lv_at hl 0 rfl) ?_
      refine kx_iald S hw 1 0 rfl rfl (j := 2) (by decide) (by unfold vp_in; decide) d_Ln_dropHead_22 ?_
      refine kx_iast S hw 1 0 rfl rfl (j := 1) (by decide) (by unfold vp_in; decide) d_Ln_dropHead_23 (fun H locs hw => ?_)
      have hw : kx_w D (kx_T cI cZ cO) A_ s_ [(h, .inr (2, [.ref a, .int n.2])), (a, .inl (cI, 4, .inl (upd (upd n.1 0 (n.1 1)) 1 ((upd n.1 0 (n.1 1)) 2))))] H locs := hw
      refine lv_iinc (v := 3) (k := 0) (lv' := [(1, .int 3), (0, .ref h)]) hx hb d_Ln_dropHead_24 hl rfl (by decide) (by decide) rfl (fun ls hl => ?_)
      refine lv_goto (tgt := 2) hx hb d_Ln_dropHead_27 (by decide) ?_
      refine lv_iload_n hx hb d_Ln_dropHead_2 rfl (lv_at hl 0 rfl) ?_
      refine lv_aload_n hx hb d_Ln_dropHead_3 rfl (lv_at hl 1 rfl) ?_
      refine kx_get S hw fg_Ln_15 0 rfl rfl d_Ln_dropHead_4 ?_
      refine lv_icmp_ge (tgt := 30) hx hb d_Ln_dropHead_7 (by decide) (fun h3 => ?_) (fun h3 => ?_)
      · refine lv_aload_n hx hb d_Ln_dropHead_30 rfl (lv_at hl 1 rfl) ?_
        refine lv_aload_n hx hb d_Ln_dropHead_31 rfl (lv_at hl 1 rfl) ?_
        refine kx_get S hw fg_Ln_15 0 rfl rfl d_Ln_dropHead_32 ?_
        refine lv_iconst (v := 1) hx hb d_Ln_dropHead_35 (by decide) ?_
        refine lv_isub hx hb d_Ln_dropHead_36 ?_
        refine lv_iconst (v := 0) hx hb d_Ln_dropHead_37 (by decide) ?_
        refine kx_max S fm_Ln_19 hl.1 (by decide) (Nat.le_of_ble_eq_true rfl) (by decide) (by decide) d_Ln_dropHead_38 ?_
        refine kx_put S hw fp_Ln_15 0 rfl rfl rfl (Nat.le_of_ble_eq_true rfl) d_Ln_dropHead_41 (fun H locs hw => ?_)
        have hw : kx_w D (kx_T cI cZ cO) A_ s_ [(h, .inr (2, [.ref a, .int (if (n.2 - 1) < 0 then 0 else (n.2 - 1))])), (a, .inl (cI, 4, .inl (upd (upd n.1 0 (n.1 1)) 1 ((upd n.1 0 (n.1 1)) 2))))] H locs := hw
        exact kx_ret_v I rfl hw (upd (upd n.1 0 (n.1 1)) 1 ((upd n.1 0 (n.1 1)) 2), if (n.2 - 1) < 0 then 0 else (n.2 - 1)) (by simp only [f_Ln_dropHead, if_neg h1, if_neg h2, if_pos h3]) [0, 1] (by decide) rfl d_Ln_dropHead_44
      · refine lv_aload_n hx hb d_Ln_dropHead_10 rfl (lv_at hl 1 rfl) ?_
        refine kx_get S hw fg_Ln_9 0 rfl rfl d_Ln_dropHead_11 ?_
        refine lv_iload_n hx hb d_Ln_dropHead_14 rfl (lv_at hl 0 rfl) ?_
        refine lv_iconst (v := 1) hx hb d_Ln_dropHead_15 (by decide) ?_
        refine lv_isub hx hb d_Ln_dropHead_16 ?_
        refine kx_top (v := 2) (by decide) ?_
        refine lv_aload_n hx hb d_Ln_dropHead_17 rfl (lv_at hl 1 rfl) ?_
        refine kx_get S hw fg_Ln_9 0 rfl rfl d_Ln_dropHead_18 ?_
        refine lv_iload_n hx hb d_Ln_dropHead_21 rfl (lv_at hl 0 rfl) ?_
        refine kx_iald S hw 1 0 rfl rfl (j := 3) (by decide) (by unfold vp_in; decide) d_Ln_dropHead_22 ?_
        refine kx_iast S hw 1 0 rfl rfl (j := 2) (by decide) (by unfold vp_in; decide) d_Ln_dropHead_23 (fun H locs hw => ?_)
        have hw : kx_w D (kx_T cI cZ cO) A_ s_ [(h, .inr (2, [.ref a, .int n.2])), (a, .inl (cI, 4, .inl (upd (upd (upd n.1 0 (n.1 1)) 1 ((upd n.1 0 (n.1 1)) 2)) 2 ((upd (upd n.1 0 (n.1 1)) 1 ((upd n.1 0 (n.1 1)) 2)) 3))))] H locs := hw
        refine lv_iinc (v := 4) (k := 0) (lv' := [(1, .int 4), (0, .ref h)]) hx hb d_Ln_dropHead_24 hl rfl (by decide) (by decide) rfl (fun ls hl => ?_)
        refine lv_goto (tgt := 2) hx hb d_Ln_dropHead_27 (by decide) ?_
        refine lv_iload_n hx hb d_Ln_dropHead_2 rfl (lv_at hl 0 rfl) ?_
        refine lv_aload_n hx hb d_Ln_dropHead_3 rfl (lv_at hl 1 rfl) ?_
        refine kx_get S hw fg_Ln_15 0 rfl rfl d_Ln_dropHead_4 ?_
        refine lv_icmp_ge (tgt := 30) hx hb d_Ln_dropHead_7 (by decide) (fun _ => ?_) (fun hq => (hq (Int32.not_lt.mp h4)).elim)
        refine lv_aload_n hx hb d_Ln_dropHead_30 rfl (lv_at hl 1 rfl) ?_
        refine lv_aload_n hx hb d_Ln_dropHead_31 rfl (lv_at hl 1 rfl) ?_
        refine kx_get S hw fg_Ln_15 0 rfl rfl d_Ln_dropHead_32 ?_
        refine lv_iconst (v := 1) hx hb d_Ln_dropHead_35 (by decide) ?_
        refine lv_isub hx hb d_Ln_dropHead_36 ?_
        refine lv_iconst (v := 0) hx hb d_Ln_dropHead_37 (by decide) ?_
        refine kx_max S fm_Ln_19 hl.1 (by decide) (Nat.le_of_ble_eq_true rfl) (by decide) (by decide) d_Ln_dropHead_38 ?_
        refine kx_put S hw fp_Ln_15 0 rfl rfl rfl (Nat.le_of_ble_eq_true rfl) d_Ln_dropHead_41 (fun H locs hw => ?_)
        have hw : kx_w D (kx_T cI cZ cO) A_ s_ [(h, .inr (2, [.ref a, .int (if (n.2 - 1) < 0 then 0 else (n.2 - 1))])), (a, .inl (cI, 4, .inl (upd (upd (upd n.1 0 (n.1 1)) 1 ((upd n.1 0 (n.1 1)) 2)) 2 ((upd (upd n.1 0 (n.1 1)) 1 ((upd n.1 0 (n.1 1)) 2)) 3))))] H locs := hw
        exact kx_ret_v I rfl hw (upd (upd (upd n.1 0 (n.1 1)) 1 ((upd n.1 0 (n.1 1)) 2)) 2 ((upd (upd n.1 0 (n.1 1)) 1 ((upd n.1 0 (n.1 1)) 2)) 3), if (n.2 - 1) < 0 then 0 else (n.2 - 1)) (by simp only [f_Ln_dropHead, if_neg h1, if_neg h2, if_neg h3]) [0, 1] (by decide) rfl d_Ln_dropHead_44
def f_Dr_die (d : kt_Dr) : kt_Dr :=
  (d.1, 2, (-1), d.2.2.2.1, 0, d.2.2.2.2.2)
set_option maxHeartbeats 4000000 in
set_option maxRecDepth 100000 in
theorem c_Dr_die (l : Launch) (D : va_G) (cI cZ cO : ClassId) (h : Nat) (d : kt_Dr) : kx_Cv (S := kt_Dr) l y_Dr_die b_Dr_die 1 0 0 0 D (kx_T cI cZ cO) [.ref h] [(h, .inr (3, [.int d.1, .int d.2.1, .int d.2.2.1, .int d.2.2.2.1, .int d.2.2.2.2.1, .int d.2.2.2.2.2]))] (fun zz => zz = f_Dr_die d) (fun zz => [(h, .inr (3, [.int zz.1, .int zz.2.1, .int zz.2.2.1, .int zz.2.2.2.1, .int zz.2.2.2.2.1, .int zz.2.2.2.2.2]))]) := by
  refine kx_enter_v (by decide) (Nat.le_of_ble_eq_true rfl) ?_
  intro p_ e_ s_ m_ below_ meth_ c_ ls A_ H I hl hw
  have S := I.1
  have hx := S.1
  have hb := S.2.1
  have hl : lv_has ls 1 [(0, .ref h)] := hl
  refine lv_aload_n hx hb d_Dr_die_0 rfl (lv_at hl 0 rfl) ?_
  refine lv_iconst (v := 2) hx hb d_Dr_die_1 (by decide) ?_
  refine kx_put S hw fp_Dr_11 0 rfl rfl rfl (Nat.le_of_ble_eq_true rfl) d_Dr_die_2 (fun H locs hw => ?_)
  have hw : kx_w D (kx_T cI cZ cO) A_ s_ [(h, .inr (3, [.int d.1, .int 2, .int d.2.2.1, .int d.2.2.2.1, .int d.2.2.2.2.1, .int d.2.2.2.2.2]))] H locs := hw
  refine lv_aload_n hx hb d_Dr_die_5 rfl (lv_at hl 0 rfl) ?_
  refine lv_iconst (v := (-1)) hx hb d_Dr_die_6 (by decide) ?_
  refine kx_put S hw fp_Dr_15 0 rfl rfl rfl (Nat.le_of_ble_eq_true rfl) d_Dr_die_7 (fun H locs hw => ?_)
  have hw : kx_w D (kx_T cI cZ cO) A_ s_ [(h, .inr (3, [.int d.1, .int 2, .int (-1), .int d.2.2.2.1, .int d.2.2.2.2.1, .int d.2.2.2.2.2]))] H locs := hw
  refine lv_aload_n hx hb d_Dr_die_10 rfl (lv_at hl 0 rfl) ?_
  refine lv_iconst (v := 0) hx hb d_Dr_die_11 (by decide) ?_
  refine kx_put S hw fp_Dr_22 0 rfl rfl rfl (Nat.le_of_ble_eq_true rfl) d_Dr_die_12 (fun H locs hw => ?_)
  have hw : kx_w D (kx_T cI cZ cO) A_ s_ [(h, .inr (3, [.int d.1, .int 2, .int (-1), .int d.2.2.2.1, .int 0, .int d.2.2.2.2.2]))] H locs := hw
  exact kx_ret_v I rfl hw (d.1, 2, (-1), d.2.2.2.1, 0, d.2.2.2.2.2) (by simp only [f_Dr_die]) [0] (by decide) rfl d_Dr_die_15
def f_Dr_restart (d : kt_Dr) : kt_Dr :=
  (d.1 + 1, 0, (-1), 1, 0, d.2.2.2.2.2)
set_option maxHeartbeats 4000000 in
set_option maxRecDepth 100000 in
theorem c_Dr_restart (l : Launch) (D : va_G) (cI cZ cO : ClassId) (h : Nat) (d : kt_Dr) : kx_Cv (S := kt_Dr) l y_Dr_restart b_Dr_restart 1 0 0 0 D (kx_T cI cZ cO) [.ref h] [(h, .inr (3, [.int d.1, .int d.2.1, .int d.2.2.1, .int d.2.2.2.1, .int d.2.2.2.2.1, .int d.2.2.2.2.2]))] (fun zz => zz = f_Dr_restart d) (fun zz => [(h, .inr (3, [.int zz.1, .int zz.2.1, .int zz.2.2.1, .int zz.2.2.2.1, .int zz.2.2.2.2.1, .int zz.2.2.2.2.2]))]) := by
  refine kx_enter_v (by decide) (Nat.le_of_ble_eq_true rfl) ?_
  intro p_ e_ s_ m_ below_ meth_ c_ ls A_ H I hl hw
  have S := I.1
  have hx := S.1
  have hb := S.2.1
  have hl : lv_has ls 1 [(0, .ref h)] := hl
  refine lv_aload_n hx hb d_Dr_restart_0 rfl (lv_at hl 0 rfl) ?_
  refine lv_dup hx hb d_Dr_restart_1 rfl ?_
  refine kx_get S hw fg_Dr_31 0 rfl rfl d_Dr_restart_2 ?_
  refine lv_iconst (v := 1) hx hb d_Dr_restart_5 (by decide) ?_
  refine lv_iadd hx hb d_Dr_restart_6 ?_
  refine kx_put S hw fp_Dr_31 0 rfl rfl rfl (Nat.le_of_ble_eq_true rfl) d_Dr_restart_7 (fun H locs hw => ?_)
  have hw : kx_w D (kx_T cI cZ cO) A_ s_ [(h, .inr (3, [.int (d.1 + 1), .int d.2.1, .int d.2.2.1, .int d.2.2.2.1, .int d.2.2.2.2.1, .int d.2.2.2.2.2]))] H locs := hw
  refine lv_aload_n hx hb d_Dr_restart_10 rfl (lv_at hl 0 rfl) ?_
  refine lv_iconst (v := 0) hx hb d_Dr_restart_11 (by decide) ?_
  refine kx_put S hw fp_Dr_11 0 rfl rfl rfl (Nat.le_of_ble_eq_true rfl) d_Dr_restart_12 (fun H locs hw => ?_)
  have hw : kx_w D (kx_T cI cZ cO) A_ s_ [(h, .inr (3, [.int (d.1 + 1), .int 0, .int d.2.2.1, .int d.2.2.2.1, .int d.2.2.2.2.1, .int d.2.2.2.2.2]))] H locs := hw
  refine lv_aload_n hx hb d_Dr_restart_15 rfl (lv_at hl 0 rfl) ?_
  refine lv_iconst (v := (-1)) hx hb d_Dr_restart_16 (by decide) ?_
  refine kx_put S hw fp_Dr_15 0 rfl rfl rfl (Nat.le_of_ble_eq_true rfl) d_Dr_restart_17 (fun H locs hw => ?_)
  have hw : kx_w D (kx_T cI cZ cO) A_ s_ [(h, .inr (3, [.int (d.1 + 1), .int 0, .int (-1), .int d.2.2.2.1, .int d.2.2.2.2.1, .int d.2.2.2.2.2]))] H locs := hw
  refine lv_aload_n hx hb d_Dr_restart_20 rfl (lv_at hl 0 rfl) ?_
  refine lv_iconst (v := 1) hx hb d_Dr_restart_21 (by decide) ?_
  refine kx_put S hw fp_Dr_18 0 rfl rfl rfl (Nat.le_of_ble_eq_true rfl) d_Dr_restart_22 (fun H locs hw => ?_)
  have hw : kx_w D (kx_T cI cZ cO) A_ s_ [(h, .inr (3, [.int (d.1 + 1), .int 0, .int (-1), .int 1, .int d.2.2.2.2.1, .int d.2.2.2.2.2]))] H locs := hw
  refine lv_aload_n hx hb d_Dr_restart_25 rfl (lv_at hl 0 rfl) ?_
  refine lv_iconst (v := 0) hx hb d_Dr_restart_26 (by decide) ?_
  refine kx_put S hw fp_Dr_22 0 rfl rfl rfl (Nat.le_of_ble_eq_true rfl) d_Dr_restart_27 (fun H locs hw => ?_)
  have hw : kx_w D (kx_T cI cZ cO) A_ s_ [(h, .inr (3, [.int (d.1 + 1), .int 0, .int (-1), .int 1, .int 0, .int d.2.2.2.2.2]))] H locs := hw
  exact kx_ret_v I rfl hw (d.1 + 1, 0, (-1), 1, 0, d.2.2.2.2.2) (by simp only [f_Dr_restart]) [0] (by decide) rfl d_Dr_restart_30
def f_Dr_suffer (d : kt_Dr) (f : Int32) : Int32 × kt_Dr :=
  if d.2.1 = 2 then (0, d)
  else if d.2.1 = 1 then (if f = 0 then (match f_Dr_die d with
      | d7 => (1, d7))
    else (0, d))
  else if f = 0 then (match f_Dr_die d with
    | d5 => (1, d5))
  else if f = 1 then (1, (d.1, 1, d.2.2.1, d.2.2.2.1, d.2.2.2.2.1, d.2.2.2.2.2))
  else (1, (d.1, d.2.1, d.2.2.1, d.2.2.2.1, f, d.2.2.2.2.2))
set_option maxHeartbeats 4000000 in
set_option maxRecDepth 100000 in
theorem c_Dr_suffer (l : Launch) (D : va_G) (cI cZ cO : ClassId) (h : Nat) (d : kt_Dr) (f : Int32) : kx_Ci (S := kt_Dr) l y_Dr_suffer b_Dr_suffer 2 (some .boolean) 1 0 0 D (kx_T cI cZ cO) [.ref h, .int f] [(h, .inr (3, [.int d.1, .int d.2.1, .int d.2.2.1, .int d.2.2.2.1, .int d.2.2.2.2.1, .int d.2.2.2.2.2]))] (fun rr zz => (rr, zz) = f_Dr_suffer d f ∧ kx_b rr) (fun zz => [(h, .inr (3, [.int zz.1, .int zz.2.1, .int zz.2.2.1, .int zz.2.2.2.1, .int zz.2.2.2.2.1, .int zz.2.2.2.2.2]))]) := by
  refine kx_enter_i (by decide) (Nat.le_of_ble_eq_true rfl) ?_
  intro p_ e_ s_ m_ below_ meth_ c_ ls A_ H I hl hw
  have S := I.1
  have hx := S.1
  have hb := S.2.1
  have hl : lv_has ls 2 [(0, .ref h), (1, .int f)] := hl
  refine lv_aload_n hx hb d_Dr_suffer_0 rfl (lv_at hl 0 rfl) ?_
  refine kx_get S hw fg_Dr_11 0 rfl rfl d_Dr_suffer_1 ?_
  refine lv_iconst (v := 2) hx hb d_Dr_suffer_4 (by decide) ?_
  refine lv_icmp_eq (tgt := 20) hx hb d_Dr_suffer_5 (by decide) (fun h1 => ?_) (fun h1 => ?_)
  · refine lv_iconst (v := 0) hx hb d_Dr_suffer_20 (by decide) ?_
    exact kx_ret_z I rfl hw (Or.inl rfl) d ⟨(by simp only [f_Dr_suffer, if_pos h1]), (Or.inl rfl)⟩ [0] (by decide) rfl d_Dr_suffer_21
  · refine lv_aload_n hx hb d_Dr_suffer_8 rfl (lv_at hl 0 rfl) ?_
    refine kx_get S hw fg_Dr_11 0 rfl rfl d_Dr_suffer_9 ?_
    refine lv_iconst (v := 1) hx hb d_Dr_suffer_12 (by decide) ?_
    refine lv_icmp_ne (tgt := 22) hx hb d_Dr_suffer_13 (by decide) (fun h2 => ?_) (fun h2 => ?_)
    · refine lv_iload_n hx hb d_Dr_suffer_22 rfl (lv_at hl 1 rfl) ?_
      refine lv_if_ne (tgt := 33) hx hb d_Dr_suffer_23 (by decide) (fun h3 => ?_) (fun h3 => ?_)
      · refine lv_iload_n hx hb d_Dr_suffer_33 rfl (lv_at hl 1 rfl) ?_
        refine lv_iconst (v := 1) hx hb d_Dr_suffer_34 (by decide) ?_
        refine lv_icmp_ne (tgt := 46) hx hb d_Dr_suffer_35 (by decide) (fun h4 => ?_) (fun h4 => ?_)
        · refine lv_aload_n hx hb d_Dr_suffer_46 rfl (lv_at hl 0 rfl) ?_
          refine lv_iload_n hx hb d_Dr_suffer_47 rfl (lv_at hl 1 rfl) ?_
          refine kx_put S hw fp_Dr_22 0 rfl rfl rfl (Nat.le_of_ble_eq_true rfl) d_Dr_suffer_48 (fun H locs hw => ?_)
          have hw : kx_w D (kx_T cI cZ cO) A_ s_ [(h, .inr (3, [.int d.1, .int d.2.1, .int d.2.2.1, .int d.2.2.2.1, .int f, .int d.2.2.2.2.2]))] H locs := hw
          refine lv_iconst (v := 1) hx hb d_Dr_suffer_51 (by decide) ?_
          exact kx_ret_z I rfl hw (Or.inr rfl) (d.1, d.2.1, d.2.2.1, d.2.2.2.1, f, d.2.2.2.2.2) ⟨(by simp only [f_Dr_suffer, if_neg h1, if_neg h2, if_neg h3, if_neg h4]), (Or.inr rfl)⟩ [0] (by decide) rfl d_Dr_suffer_52
        · refine lv_aload_n hx hb d_Dr_suffer_38 rfl (lv_at hl 0 rfl) ?_
          refine lv_iconst (v := 1) hx hb d_Dr_suffer_39 (by decide) ?_
          refine kx_put S hw fp_Dr_11 0 rfl rfl rfl (Nat.le_of_ble_eq_true rfl) d_Dr_suffer_40 (fun H locs hw => ?_)
          have hw : kx_w D (kx_T cI cZ cO) A_ s_ [(h, .inr (3, [.int d.1, .int 1, .int d.2.2.1, .int d.2.2.2.1, .int d.2.2.2.2.1, .int d.2.2.2.2.2]))] H locs := hw
          refine lv_goto (tgt := 51) hx hb d_Dr_suffer_43 (by decide) ?_
          refine lv_iconst (v := 1) hx hb d_Dr_suffer_51 (by decide) ?_
          exact kx_ret_z I rfl hw (Or.inr rfl) (d.1, 1, d.2.2.1, d.2.2.2.1, d.2.2.2.2.1, d.2.2.2.2.2) ⟨(by simp only [f_Dr_suffer, if_neg h1, if_neg h2, if_neg h3, if_pos h4]), (Or.inr rfl)⟩ [0] (by decide) rfl d_Dr_suffer_52
      · refine lv_aload_n hx hb d_Dr_suffer_26 rfl (lv_at hl 0 rfl) ?_
        refine kx_call_v (wc := [(h, .inr (3, [.int d.1, .int d.2.1, .int d.2.2.1, .int d.2.2.2.1, .int d.2.2.2.2.1, .int d.2.2.2.2.2]))]) (wr := []) (rest := []) hw [0] [] rfl rfl (by decide) (by decide) (kx_runV S hw fc_Dr_25 rfl 0 rfl [0] (by decide) rfl (c_Dr_die l D cI cZ cO h d H.size) rfl hl.1 rfl (Nat.le_of_ble_eq_true rfl) d_Dr_suffer_27 (by decide) (by decide)) (fun u5 H locs hp5 hw => ?_)
        obtain ⟨d5, rfl⟩ : ∃ z, z = u5 := ⟨_, rfl⟩
        have hw : kx_w D (kx_T cI cZ cO) A_ s_ [(h, .inr (3, [.int d5.1, .int d5.2.1, .int d5.2.2.1, .int d5.2.2.2.1, .int d5.2.2.2.2.1, .int d5.2.2.2.2.2]))] H locs := hw
        refine lv_goto (tgt := 51) hx hb d_Dr_suffer_30 (by decide) ?_
        refine lv_iconst (v := 1) hx hb d_Dr_suffer_51 (by decide) ?_
        exact kx_ret_z I rfl hw (Or.inr rfl) d5 ⟨(by simp only [f_Dr_suffer, if_neg h1, if_neg h2, if_pos h3, ← hp5]), (Or.inr rfl)⟩ [0] (by decide) rfl d_Dr_suffer_52
    · refine lv_iload_n hx hb d_Dr_suffer_16 rfl (lv_at hl 1 rfl) ?_
      refine lv_if_eq (tgt := 22) hx hb d_Dr_suffer_17 (by decide) (fun h6 => ?_) (fun h6 => ?_)
      · refine lv_iload_n hx hb d_Dr_suffer_22 rfl (lv_at hl 1 rfl) ?_
        refine lv_if_ne (tgt := 33) hx hb d_Dr_suffer_23 (by decide) (fun h => absurd h6 h) (fun _ => ?_)
        refine lv_aload_n hx hb d_Dr_suffer_26 rfl (lv_at hl 0 rfl) ?_
        refine kx_call_v (wc := [(h, .inr (3, [.int d.1, .int d.2.1, .int d.2.2.1, .int d.2.2.2.1, .int d.2.2.2.2.1, .int d.2.2.2.2.2]))]) (wr := []) (rest := []) hw [0] [] rfl rfl (by decide) (by decide) (kx_runV S hw fc_Dr_25 rfl 0 rfl [0] (by decide) rfl (c_Dr_die l D cI cZ cO h d H.size) rfl hl.1 rfl (Nat.le_of_ble_eq_true rfl) d_Dr_suffer_27 (by decide) (by decide)) (fun u7 H locs hp7 hw => ?_)
        obtain ⟨d7, rfl⟩ : ∃ z, z = u7 := ⟨_, rfl⟩
        have hw : kx_w D (kx_T cI cZ cO) A_ s_ [(h, .inr (3, [.int d7.1, .int d7.2.1, .int d7.2.2.1, .int d7.2.2.2.1, .int d7.2.2.2.2.1, .int d7.2.2.2.2.2]))] H locs := hw
        refine lv_goto (tgt := 51) hx hb d_Dr_suffer_30 (by decide) ?_
        refine lv_iconst (v := 1) hx hb d_Dr_suffer_51 (by decide) ?_
        exact kx_ret_z I rfl hw (Or.inr rfl) d7 ⟨(by simp only [f_Dr_suffer, if_neg h1, if_pos h2, if_pos h6, ← hp7]), (Or.inr rfl)⟩ [0] (by decide) rfl d_Dr_suffer_52
      · refine lv_iconst (v := 0) hx hb d_Dr_suffer_20 (by decide) ?_
        exact kx_ret_z I rfl hw (Or.inl rfl) d ⟨(by simp only [f_Dr_suffer, if_neg h1, if_pos h2, if_neg h6]), (Or.inl rfl)⟩ [0] (by decide) rfl d_Dr_suffer_21
def f_Dr_beWatched (d : kt_Dr) (p : Int32) : kt_Dr :=
  if d.2.1 = 2 then (match f_Dr_restart d with
    | d2 => d2)
  else if p = 0 then d
  else if d.2.2.2.1 = 0 then (match f_Dr_restart d with
    | d5 => d5)
  else (d.1, d.2.1, d.2.2.1, 0, d.2.2.2.2.1, d.2.2.2.2.2)
set_option maxHeartbeats 4000000 in
set_option maxRecDepth 100000 in
theorem c_Dr_beWatched (l : Launch) (D : va_G) (cI cZ cO : ClassId) (h : Nat) (d : kt_Dr) (p : Int32) : kx_Cv (S := kt_Dr) l y_Dr_beWatched b_Dr_beWatched 2 1 0 0 D (kx_T cI cZ cO) [.ref h, .int p] [(h, .inr (3, [.int d.1, .int d.2.1, .int d.2.2.1, .int d.2.2.2.1, .int d.2.2.2.2.1, .int d.2.2.2.2.2]))] (fun zz => zz = f_Dr_beWatched d p) (fun zz => [(h, .inr (3, [.int zz.1, .int zz.2.1, .int zz.2.2.1, .int zz.2.2.2.1, .int zz.2.2.2.2.1, .int zz.2.2.2.2.2]))]) := by
  refine kx_enter_v (by decide) (Nat.le_of_ble_eq_true rfl) ?_
  intro p_ e_ s_ m_ below_ meth_ c_ ls A_ H I hl hw
  have S := I.1
  have hx := S.1
  have hb := S.2.1
  have hl : lv_has ls 2 [(0, .ref h), (1, .int p)] := hl
  refine lv_aload_n hx hb d_Dr_beWatched_0 rfl (lv_at hl 0 rfl) ?_
  refine kx_get S hw fg_Dr_11 0 rfl rfl d_Dr_beWatched_1 ?_
  refine lv_iconst (v := 2) hx hb d_Dr_beWatched_4 (by decide) ?_
  refine lv_icmp_eq (tgt := 19) hx hb d_Dr_beWatched_5 (by decide) (fun h1 => ?_) (fun h1 => ?_)
  · refine lv_aload_n hx hb d_Dr_beWatched_19 rfl (lv_at hl 0 rfl) ?_
    refine kx_call_v (wc := [(h, .inr (3, [.int d.1, .int d.2.1, .int d.2.2.1, .int d.2.2.2.1, .int d.2.2.2.2.1, .int d.2.2.2.2.2]))]) (wr := []) (rest := []) hw [0] [] rfl rfl (by decide) (by decide) (kx_runV S hw fc_Dr_28 rfl 0 rfl [0] (by decide) rfl (c_Dr_restart l D cI cZ cO h d H.size) rfl hl.1 rfl (Nat.le_of_ble_eq_true rfl) d_Dr_beWatched_20 (by decide) (by decide)) (fun u2 H locs hp2 hw => ?_)
    obtain ⟨d2, rfl⟩ : ∃ z, z = u2 := ⟨_, rfl⟩
    have hw : kx_w D (kx_T cI cZ cO) A_ s_ [(h, .inr (3, [.int d2.1, .int d2.2.1, .int d2.2.2.1, .int d2.2.2.2.1, .int d2.2.2.2.2.1, .int d2.2.2.2.2.2]))] H locs := hw
    refine lv_goto (tgt := 35) hx hb d_Dr_beWatched_23 (by decide) ?_
    exact kx_ret_v I rfl hw d2 (by simp only [f_Dr_beWatched, if_pos h1, ← hp2]) [0] (by decide) rfl d_Dr_beWatched_35
  · refine lv_iload_n hx hb d_Dr_beWatched_8 rfl (lv_at hl 1 rfl) ?_
    refine lv_if_eq (tgt := 26) hx hb d_Dr_beWatched_9 (by decide) (fun h3 => ?_) (fun h3 => ?_)
    · refine lv_iload_n hx hb d_Dr_beWatched_26 rfl (lv_at hl 1 rfl) ?_
      refine lv_if_eq (tgt := 35) hx hb d_Dr_beWatched_27 (by decide) (fun _ => ?_) (fun h => absurd h3 h)
      exact kx_ret_v I rfl hw d (by simp only [f_Dr_beWatched, if_neg h1, if_pos h3]) [0] (by decide) rfl d_Dr_beWatched_35
    · refine lv_aload_n hx hb d_Dr_beWatched_12 rfl (lv_at hl 0 rfl) ?_
      refine kx_get S hw fg_Dr_18 0 rfl rfl d_Dr_beWatched_13 ?_
      refine lv_if_ne (tgt := 26) hx hb d_Dr_beWatched_16 (by decide) (fun h4 => ?_) (fun h4 => ?_)
      · refine lv_iload_n hx hb d_Dr_beWatched_26 rfl (lv_at hl 1 rfl) ?_
        refine lv_if_eq (tgt := 35) hx hb d_Dr_beWatched_27 (by decide) (fun h => absurd h h3) (fun _ => ?_)
        refine lv_aload_n hx hb d_Dr_beWatched_30 rfl (lv_at hl 0 rfl) ?_
        refine lv_iconst (v := 0) hx hb d_Dr_beWatched_31 (by decide) ?_
        refine kx_put S hw fp_Dr_18 0 rfl rfl rfl (Nat.le_of_ble_eq_true rfl) d_Dr_beWatched_32 (fun H locs hw => ?_)
        have hw : kx_w D (kx_T cI cZ cO) A_ s_ [(h, .inr (3, [.int d.1, .int d.2.1, .int d.2.2.1, .int 0, .int d.2.2.2.2.1, .int d.2.2.2.2.2]))] H locs := hw
        exact kx_ret_v I rfl hw (d.1, d.2.1, d.2.2.1, 0, d.2.2.2.2.1, d.2.2.2.2.2) (by simp only [f_Dr_beWatched, if_neg h1, if_neg h3, if_neg h4]) [0] (by decide) rfl d_Dr_beWatched_35
      · refine lv_aload_n hx hb d_Dr_beWatched_19 rfl (lv_at hl 0 rfl) ?_
        refine kx_call_v (wc := [(h, .inr (3, [.int d.1, .int d.2.1, .int d.2.2.1, .int d.2.2.2.1, .int d.2.2.2.2.1, .int d.2.2.2.2.2]))]) (wr := []) (rest := []) hw [0] [] rfl rfl (by decide) (by decide) (kx_runV S hw fc_Dr_28 rfl 0 rfl [0] (by decide) rfl (c_Dr_restart l D cI cZ cO h d H.size) rfl hl.1 rfl (Nat.le_of_ble_eq_true rfl) d_Dr_beWatched_20 (by decide) (by decide)) (fun u5 H locs hp5 hw => ?_)
        obtain ⟨d5, rfl⟩ : ∃ z, z = u5 := ⟨_, rfl⟩
        have hw : kx_w D (kx_T cI cZ cO) A_ s_ [(h, .inr (3, [.int d5.1, .int d5.2.1, .int d5.2.2.1, .int d5.2.2.2.1, .int d5.2.2.2.2.1, .int d5.2.2.2.2.2]))] H locs := hw
        refine lv_goto (tgt := 35) hx hb d_Dr_beWatched_23 (by decide) ?_
        exact kx_ret_v I rfl hw d5 (by simp only [f_Dr_beWatched, if_neg h1, if_neg h3, if_pos h4, ← hp5]) [0] (by decide) rfl d_Dr_beWatched_35
def f_Dr_beRefused (d : kt_Dr) : kt_Dr :=
  if d.2.2.2.2.1 = 3 then (match f_Dr_die (d.1, d.2.1, d.2.2.1, d.2.2.2.1, d.2.2.2.2.1, d.2.2.2.2.2 + 1) with
    | d2 => (d2.1, d2.2.1, d2.2.2.1, d2.2.2.2.1, 0, d2.2.2.2.2.2))
  else (d.1, d.2.1, d.2.2.1, d.2.2.2.1, 0, d.2.2.2.2.2 + 1)
set_option maxHeartbeats 4000000 in
set_option maxRecDepth 100000 in
theorem c_Dr_beRefused (l : Launch) (D : va_G) (cI cZ cO : ClassId) (h : Nat) (d : kt_Dr) : kx_Cv (S := kt_Dr) l y_Dr_beRefused b_Dr_beRefused 1 1 0 0 D (kx_T cI cZ cO) [.ref h] [(h, .inr (3, [.int d.1, .int d.2.1, .int d.2.2.1, .int d.2.2.2.1, .int d.2.2.2.2.1, .int d.2.2.2.2.2]))] (fun zz => zz = f_Dr_beRefused d) (fun zz => [(h, .inr (3, [.int zz.1, .int zz.2.1, .int zz.2.2.1, .int zz.2.2.2.1, .int zz.2.2.2.2.1, .int zz.2.2.2.2.2]))]) := by
  refine kx_enter_v (by decide) (Nat.le_of_ble_eq_true rfl) ?_
  intro p_ e_ s_ m_ below_ meth_ c_ ls A_ H I hl hw
  have S := I.1
  have hx := S.1
  have hb := S.2.1
  have hl : lv_has ls 1 [(0, .ref h)] := hl
  refine lv_aload_n hx hb d_Dr_beRefused_0 rfl (lv_at hl 0 rfl) ?_
  refine lv_dup hx hb d_Dr_beRefused_1 rfl ?_
  refine kx_get S hw fg_Dr_37 0 rfl rfl d_Dr_beRefused_2 ?_
  refine lv_iconst (v := 1) hx hb d_Dr_beRefused_5 (by decide) ?_
  refine lv_iadd hx hb d_Dr_beRefused_6 ?_
  refine kx_put S hw fp_Dr_37 0 rfl rfl rfl (Nat.le_of_ble_eq_true rfl) d_Dr_beRefused_7 (fun H locs hw => ?_)
  have hw : kx_w D (kx_T cI cZ cO) A_ s_ [(h, .inr (3, [.int d.1, .int d.2.1, .int d.2.2.1, .int d.2.2.2.1, .int d.2.2.2.2.1, .int (d.2.2.2.2.2 + 1)]))] H locs := hw
  refine lv_aload_n hx hb d_Dr_beRefused_10 rfl (lv_at hl 0 rfl) ?_
  refine kx_get S hw fg_Dr_22 0 rfl rfl d_Dr_beRefused_11 ?_
  refine lv_iconst (v := 3) hx hb d_Dr_beRefused_14 (by decide) ?_
  refine lv_icmp_ne (tgt := 22) hx hb d_Dr_beRefused_15 (by decide) (fun h1 => ?_) (fun h1 => ?_)
  · refine lv_aload_n hx hb d_Dr_beRefused_22 rfl (lv_at hl 0 rfl) ?_
    refine lv_iconst (v := 0) hx hb d_Dr_beRefused_23 (by decide) ?_
    refine kx_put S hw fp_Dr_22 0 rfl rfl rfl (Nat.le_of_ble_eq_true rfl) d_Dr_beRefused_24 (fun H locs hw => ?_)
    have hw : kx_w D (kx_T cI cZ cO) A_ s_ [(h, .inr (3, [.int d.1, .int d.2.1, .int d.2.2.1, .int d.2.2.2.1, .int 0, .int (d.2.2.2.2.2 + 1)]))] H locs := hw
    exact kx_ret_v I rfl hw (d.1, d.2.1, d.2.2.1, d.2.2.2.1, 0, d.2.2.2.2.2 + 1) (by simp only [f_Dr_beRefused, if_neg h1]) [0] (by decide) rfl d_Dr_beRefused_27
  · refine lv_aload_n hx hb d_Dr_beRefused_18 rfl (lv_at hl 0 rfl) ?_
    refine kx_call_v (wc := [(h, .inr (3, [.int d.1, .int d.2.1, .int d.2.2.1, .int d.2.2.2.1, .int d.2.2.2.2.1, .int (d.2.2.2.2.2 + 1)]))]) (wr := []) (rest := []) hw [0] [] rfl rfl (by decide) (by decide) (kx_runV S hw fc_Dr_25 rfl 0 rfl [0] (by decide) rfl (c_Dr_die l D cI cZ cO h (d.1, d.2.1, d.2.2.1, d.2.2.2.1, d.2.2.2.2.1, d.2.2.2.2.2 + 1) H.size) rfl hl.1 rfl (Nat.le_of_ble_eq_true rfl) d_Dr_beRefused_19 (by decide) (by decide)) (fun u2 H locs hp2 hw => ?_)
    obtain ⟨d2, rfl⟩ : ∃ z, z = u2 := ⟨_, rfl⟩
    have hw : kx_w D (kx_T cI cZ cO) A_ s_ [(h, .inr (3, [.int d2.1, .int d2.2.1, .int d2.2.2.1, .int d2.2.2.2.1, .int d2.2.2.2.2.1, .int d2.2.2.2.2.2]))] H locs := hw
    refine lv_aload_n hx hb d_Dr_beRefused_22 rfl (lv_at hl 0 rfl) ?_
    refine lv_iconst (v := 0) hx hb d_Dr_beRefused_23 (by decide) ?_
    refine kx_put S hw fp_Dr_22 0 rfl rfl rfl (Nat.le_of_ble_eq_true rfl) d_Dr_beRefused_24 (fun H locs hw => ?_)
    have hw : kx_w D (kx_T cI cZ cO) A_ s_ [(h, .inr (3, [.int d2.1, .int d2.2.1, .int d2.2.2.1, .int d2.2.2.2.1, .int 0, .int d2.2.2.2.2.2]))] H locs := hw
    exact kx_ret_v I rfl hw (d2.1, d2.2.1, d2.2.2.1, d2.2.2.2.1, 0, d2.2.2.2.2.2) (by simp only [f_Dr_beRefused, if_pos h1, ← hp2]) [0] (by decide) rfl d_Dr_beRefused_27
def f_Dr_takeStep (d : kt_Dr) : Int32 × kt_Dr :=
  if d.2.1 = 0 then (if d.2.2.2.2.1 = 0 then (if d.2.2.1 = 2 then (d.2.2.1, (d.1, d.2.1, (-1), 1, d.2.2.2.2.1, d.2.2.2.2.2))
      else if d.2.2.1 = (-1) then (d.2.2.1, (d.1, d.2.1, d.2.2.1, 1, d.2.2.2.2.1, d.2.2.2.2.2))
      else (d.2.2.1, (d.1, d.2.1, d.2.2.1 + 1, 1, d.2.2.2.2.1, d.2.2.2.2.2)))
    else match f_Dr_beRefused (d.1, d.2.1, d.2.2.1, 1, d.2.2.2.2.1, d.2.2.2.2.2) with
    | d5 => ((-1), d5))
  else ((-1), d)
set_option maxHeartbeats 4000000 in
set_option maxRecDepth 100000 in
theorem c_Dr_takeStep (l : Launch) (D : va_G) (cI cZ cO : ClassId) (h : Nat) (d : kt_Dr) : kx_Ci (S := kt_Dr) l y_Dr_takeStep b_Dr_takeStep 2 (some .int) 2 0 0 D (kx_T cI cZ cO) [.ref h] [(h, .inr (3, [.int d.1, .int d.2.1, .int d.2.2.1, .int d.2.2.2.1, .int d.2.2.2.2.1, .int d.2.2.2.2.2]))] (fun rr zz => (rr, zz) = f_Dr_takeStep d) (fun zz => [(h, .inr (3, [.int zz.1, .int zz.2.1, .int zz.2.2.1, .int zz.2.2.2.1, .int zz.2.2.2.2.1, .int zz.2.2.2.2.2]))]) := by
  refine kx_enter_i (by decide) (Nat.le_of_ble_eq_true rfl) ?_
  intro p_ e_ s_ m_ below_ meth_ c_ ls A_ H I hl hw
  have S := I.1
  have hx := S.1
  have hb := S.2.1
  have hl : lv_has ls 2 [(0, .ref h)] := hl
  refine lv_aload_n hx hb d_Dr_takeStep_0 rfl (lv_at hl 0 rfl) ?_
  refine kx_get S hw fg_Dr_11 0 rfl rfl d_Dr_takeStep_1 ?_
  refine lv_if_eq (tgt := 9) hx hb d_Dr_takeStep_4 (by decide) (fun h1 => ?_) (fun h1 => ?_)
  · refine lv_aload_n hx hb d_Dr_takeStep_9 rfl (lv_at hl 0 rfl) ?_
    refine lv_iconst (v := 1) hx hb d_Dr_takeStep_10 (by decide) ?_
    refine kx_put S hw fp_Dr_18 0 rfl rfl rfl (Nat.le_of_ble_eq_true rfl) d_Dr_takeStep_11 (fun H locs hw => ?_)
    have hw : kx_w D (kx_T cI cZ cO) A_ s_ [(h, .inr (3, [.int d.1, .int d.2.1, .int d.2.2.1, .int 1, .int d.2.2.2.2.1, .int d.2.2.2.2.2]))] H locs := hw
    refine lv_aload_n hx hb d_Dr_takeStep_14 rfl (lv_at hl 0 rfl) ?_
    refine kx_get S hw fg_Dr_22 0 rfl rfl d_Dr_takeStep_15 ?_
    refine lv_if_eq (tgt := 27) hx hb d_Dr_takeStep_18 (by decide) (fun h2 => ?_) (fun h2 => ?_)
    · refine lv_aload_n hx hb d_Dr_takeStep_27 rfl (lv_at hl 0 rfl) ?_
      refine kx_get S hw fg_Dr_15 0 rfl rfl d_Dr_takeStep_28 ?_
      refine lv_istore_n (lv' := [(1, .int d.2.2.1), (0, .ref h)]) hx hb d_Dr_takeStep_31 rfl hl (by decide) rfl (fun ls hl => ?_)
      refine lv_iload_n hx hb d_Dr_takeStep_32 rfl (lv_at hl 0 rfl) ?_
      refine lv_iconst (v := 2) hx hb d_Dr_takeStep_33 (by decide) ?_
      refine lv_icmp_ne (tgt := 45) hx hb d_Dr_takeStep_34 (by decide) (fun h3 => ?_) (fun h3 => ?_)
      · refine lv_iload_n hx hb d_Dr_takeStep_45 rfl (lv_at hl 0 rfl) ?_
        refine lv_iconst (v := (-1)) hx hb d_Dr_takeStep_46 (by decide) ?_
        refine lv_icmp_eq (tgt := 60) hx hb d_Dr_takeStep_47 (by decide) (fun h4 => ?_) (fun h4 => ?_)
        · refine lv_iload_n hx hb d_Dr_takeStep_60 rfl (lv_at hl 0 rfl) ?_
          exact kx_ret_i I rfl hw (d.1, d.2.1, d.2.2.1, 1, d.2.2.2.2.1, d.2.2.2.2.2) (by simp only [f_Dr_takeStep, if_pos h1, if_pos h2, if_neg h3, if_pos h4]) [0] (by decide) rfl d_Dr_takeStep_61
        · refine lv_aload_n hx hb d_Dr_takeStep_50 rfl (lv_at hl 1 rfl) ?_
          refine lv_dup hx hb d_Dr_takeStep_51 rfl ?_
          refine kx_get S hw fg_Dr_15 0 rfl rfl d_Dr_takeStep_52 ?_
          refine lv_iconst (v := 1) hx hb d_Dr_takeStep_55 (by decide) ?_
          refine lv_iadd hx hb d_Dr_takeStep_56 ?_
          refine kx_put S hw fp_Dr_15 0 rfl rfl rfl (Nat.le_of_ble_eq_true rfl) d_Dr_takeStep_57 (fun H locs hw => ?_)
          have hw : kx_w D (kx_T cI cZ cO) A_ s_ [(h, .inr (3, [.int d.1, .int d.2.1, .int (d.2.2.1 + 1), .int 1, .int d.2.2.2.2.1, .int d.2.2.2.2.2]))] H locs := hw
          refine lv_iload_n hx hb d_Dr_takeStep_60 rfl (lv_at hl 0 rfl) ?_
          exact kx_ret_i I rfl hw (d.1, d.2.1, d.2.2.1 + 1, 1, d.2.2.2.2.1, d.2.2.2.2.2) (by simp only [f_Dr_takeStep, if_pos h1, if_pos h2, if_neg h3, if_neg h4]) [0] (by decide) rfl d_Dr_takeStep_61
      · refine lv_aload_n hx hb d_Dr_takeStep_37 rfl (lv_at hl 1 rfl) ?_
        refine lv_iconst (v := (-1)) hx hb d_Dr_takeStep_38 (by decide) ?_
        refine kx_put S hw fp_Dr_15 0 rfl rfl rfl (Nat.le_of_ble_eq_true rfl) d_Dr_takeStep_39 (fun H locs hw => ?_)
        have hw : kx_w D (kx_T cI cZ cO) A_ s_ [(h, .inr (3, [.int d.1, .int d.2.1, .int (-1), .int 1, .int d.2.2.2.2.1, .int d.2.2.2.2.2]))] H locs := hw
        refine lv_goto (tgt := 60) hx hb d_Dr_takeStep_42 (by decide) ?_
        refine lv_iload_n hx hb d_Dr_takeStep_60 rfl (lv_at hl 0 rfl) ?_
        exact kx_ret_i I rfl hw (d.1, d.2.1, (-1), 1, d.2.2.2.2.1, d.2.2.2.2.2) (by simp only [f_Dr_takeStep, if_pos h1, if_pos h2, if_pos h3]) [0] (by decide) rfl d_Dr_takeStep_61
    · refine lv_aload_n hx hb d_Dr_takeStep_21 rfl (lv_at hl 0 rfl) ?_
      refine kx_call_v (wc := [(h, .inr (3, [.int d.1, .int d.2.1, .int d.2.2.1, .int 1, .int d.2.2.2.2.1, .int d.2.2.2.2.2]))]) (wr := []) (rest := []) hw [0] [] rfl rfl (by decide) (by decide) (kx_runV S hw fc_Dr_34 rfl 0 rfl [0] (by decide) rfl (c_Dr_beRefused l D cI cZ cO h (d.1, d.2.1, d.2.2.1, 1, d.2.2.2.2.1, d.2.2.2.2.2) H.size) rfl hl.1 rfl (Nat.le_of_ble_eq_true rfl) d_Dr_takeStep_22 (by decide) (by decide)) (fun u5 H locs hp5 hw => ?_)
      obtain ⟨d5, rfl⟩ : ∃ z, z = u5 := ⟨_, rfl⟩
      have hw : kx_w D (kx_T cI cZ cO) A_ s_ [(h, .inr (3, [.int d5.1, .int d5.2.1, .int d5.2.2.1, .int d5.2.2.2.1, .int d5.2.2.2.2.1, .int d5.2.2.2.2.2]))] H locs := hw
      refine lv_iconst (v := (-1)) hx hb d_Dr_takeStep_25 (by decide) ?_
      exact kx_ret_i I rfl hw d5 (by simp only [f_Dr_takeStep, if_pos h1, if_neg h2, ← hp5]) [0] (by decide) rfl d_Dr_takeStep_26
  · refine lv_iconst (v := (-1)) hx hb d_Dr_takeStep_7 (by decide) ?_
    exact kx_ret_i I rfl hw d (by simp only [f_Dr_takeStep, if_neg h1]) [0] (by decide) rfl d_Dr_takeStep_8
def f_Rq_isOpen (q : kt_Rq) : Int32 :=
  if q.1 = 0 then 0
  else 1
set_option maxHeartbeats 4000000 in
set_option maxRecDepth 100000 in
theorem c_Rq_isOpen (l : Launch) (D : va_G) (cI cZ cO : ClassId) (h : Nat) (q : kt_Rq) : kx_Ci (S := Unit) l y_Rq_isOpen b_Rq_isOpen 1 (some .boolean) 0 0 0 D (kx_T cI cZ cO) [.ref h] [(h, .inr (4, [.int q.1, .int q.2.1, .int q.2.2.1, .int q.2.2.2.1, .int q.2.2.2.2.1, .int q.2.2.2.2.2.1, .int q.2.2.2.2.2.2]))] (fun rr _ => rr = f_Rq_isOpen q ∧ kx_b rr) (fun _ => [(h, .inr (4, [.int q.1, .int q.2.1, .int q.2.2.1, .int q.2.2.2.1, .int q.2.2.2.2.1, .int q.2.2.2.2.2.1, .int q.2.2.2.2.2.2]))]) := by
  refine kx_enter_i (by decide) (Nat.le_of_ble_eq_true rfl) ?_
  intro p_ e_ s_ m_ below_ meth_ c_ ls A_ H I hl hw
  have S := I.1
  have hx := S.1
  have hb := S.2.1
  have hl : lv_has ls 1 [(0, .ref h)] := hl
  refine lv_aload_n hx hb d_Rq_isOpen_0 rfl (lv_at hl 0 rfl) ?_
  refine kx_get S hw fg_Rq_9 0 rfl rfl d_Rq_isOpen_1 ?_
  refine lv_if_eq (tgt := 11) hx hb d_Rq_isOpen_4 (by decide) (fun h1 => ?_) (fun h1 => ?_)
  · refine lv_iconst (v := 0) hx hb d_Rq_isOpen_11 (by decide) ?_
    exact kx_ret_z I rfl hw (Or.inl rfl) () ⟨(by simp only [f_Rq_isOpen, if_pos h1]), (Or.inl rfl)⟩ [0] (by decide) rfl d_Rq_isOpen_12
  · refine lv_iconst (v := 1) hx hb d_Rq_isOpen_7 (by decide) ?_
    refine lv_goto (tgt := 12) hx hb d_Rq_isOpen_8 (by decide) ?_
    exact kx_ret_z I rfl hw (Or.inr rfl) () ⟨(by simp only [f_Rq_isOpen, if_neg h1]), (Or.inr rfl)⟩ [0] (by decide) rfl d_Rq_isOpen_12
def f_Rq_open (q : kt_Rq) (k : Int32) : kt_Rq :=
  (k, q.2.1, q.2.2.1, q.2.2.2.1, 0, 0, q.2.2.2.2.2.2)
set_option maxHeartbeats 4000000 in
set_option maxRecDepth 100000 in
theorem c_Rq_open (l : Launch) (D : va_G) (cI cZ cO : ClassId) (h : Nat) (q : kt_Rq) (k : Int32) : kx_Cv (S := kt_Rq) l y_Rq_open b_Rq_open 2 0 0 0 D (kx_T cI cZ cO) [.ref h, .int k] [(h, .inr (4, [.int q.1, .int q.2.1, .int q.2.2.1, .int q.2.2.2.1, .int q.2.2.2.2.1, .int q.2.2.2.2.2.1, .int q.2.2.2.2.2.2]))] (fun zz => zz = f_Rq_open q k) (fun zz => [(h, .inr (4, [.int zz.1, .int zz.2.1, .int zz.2.2.1, .int zz.2.2.2.1, .int zz.2.2.2.2.1, .int zz.2.2.2.2.2.1, .int zz.2.2.2.2.2.2]))]) := by
  refine kx_enter_v (by decide) (Nat.le_of_ble_eq_true rfl) ?_
  intro p_ e_ s_ m_ below_ meth_ c_ ls A_ H I hl hw
  have S := I.1
  have hx := S.1
  have hb := S.2.1
  have hl : lv_has ls 2 [(0, .ref h), (1, .int k)] := hl
  refine lv_aload_n hx hb d_Rq_open_0 rfl (lv_at hl 0 rfl) ?_
  refine lv_iload_n hx hb d_Rq_open_1 rfl (lv_at hl 1 rfl) ?_
  refine kx_put S hw fp_Rq_9 0 rfl rfl rfl (Nat.le_of_ble_eq_true rfl) d_Rq_open_2 (fun H locs hw => ?_)
  have hw : kx_w D (kx_T cI cZ cO) A_ s_ [(h, .inr (4, [.int k, .int q.2.1, .int q.2.2.1, .int q.2.2.2.1, .int q.2.2.2.2.1, .int q.2.2.2.2.2.1, .int q.2.2.2.2.2.2]))] H locs := hw
  refine lv_aload_n hx hb d_Rq_open_5 rfl (lv_at hl 0 rfl) ?_
  refine lv_iconst (v := 0) hx hb d_Rq_open_6 (by decide) ?_
  refine kx_put S hw fp_Rq_13 0 rfl rfl rfl (Nat.le_of_ble_eq_true rfl) d_Rq_open_7 (fun H locs hw => ?_)
  have hw : kx_w D (kx_T cI cZ cO) A_ s_ [(h, .inr (4, [.int k, .int q.2.1, .int q.2.2.1, .int q.2.2.2.1, .int 0, .int q.2.2.2.2.2.1, .int q.2.2.2.2.2.2]))] H locs := hw
  refine lv_aload_n hx hb d_Rq_open_10 rfl (lv_at hl 0 rfl) ?_
  refine lv_iconst (v := 0) hx hb d_Rq_open_11 (by decide) ?_
  refine kx_put S hw fp_Rq_17 0 rfl rfl rfl (Nat.le_of_ble_eq_true rfl) d_Rq_open_12 (fun H locs hw => ?_)
  have hw : kx_w D (kx_T cI cZ cO) A_ s_ [(h, .inr (4, [.int k, .int q.2.1, .int q.2.2.1, .int q.2.2.2.1, .int 0, .int 0, .int q.2.2.2.2.2.2]))] H locs := hw
  exact kx_ret_v I rfl hw (k, q.2.1, q.2.2.1, q.2.2.2.1, 0, 0, q.2.2.2.2.2.2) (by simp only [f_Rq_open]) [0] (by decide) rfl d_Rq_open_15
def f_Rq_close (q : kt_Rq) : kt_Rq :=
  (0, q.2.1, q.2.2.1, q.2.2.2.1, q.2.2.2.2.1, q.2.2.2.2.2.1, q.2.2.2.2.2.2)
set_option maxHeartbeats 4000000 in
set_option maxRecDepth 100000 in
theorem c_Rq_close (l : Launch) (D : va_G) (cI cZ cO : ClassId) (h : Nat) (q : kt_Rq) : kx_Cv (S := kt_Rq) l y_Rq_close b_Rq_close 1 0 0 0 D (kx_T cI cZ cO) [.ref h] [(h, .inr (4, [.int q.1, .int q.2.1, .int q.2.2.1, .int q.2.2.2.1, .int q.2.2.2.2.1, .int q.2.2.2.2.2.1, .int q.2.2.2.2.2.2]))] (fun zz => zz = f_Rq_close q) (fun zz => [(h, .inr (4, [.int zz.1, .int zz.2.1, .int zz.2.2.1, .int zz.2.2.2.1, .int zz.2.2.2.2.1, .int zz.2.2.2.2.2.1, .int zz.2.2.2.2.2.2]))]) := by
  refine kx_enter_v (by decide) (Nat.le_of_ble_eq_true rfl) ?_
  intro p_ e_ s_ m_ below_ meth_ c_ ls A_ H I hl hw
  have S := I.1
  have hx := S.1
  have hb := S.2.1
  have hl : lv_has ls 1 [(0, .ref h)] := hl
  refine lv_aload_n hx hb d_Rq_close_0 rfl (lv_at hl 0 rfl) ?_
  refine lv_iconst (v := 0) hx hb d_Rq_close_1 (by decide) ?_
  refine kx_put S hw fp_Rq_9 0 rfl rfl rfl (Nat.le_of_ble_eq_true rfl) d_Rq_close_2 (fun H locs hw => ?_)
  have hw : kx_w D (kx_T cI cZ cO) A_ s_ [(h, .inr (4, [.int 0, .int q.2.1, .int q.2.2.1, .int q.2.2.2.1, .int q.2.2.2.2.1, .int q.2.2.2.2.2.1, .int q.2.2.2.2.2.2]))] H locs := hw
  exact kx_ret_v I rfl hw (0, q.2.1, q.2.2.1, q.2.2.2.1, q.2.2.2.2.1, q.2.2.2.2.2.1, q.2.2.2.2.2.2) (by simp only [f_Rq_close]) [0] (by decide) rfl d_Rq_close_5
def f_Rq_wasGivenElsewhere (q : kt_Rq) (d : kt_Dr) : Int32 :=
  if q.2.2.2.2.1 = 0 then 0
  else if q.2.2.2.2.2.2 = d.1 then 0
  else 1
set_option maxHeartbeats 4000000 in
set_option maxRecDepth 100000 in
theorem c_Rq_wasGivenElsewhere (l : Launch) (D : va_G) (cI cZ cO : ClassId) (h : Nat) (g : Nat) (q : kt_Rq) (d : kt_Dr) : kx_Ci (S := Unit) l y_Rq_wasGivenElsewhere b_Rq_wasGivenElsewhere 2 (some .boolean) 0 0 0 D (kx_T cI cZ cO) [.ref h, .ref g] [(h, .inr (4, [.int q.1, .int q.2.1, .int q.2.2.1, .int q.2.2.2.1, .int q.2.2.2.2.1, .int q.2.2.2.2.2.1, .int q.2.2.2.2.2.2])), (g, .inr (3, [.int d.1, .int d.2.1, .int d.2.2.1, .int d.2.2.2.1, .int d.2.2.2.2.1, .int d.2.2.2.2.2]))] (fun rr _ => rr = f_Rq_wasGivenElsewhere q d ∧ kx_b rr) (fun _ => [(h, .inr (4, [.int q.1, .int q.2.1, .int q.2.2.1, .int q.2.2.2.1, .int q.2.2.2.2.1, .int q.2.2.2.2.2.1, .int q.2.2.2.2.2.2])), (g, .inr (3, [.int d.1, .int d.2.1, .int d.2.2.1, .int d.2.2.2.1, .int d.2.2.2.2.1, .int d.2.2.2.2.2]))]) := by
  refine kx_enter_i (by decide) (Nat.le_of_ble_eq_true rfl) ?_
  intro p_ e_ s_ m_ below_ meth_ c_ ls A_ H I hl hw
  have S := I.1
  have hx := S.1
  have hb := S.2.1
  have hl : lv_has ls 2 [(0, .ref h), (1, .ref g)] := hl
  refine lv_aload_n hx hb d_Rq_wasGivenElsewhere_0 rfl (lv_at hl 0 rfl) ?_
  refine kx_get S hw fg_Rq_13 0 rfl rfl d_Rq_wasGivenElsewhere_1 ?_
  refine lv_if_eq (tgt := 22) hx hb d_Rq_wasGivenElsewhere_4 (by decide) (fun h1 => ?_) (fun h1 => ?_)
  · refine lv_iconst (v := 0) hx hb d_Rq_wasGivenElsewhere_22 (by decide) ?_
    exact kx_ret_z I rfl hw (Or.inl rfl) () ⟨(by simp only [f_Rq_wasGivenElsewhere, if_pos h1]), (Or.inl rfl)⟩ [0, 1] (by decide) rfl d_Rq_wasGivenElsewhere_23
  · refine lv_aload_n hx hb d_Rq_wasGivenElsewhere_7 rfl (lv_at hl 0 rfl) ?_
    refine kx_get S hw fg_Rq_20 0 rfl rfl d_Rq_wasGivenElsewhere_8 ?_
    refine lv_aload_n hx hb d_Rq_wasGivenElsewhere_11 rfl (lv_at hl 1 rfl) ?_
    refine kx_get S hw fg_Rq_23 1 rfl rfl d_Rq_wasGivenElsewhere_12 ?_
    refine lv_icmp_eq (tgt := 22) hx hb d_Rq_wasGivenElsewhere_15 (by decide) (fun h2 => ?_) (fun h2 => ?_)
    · refine lv_iconst (v := 0) hx hb d_Rq_wasGivenElsewhere_22 (by decide) ?_
      exact kx_ret_z I rfl hw (Or.inl rfl) () ⟨(by simp only [f_Rq_wasGivenElsewhere, if_neg h1, if_pos h2]), (Or.inl rfl)⟩ [0, 1] (by decide) rfl d_Rq_wasGivenElsewhere_23
    · refine lv_iconst (v := 1) hx hb d_Rq_wasGivenElsewhere_18 (by decide) ?_
      refine lv_goto (tgt := 23) hx hb d_Rq_wasGivenElsewhere_19 (by decide) ?_
      exact kx_ret_z I rfl hw (Or.inr rfl) () ⟨(by simp only [f_Rq_wasGivenElsewhere, if_neg h1, if_neg h2]), (Or.inr rfl)⟩ [0, 1] (by decide) rfl d_Rq_wasGivenElsewhere_23
def f_Rq_giveTo (q : kt_Rq) (d : kt_Dr) : kt_Rq × kt_Dr :=
  if d.2.1 = 2 then ((q.1, q.2.1, q.2.2.1, q.2.2.2.1, 0, q.2.2.2.2.2.1, q.2.2.2.2.2.2), d)
  else ((q.1, q.2.1, q.2.2.1, q.2.2.2.1, 1, 0, d.1), (d.1, d.2.1, 0, d.2.2.2.1, d.2.2.2.2.1, d.2.2.2.2.2))
set_option maxHeartbeats 4000000 in
set_option maxRecDepth 100000 in
theorem c_Rq_giveTo (l : Launch) (D : va_G) (cI cZ cO : ClassId) (h : Nat) (g : Nat) (q : kt_Rq) (d : kt_Dr) : kx_Cv (S := kt_Rq × kt_Dr) l y_Rq_giveTo b_Rq_giveTo 2 0 0 0 D (kx_T cI cZ cO) [.ref h, .ref g] [(h, .inr (4, [.int q.1, .int q.2.1, .int q.2.2.1, .int q.2.2.2.1, .int q.2.2.2.2.1, .int q.2.2.2.2.2.1, .int q.2.2.2.2.2.2])), (g, .inr (3, [.int d.1, .int d.2.1, .int d.2.2.1, .int d.2.2.2.1, .int d.2.2.2.2.1, .int d.2.2.2.2.2]))] (fun zz => zz = f_Rq_giveTo q d) (fun zz => [(h, .inr (4, [.int zz.1.1, .int zz.1.2.1, .int zz.1.2.2.1, .int zz.1.2.2.2.1, .int zz.1.2.2.2.2.1, .int zz.1.2.2.2.2.2.1, .int zz.1.2.2.2.2.2.2])), (g, .inr (3, [.int zz.2.1, .int zz.2.2.1, .int zz.2.2.2.1, .int zz.2.2.2.2.1, .int zz.2.2.2.2.2.1, .int zz.2.2.2.2.2.2]))]) := by
  refine kx_enter_v (by decide) (Nat.le_of_ble_eq_true rfl) ?_
  intro p_ e_ s_ m_ below_ meth_ c_ ls A_ H I hl hw
  have S := I.1
  have hx := S.1
  have hb := S.2.1
  have hl : lv_has ls 2 [(0, .ref h), (1, .ref g)] := hl
  refine lv_aload_n hx hb d_Rq_giveTo_0 rfl (lv_at hl 1 rfl) ?_
  refine kx_get S hw fg_Rq_28 1 rfl rfl d_Rq_giveTo_1 ?_
  refine lv_iconst (v := 2) hx hb d_Rq_giveTo_4 (by decide) ?_
  refine lv_icmp_ne (tgt := 14) hx hb d_Rq_giveTo_5 (by decide) (fun h1 => ?_) (fun h1 => ?_)
  · refine lv_aload_n hx hb d_Rq_giveTo_14 rfl (lv_at hl 1 rfl) ?_
    refine lv_iconst (v := 0) hx hb d_Rq_giveTo_15 (by decide) ?_
    refine kx_put S hw fp_Rq_31 1 rfl rfl rfl (Nat.le_of_ble_eq_true rfl) d_Rq_giveTo_16 (fun H locs hw => ?_)
    have hw : kx_w D (kx_T cI cZ cO) A_ s_ [(h, .inr (4, [.int q.1, .int q.2.1, .int q.2.2.1, .int q.2.2.2.1, .int q.2.2.2.2.1, .int q.2.2.2.2.2.1, .int q.2.2.2.2.2.2])), (g, .inr (3, [.int d.1, .int d.2.1, .int 0, .int d.2.2.2.1, .int d.2.2.2.2.1, .int d.2.2.2.2.2]))] H locs := hw
    refine lv_aload_n hx hb d_Rq_giveTo_19 rfl (lv_at hl 0 rfl) ?_
    refine lv_iconst (v := 1) hx hb d_Rq_giveTo_20 (by decide) ?_
    refine kx_put S hw fp_Rq_13 0 rfl rfl rfl (Nat.le_of_ble_eq_true rfl) d_Rq_giveTo_21 (fun H locs hw => ?_)
    have hw : kx_w D (kx_T cI cZ cO) A_ s_ [(h, .inr (4, [.int q.1, .int q.2.1, .int q.2.2.1, .int q.2.2.2.1, .int 1, .int q.2.2.2.2.2.1, .int q.2.2.2.2.2.2])), (g, .inr (3, [.int d.1, .int d.2.1, .int 0, .int d.2.2.2.1, .int d.2.2.2.2.1, .int d.2.2.2.2.2]))] H locs := hw
    refine lv_aload_n hx hb d_Rq_giveTo_24 rfl (lv_at hl 0 rfl) ?_
    refine lv_iconst (v := 0) hx hb d_Rq_giveTo_25 (by decide) ?_
    refine kx_put S hw fp_Rq_17 0 rfl rfl rfl (Nat.le_of_ble_eq_true rfl) d_Rq_giveTo_26 (fun H locs hw => ?_)
    have hw : kx_w D (kx_T cI cZ cO) A_ s_ [(h, .inr (4, [.int q.1, .int q.2.1, .int q.2.2.1, .int q.2.2.2.1, .int 1, .int 0, .int q.2.2.2.2.2.2])), (g, .inr (3, [.int d.1, .int d.2.1, .int 0, .int d.2.2.2.1, .int d.2.2.2.2.1, .int d.2.2.2.2.2]))] H locs := hw
    refine lv_aload_n hx hb d_Rq_giveTo_29 rfl (lv_at hl 0 rfl) ?_
    refine lv_aload_n hx hb d_Rq_giveTo_30 rfl (lv_at hl 1 rfl) ?_
    refine kx_get S hw fg_Rq_23 1 rfl rfl d_Rq_giveTo_31 ?_
    refine kx_put S hw fp_Rq_20 0 rfl rfl rfl (Nat.le_of_ble_eq_true rfl) d_Rq_giveTo_34 (fun H locs hw => ?_)
    have hw : kx_w D (kx_T cI cZ cO) A_ s_ [(h, .inr (4, [.int q.1, .int q.2.1, .int q.2.2.1, .int q.2.2.2.1, .int 1, .int 0, .int d.1])), (g, .inr (3, [.int d.1, .int d.2.1, .int 0, .int d.2.2.2.1, .int d.2.2.2.2.1, .int d.2.2.2.2.2]))] H locs := hw
    exact kx_ret_v I rfl hw ((q.1, q.2.1, q.2.2.1, q.2.2.2.1, 1, 0, d.1), (d.1, d.2.1, 0, d.2.2.2.1, d.2.2.2.2.1, d.2.2.2.2.2)) (by simp only [f_Rq_giveTo, if_neg h1]) [0, 1] (by decide) rfl d_Rq_giveTo_37
  · refine lv_aload_n hx hb d_Rq_giveTo_8 rfl (lv_at hl 0 rfl) ?_
    refine lv_iconst (v := 0) hx hb d_Rq_giveTo_9 (by decide) ?_
    refine kx_put S hw fp_Rq_13 0 rfl rfl rfl (Nat.le_of_ble_eq_true rfl) d_Rq_giveTo_10 (fun H locs hw => ?_)
    have hw : kx_w D (kx_T cI cZ cO) A_ s_ [(h, .inr (4, [.int q.1, .int q.2.1, .int q.2.2.1, .int q.2.2.2.1, .int 0, .int q.2.2.2.2.2.1, .int q.2.2.2.2.2.2])), (g, .inr (3, [.int d.1, .int d.2.1, .int d.2.2.1, .int d.2.2.2.1, .int d.2.2.2.2.1, .int d.2.2.2.2.2]))] H locs := hw
    exact kx_ret_v I rfl hw ((q.1, q.2.1, q.2.2.1, q.2.2.2.1, 0, q.2.2.2.2.2.1, q.2.2.2.2.2.2), d) (by simp only [f_Rq_giveTo, if_pos h1]) [0, 1] (by decide) rfl d_Rq_giveTo_13
def f_Rq_progress (q : kt_Rq) : Int32 :=
  match f_Rq_isOpen q with
  | r1 => if r1 = 0 then 0
    else if q.2.2.2.2.1 = 0 then 1
    else 2
set_option maxHeartbeats 4000000 in
set_option maxRecDepth 100000 in
theorem c_Rq_progress (l : Launch) (D : va_G) (cI cZ cO : ClassId) (h : Nat) (q : kt_Rq) : kx_Ci (S := Unit) l y_Rq_progress b_Rq_progress 1 (some .int) 1 0 0 D (kx_T cI cZ cO) [.ref h] [(h, .inr (4, [.int q.1, .int q.2.1, .int q.2.2.1, .int q.2.2.2.1, .int q.2.2.2.2.1, .int q.2.2.2.2.2.1, .int q.2.2.2.2.2.2]))] (fun rr _ => rr = f_Rq_progress q) (fun _ => [(h, .inr (4, [.int q.1, .int q.2.1, .int q.2.2.1, .int q.2.2.2.1, .int q.2.2.2.2.1, .int q.2.2.2.2.2.1, .int q.2.2.2.2.2.2]))]) := by
  refine kx_enter_i (by decide) (Nat.le_of_ble_eq_true rfl) ?_
  intro p_ e_ s_ m_ below_ meth_ c_ ls A_ H I hl hw
  have S := I.1
  have hx := S.1
  have hb := S.2.1
  have hl : lv_has ls 1 [(0, .ref h)] := hl
  refine lv_aload_n hx hb d_Rq_progress_0 rfl (lv_at hl 0 rfl) ?_
  refine kx_call_i (wc := [(h, .inr (4, [.int q.1, .int q.2.1, .int q.2.2.1, .int q.2.2.2.1, .int q.2.2.2.2.1, .int q.2.2.2.2.2.1, .int q.2.2.2.2.2.2]))]) (wr := []) (rest := []) hw [0] [] rfl rfl (by decide) (by decide) (kx_runV S hw fc_Rq_34 rfl 0 rfl [0] (by decide) rfl (c_Rq_isOpen l D cI cZ cO h q H.size) rfl hl.1 rfl (Nat.le_of_ble_eq_true rfl) d_Rq_progress_1 (by decide) (by decide)) (fun r1 u1 H locs hp1 hw => ?_)
  obtain ⟨hp1, hb1⟩ := hp1
  have hw : kx_w D (kx_T cI cZ cO) A_ s_ [(h, .inr (4, [.int q.1, .int q.2.1, .int q.2.2.1, .int q.2.2.2.1, .int q.2.2.2.2.1, .int q.2.2.2.2.2.1, .int q.2.2.2.2.2.2]))] H locs := hw
  refine lv_if_ne (tgt := 9) hx hb d_Rq_progress_4 (by decide) (fun h2 => ?_) (fun h2 => ?_)
  · refine lv_aload_n hx hb d_Rq_progress_9 rfl (lv_at hl 0 rfl) ?_
    refine kx_get S hw fg_Rq_13 0 rfl rfl d_Rq_progress_10 ?_
    refine lv_if_eq (tgt := 20) hx hb d_Rq_progress_13 (by decide) (fun h3 => ?_) (fun h3 => ?_)
    · refine lv_iconst (v := 1) hx hb d_Rq_progress_20 (by decide) ?_
      exact kx_ret_i I rfl hw () (by simp only [f_Rq_progress, ← hp1, if_neg h2, if_pos h3]) [0] (by decide) rfl d_Rq_progress_21
    · refine lv_iconst (v := 2) hx hb d_Rq_progress_16 (by decide) ?_
      refine lv_goto (tgt := 21) hx hb d_Rq_progress_17 (by decide) ?_
      exact kx_ret_i I rfl hw () (by simp only [f_Rq_progress, ← hp1, if_neg h2, if_neg h3]) [0] (by decide) rfl d_Rq_progress_21
  · refine lv_iconst (v := 0) hx hb d_Rq_progress_7 (by decide) ?_
    exact kx_ret_i I rfl hw () (by simp only [f_Rq_progress, ← hp1, if_pos h2]) [0] (by decide) rfl d_Rq_progress_8
def f_Ca_find (c : kt_Ca) (b : Int32) : Int32 :=
  if (c.1 0) = b then 0
  else if (c.1 1) = b then 1
  else if (c.1 2) = b then 2
  else (-1)
set_option maxHeartbeats 4000000 in
set_option maxRecDepth 100000 in
theorem c_Ca_find (l : Launch) (D : va_G) (cI cZ cO : ClassId) (h : Nat) (a0 : Nat) (a1 : Nat) (a2 : Nat) (a3 : Nat) (c : kt_Ca) (b : Int32) : kx_Ci (S := Unit) l y_Ca_find b_Ca_find 3 (some .int) 0 0 0 D (kx_T cI cZ cO) [.ref h, .int b] [(h, .inr (5, [.ref a0, .ref a1, .ref a2, .ref a3])), (a0, .inl (cI, 3, .inl c.1)), (a1, .inl (cI, 3, .inl c.2.1)), (a2, .inl (cZ, 3, .inl c.2.2.1)), (a3, .inl (cI, 3, .inl c.2.2.2))] (fun rr _ => rr = f_Ca_find c b) (fun _ => [(h, .inr (5, [.ref a0, .ref a1, .ref a2, .ref a3])), (a0, .inl (cI, 3, .inl c.1)), (a1, .inl (cI, 3, .inl c.2.1)), (a2, .inl (cZ, 3, .inl c.2.2.1)), (a3, .inl (cI, 3, .inl c.2.2.2))]) := by
  refine kx_enter_i (by decide) (Nat.le_of_ble_eq_true rfl) ?_
  intro p_ e_ s_ m_ below_ meth_ c_ ls A_ H I hl hw
  have S := I.1
  have hx := S.1
  have hb := S.2.1
  have hl : lv_has ls 3 [(0, .ref h), (1, .int b)] := hl
  refine lv_iconst (v := 0) hx hb d_Ca_find_0 (by decide) ?_
  refine lv_istore_n (lv' := [(2, .int 0), (0, .ref h), (1, .int b)]) hx hb d_Ca_find_1 rfl hl (by decide) rfl (fun ls hl => ?_)
  refine lv_iload_n hx hb d_Ca_find_2 rfl (lv_at hl 0 rfl) ?_
  refine lv_iconst (v := 3) hx hb d_Ca_find_3 (by decide) ?_
  refine lv_icmp_ge (tgt := 25) hx hb d_Ca_find_4 (by decide) (fun h => absurd h (by decide)) (fun _ => ?_)
  refine lv_aload_n hx hb d_Ca_find_7 rfl (lv_at hl 1 rfl) ?_
  refine kx_get S hw fg_Ca_9 0 rfl rfl d_Ca_find_8 ?_
  refine lv_iload_n hx hb d_Ca_find_11 rfl (lv_at hl 0 rfl) ?_
  refine kx_iald S hw 1 0 rfl rfl (j := 0) (by decide) (by unfold vp_in; decide) d_Ca_find_12 ?_
  refine lv_iload_n hx hb d_Ca_find_13 rfl (lv_at hl 2 rfl) ?_
  refine lv_icmp_ne (tgt := 19) hx hb d_Ca_find_14 (by decide) (fun h1 => ?_) (fun h1 => ?_)
  · refine lv_iinc (v := 1) (k := 0) (lv' := [(2, .int 1), (0, .ref h), (1, .int b)]) hx hb d_Ca_find_19 hl rfl (by decide) (by decide) rfl (fun ls hl => ?_)
    refine lv_goto (tgt := 2) hx hb d_Ca_find_22 (by decide) ?_
    refine lv_iload_n hx hb d_Ca_find_2 rfl (lv_at hl 0 rfl) ?_
    refine lv_iconst (v := 3) hx hb d_Ca_find_3 (by decide) ?_
    refine lv_icmp_ge (tgt := 25) hx hb d_Ca_find_4 (by decide) (fun h => absurd h (by decide)) (fun _ => ?_)
    refine lv_aload_n hx hb d_Ca_find_7 rfl (lv_at hl 1 rfl) ?_
    refine kx_get S hw fg_Ca_9 0 rfl rfl d_Ca_find_8 ?_
    refine lv_iload_n hx hb d_Ca_find_11 rfl (lv_at hl 0 rfl) ?_
    refine kx_iald S hw 1 0 rfl rfl (j := 1) (by decide) (by unfold vp_in; decide) d_Ca_find_12 ?_
    refine lv_iload_n hx hb d_Ca_find_13 rfl (lv_at hl 2 rfl) ?_
    refine lv_icmp_ne (tgt := 19) hx hb d_Ca_find_14 (by decide) (fun h2 => ?_) (fun h2 => ?_)
    · refine lv_iinc (v := 2) (k := 0) (lv' := [(2, .int 2), (0, .ref h), (1, .int b)]) hx hb d_Ca_find_19 hl rfl (by decide) (by decide) rfl (fun ls hl => ?_)
      refine lv_goto (tgt := 2) hx hb d_Ca_find_22 (by decide) ?_
      refine lv_iload_n hx hb d_Ca_find_2 rfl (lv_at hl 0 rfl) ?_
      refine lv_iconst (v := 3) hx hb d_Ca_find_3 (by decide) ?_
      refine lv_icmp_ge (tgt := 25) hx hb d_Ca_find_4 (by decide) (fun h => absurd h (by decide)) (fun _ => ?_)
      refine lv_aload_n hx hb d_Ca_find_7 rfl (lv_at hl 1 rfl) ?_
      refine kx_get S hw fg_Ca_9 0 rfl rfl d_Ca_find_8 ?_
      refine lv_iload_n hx hb d_Ca_find_11 rfl (lv_at hl 0 rfl) ?_
      refine kx_iald S hw 1 0 rfl rfl (j := 2) (by decide) (by unfold vp_in; decide) d_Ca_find_12 ?_
      refine lv_iload_n hx hb d_Ca_find_13 rfl (lv_at hl 2 rfl) ?_
      refine lv_icmp_ne (tgt := 19) hx hb d_Ca_find_14 (by decide) (fun h3 => ?_) (fun h3 => ?_)
      · refine lv_iinc (v := 3) (k := 0) (lv' := [(2, .int 3), (0, .ref h), (1, .int b)]) hx hb d_Ca_find_19 hl rfl (by decide) (by decide) rfl (fun ls hl => ?_)
        refine lv_goto (tgt := 2) hx hb d_Ca_find_22 (by decide) ?_
        refine lv_iload_n hx hb d_Ca_find_2 rfl (lv_at hl 0 rfl) ?_
        refine lv_iconst (v := 3) hx hb d_Ca_find_3 (by decide) ?_
        refine lv_icmp_ge (tgt := 25) hx hb d_Ca_find_4 (by decide) (fun _ => ?_) (fun h => absurd h (by decide))
        refine lv_iconst (v := (-1)) hx hb d_Ca_find_25 (by decide) ?_
        exact kx_ret_i I rfl hw () (by simp only [f_Ca_find, if_neg h1, if_neg h2, if_neg h3]) [0, 1, 2, 3, 4] (by decide) rfl d_Ca_find_26
      · refine lv_iload_n hx hb d_Ca_find_17 rfl (lv_at hl 0 rfl) ?_
        exact kx_ret_i I rfl hw () (by simp only [f_Ca_find, if_neg h1, if_neg h2, if_pos h3]) [0, 1, 2, 3, 4] (by decide) rfl d_Ca_find_18
    · refine lv_iload_n hx hb d_Ca_find_17 rfl (lv_at hl 0 rfl) ?_
      exact kx_ret_i I rfl hw () (by simp only [f_Ca_find, if_neg h1, if_pos h2]) [0, 1, 2, 3, 4] (by decide) rfl d_Ca_find_18
  · refine lv_iload_n hx hb d_Ca_find_17 rfl (lv_at hl 0 rfl) ?_
    exact kx_ret_i I rfl hw () (by simp only [f_Ca_find, if_pos h1]) [0, 1, 2, 3, 4] (by decide) rfl d_Ca_find_18
def f_Ca_slotToFill (c : kt_Ca) : Int32 :=
  match f_Ca_find c (-1) with
  | r1 => if r1 = (-1) then (if (c.2.2.2 0) ≤ (c.2.2.2 1) then (if (c.2.2.2 0) ≤ (c.2.2.2 2) then 0
        else 2)
      else if (c.2.2.2 1) ≤ (c.2.2.2 2) then 1
      else 2)
    else r1
set_option maxHeartbeats 4000000 in
set_option maxRecDepth 100000 in
theorem c_Ca_slotToFill (l : Launch) (D : va_G) (cI cZ cO : ClassId) (h : Nat) (a0 : Nat) (a1 : Nat) (a2 : Nat) (a3 : Nat) (c : kt_Ca) : kx_Ci (S := Unit) l y_Ca_slotToFill b_Ca_slotToFill 4 (some .int) 1 0 0 D (kx_T cI cZ cO) [.ref h] [(h, .inr (5, [.ref a0, .ref a1, .ref a2, .ref a3])), (a0, .inl (cI, 3, .inl c.1)), (a1, .inl (cI, 3, .inl c.2.1)), (a2, .inl (cZ, 3, .inl c.2.2.1)), (a3, .inl (cI, 3, .inl c.2.2.2))] (fun rr _ => rr = f_Ca_slotToFill c) (fun _ => [(h, .inr (5, [.ref a0, .ref a1, .ref a2, .ref a3])), (a0, .inl (cI, 3, .inl c.1)), (a1, .inl (cI, 3, .inl c.2.1)), (a2, .inl (cZ, 3, .inl c.2.2.1)), (a3, .inl (cI, 3, .inl c.2.2.2))]) := by
  refine kx_enter_i (by decide) (Nat.le_of_ble_eq_true rfl) ?_
  intro p_ e_ s_ m_ below_ meth_ c_ ls A_ H I hl hw
  have S := I.1
  have hx := S.1
  have hb := S.2.1
  have hl : lv_has ls 4 [(0, .ref h)] := hl
  refine lv_aload_n hx hb d_Ca_slotToFill_0 rfl (lv_at hl 0 rfl) ?_
  refine lv_iconst (v := (-1)) hx hb d_Ca_slotToFill_1 (by decide) ?_
  refine kx_call_i (wc := [(h, .inr (5, [.ref a0, .ref a1, .ref a2, .ref a3])), (a0, .inl (cI, 3, .inl c.1)), (a1, .inl (cI, 3, .inl c.2.1)), (a2, .inl (cZ, 3, .inl c.2.2.1)), (a3, .inl (cI, 3, .inl c.2.2.2))]) (wr := []) (rest := []) hw [0, 1, 2, 3, 4] [] rfl rfl (by decide) (by decide) (kx_runV S hw fc_Ca_31 rfl 0 rfl [0, 1, 2, 3, 4] (by decide) rfl (c_Ca_find l D cI cZ cO h a0 a1 a2 a3 c (-1) H.size) rfl hl.1 rfl (Nat.le_of_ble_eq_true rfl) d_Ca_slotToFill_2 (by decide) (by decide)) (fun r1 u1 H locs hp1 hw => ?_)
  have hw : kx_w D (kx_T cI cZ cO) A_ s_ [(h, .inr (5, [.ref a0, .ref a1, .ref a2, .ref a3])), (a0, .inl (cI, 3, .inl c.1)), (a1, .inl (cI, 3, .inl c.2.1)), (a2, .inl (cZ, 3, .inl c.2.2.1)), (a3, .inl (cI, 3, .inl c.2.2.2))] H locs := hw
  refine lv_istore_n (lv' := [(1, .int r1), (0, .ref h)]) hx hb d_Ca_slotToFill_5 rfl hl (by decide) rfl (fun ls hl => ?_)
  refine lv_iload_n hx hb d_Ca_slotToFill_6 rfl (lv_at hl 0 rfl) ?_
  refine lv_iconst (v := (-1)) hx hb d_Ca_slotToFill_7 (by decide) ?_
  refine lv_icmp_eq (tgt := 13) hx hb d_Ca_slotToFill_8 (by decide) (fun h2 => ?_) (fun h2 => ?_)
  · refine lv_iconst (v := 0) hx hb d_Ca_slotToFill_13 (by decide) ?_
    refine lv_istore_n (lv' := [(2, .int 0), (1, .int r1), (0, .ref h)]) hx hb d_Ca_slotToFill_14 rfl hl (by decide) rfl (fun ls hl => ?_)
    refine lv_iconst (v := 1) hx hb d_Ca_slotToFill_15 (by decide) ?_
    refine lv_istore_n (lv' := [(3, .int 1), (2, .int 0), (1, .int r1), (0, .ref h)]) hx hb d_Ca_slotToFill_16 rfl hl (by decide) rfl (fun ls hl => ?_)
    refine lv_iload_n hx hb d_Ca_slotToFill_17 rfl (lv_at hl 0 rfl) ?_
    refine lv_iconst (v := 3) hx hb d_Ca_slotToFill_18 (by decide) ?_
    refine lv_icmp_ge (tgt := 45) hx hb d_Ca_slotToFill_19 (by decide) (fun h => absurd h (by decide)) (fun _ => ?_)
    refine lv_aload_n hx hb d_Ca_slotToFill_22 rfl (lv_at hl 3 rfl) ?_
    refine kx_get S hw fg_Ca_22 0 rfl rfl d_Ca_slotToFill_23 ?_
    refine lv_iload_n hx hb d_Ca_slotToFill_26 rfl (lv_at hl 0 rfl) ?_
    refine kx_iald S hw 4 0 rfl rfl (j := 1) (by decide) (by unfold vp_in; decide) d_Ca_slotToFill_27 ?_
    refine lv_aload_n hx hb d_Ca_slotToFill_28 rfl (lv_at hl 3 rfl) ?_
    refine kx_get S hw fg_Ca_22 0 rfl rfl d_Ca_slotToFill_29 ?_
    refine lv_iload_n hx hb d_Ca_slotToFill_32 rfl (lv_at hl 1 rfl) ?_
    refine kx_iald S hw 4 0 rfl rfl (j := 0) (by decide) (by unfold vp_in; decide) d_Ca_slotToFill_33 ?_
    refine lv_icmp_ge (tgt := 39) hx hb d_Ca_slotToFill_34 (by decide) (fun h3 => ?_) (fun h3 => ?_)
    · refine lv_iinc (v := 2) (k := 0) (lv' := [(3, .int 2), (2, .int 0), (1, .int r1), (0, .ref h)]) hx hb d_Ca_slotToFill_39 hl rfl (by decide) (by decide) rfl (fun ls hl => ?_)
      refine lv_goto (tgt := 17) hx hb d_Ca_slotToFill_42 (by decide) ?_
      refine lv_iload_n hx hb d_Ca_slotToFill_17 rfl (lv_at hl 0 rfl) ?_
      refine lv_iconst (v := 3) hx hb d_Ca_slotToFill_18 (by decide) ?_
      refine lv_icmp_ge (tgt := 45) hx hb d_Ca_slotToFill_19 (by decide) (fun h => absurd h (by decide)) (fun _ => ?_)
      refine lv_aload_n hx hb d_Ca_slotToFill_22 rfl (lv_at hl 3 rfl) ?_
      refine kx_get S hw fg_Ca_22 0 rfl rfl d_Ca_slotToFill_23 ?_
      refine lv_iload_n hx hb d_Ca_slotToFill_26 rfl (lv_at hl 0 rfl) ?_
      refine kx_iald S hw 4 0 rfl rfl (j := 2) (by decide) (by unfold vp_in; decide) d_Ca_slotToFill_27 ?_
      refine lv_aload_n hx hb d_Ca_slotToFill_28 rfl (lv_at hl 3 rfl) ?_
      refine kx_get S hw fg_Ca_22 0 rfl rfl d_Ca_slotToFill_29 ?_
      refine lv_iload_n hx hb d_Ca_slotToFill_32 rfl (lv_at hl 1 rfl) ?_
      refine kx_iald S hw 4 0 rfl rfl (j := 0) (by decide) (by unfold vp_in; decide) d_Ca_slotToFill_33 ?_
      refine lv_icmp_ge (tgt := 39) hx hb d_Ca_slotToFill_34 (by decide) (fun h4 => ?_) (fun h4 => ?_)
      · refine lv_iinc (v := 3) (k := 0) (lv' := [(3, .int 3), (2, .int 0), (1, .int r1), (0, .ref h)]) hx hb d_Ca_slotToFill_39 hl rfl (by decide) (by decide) rfl (fun ls hl => ?_)
        refine lv_goto (tgt := 17) hx hb d_Ca_slotToFill_42 (by decide) ?_
        refine lv_iload_n hx hb d_Ca_slotToFill_17 rfl (lv_at hl 0 rfl) ?_
        refine lv_iconst (v := 3) hx hb d_Ca_slotToFill_18 (by decide) ?_
        refine lv_icmp_ge (tgt := 45) hx hb d_Ca_slotToFill_19 (by decide) (fun _ => ?_) (fun h => absurd h (by decide))
        refine lv_iload_n hx hb d_Ca_slotToFill_45 rfl (lv_at hl 1 rfl) ?_
        exact kx_ret_i I rfl hw () (by simp only [f_Ca_slotToFill, ← hp1, if_pos h2, if_pos h3, if_pos h4]) [0, 1, 2, 3, 4] (by decide) rfl d_Ca_slotToFill_46
      · refine lv_iload_n hx hb d_Ca_slotToFill_37 rfl (lv_at hl 0 rfl) ?_
        refine lv_istore_n (lv' := [(2, .int 2), (3, .int 2), (1, .int r1), (0, .ref h)]) hx hb d_Ca_slotToFill_38 rfl hl (by decide) rfl (fun ls hl => ?_)
        refine lv_iinc (v := 3) (k := 1) (lv' := [(3, .int 3), (2, .int 2), (1, .int r1), (0, .ref h)]) hx hb d_Ca_slotToFill_39 hl rfl (by decide) (by decide) rfl (fun ls hl => ?_)
        refine lv_goto (tgt := 17) hx hb d_Ca_slotToFill_42 (by decide) ?_
        refine lv_iload_n hx hb d_Ca_slotToFill_17 rfl (lv_at hl 0 rfl) ?_
        refine lv_iconst (v := 3) hx hb d_Ca_slotToFill_18 (by decide) ?_
        refine lv_icmp_ge (tgt := 45) hx hb d_Ca_slotToFill_19 (by decide) (fun _ => ?_) (fun h => absurd h (by decide))
        refine lv_iload_n hx hb d_Ca_slotToFill_45 rfl (lv_at hl 1 rfl) ?_
        exact kx_ret_i I rfl hw () (by simp only [f_Ca_slotToFill, ← hp1, if_pos h2, if_pos h3, if_neg h4]) [0, 1, 2, 3, 4] (by decide) rfl d_Ca_slotToFill_46
    · refine lv_iload_n hx hb d_Ca_slotToFill_37 rfl (lv_at hl 0 rfl) ?_
      refine lv_istore_n (lv' := [(2, .int 1), (3, .int 1), (1, .int r1), (0, .ref h)]) hx hb d_Ca_slotToFill_38 rfl hl (by decide) rfl (fun ls hl => ?_)
      refine lv_iinc (v := 2) (k := 1) (lv' := [(3, .int 2), (2, .int 1), (1, .int r1), (0, .ref h)]) hx hb d_Ca_slotToFill_39 hl rfl (by decide) (by decide) rfl (fun ls hl => ?_)
      refine lv_goto (tgt := 17) hx hb d_Ca_slotToFill_42 (by decide) ?_
      refine lv_iload_n hx hb d_Ca_slotToFill_17 rfl (lv_at hl 0 rfl) ?_
      refine lv_iconst (v := 3) hx hb d_Ca_slotToFill_18 (by decide) ?_
      refine lv_icmp_ge (tgt := 45) hx hb d_Ca_slotToFill_19 (by decide) (fun h => absurd h (by decide)) (fun _ => ?_)
      refine lv_aload_n hx hb d_Ca_slotToFill_22 rfl (lv_at hl 3 rfl) ?_
      refine kx_get S hw fg_Ca_22 0 rfl rfl d_Ca_slotToFill_23 ?_
      refine lv_iload_n hx hb d_Ca_slotToFill_26 rfl (lv_at hl 0 rfl) ?_
      refine kx_iald S hw 4 0 rfl rfl (j := 2) (by decide) (by unfold vp_in; decide) d_Ca_slotToFill_27 ?_
      refine lv_aload_n hx hb d_Ca_slotToFill_28 rfl (lv_at hl 3 rfl) ?_
      refine kx_get S hw fg_Ca_22 0 rfl rfl d_Ca_slotToFill_29 ?_
      refine lv_iload_n hx hb d_Ca_slotToFill_32 rfl (lv_at hl 1 rfl) ?_
      refine kx_iald S hw 4 0 rfl rfl (j := 1) (by decide) (by unfold vp_in; decide) d_Ca_slotToFill_33 ?_
      refine lv_icmp_ge (tgt := 39) hx hb d_Ca_slotToFill_34 (by decide) (fun h5 => ?_) (fun h5 => ?_)
      · refine lv_iinc (v := 3) (k := 0) (lv' := [(3, .int 3), (2, .int 1), (1, .int r1), (0, .ref h)]) hx hb d_Ca_slotToFill_39 hl rfl (by decide) (by decide) rfl (fun ls hl => ?_)
        refine lv_goto (tgt := 17) hx hb d_Ca_slotToFill_42 (by decide) ?_
        refine lv_iload_n hx hb d_Ca_slotToFill_17 rfl (lv_at hl 0 rfl) ?_
        refine lv_iconst (v := 3) hx hb d_Ca_slotToFill_18 (by decide) ?_
        refine lv_icmp_ge (tgt := 45) hx hb d_Ca_slotToFill_19 (by decide) (fun _ => ?_) (fun h => absurd h (by decide))
        refine lv_iload_n hx hb d_Ca_slotToFill_45 rfl (lv_at hl 1 rfl) ?_
        exact kx_ret_i I rfl hw () (by simp only [f_Ca_slotToFill, ← hp1, if_pos h2, if_neg h3, if_pos h5]) [0, 1, 2, 3, 4] (by decide) rfl d_Ca_slotToFill_46
      · refine lv_iload_n hx hb d_Ca_slotToFill_37 rfl (lv_at hl 0 rfl) ?_
        refine lv_istore_n (lv' := [(2, .int 2), (3, .int 2), (1, .int r1), (0, .ref h)]) hx hb d_Ca_slotToFill_38 rfl hl (by decide) rfl (fun ls hl => ?_)
        refine lv_iinc (v := 3) (k := 1) (lv' := [(3, .int 3), (2, .int 2), (1, .int r1), (0, .ref h)]) hx hb d_Ca_slotToFill_39 hl rfl (by decide) (by decide) rfl (fun ls hl => ?_)
        refine lv_goto (tgt := 17) hx hb d_Ca_slotToFill_42 (by decide) ?_
        refine lv_iload_n hx hb d_Ca_slotToFill_17 rfl (lv_at hl 0 rfl) ?_
        refine lv_iconst (v := 3) hx hb d_Ca_slotToFill_18 (by decide) ?_
        refine lv_icmp_ge (tgt := 45) hx hb d_Ca_slotToFill_19 (by decide) (fun _ => ?_) (fun h => absurd h (by decide))
        refine lv_iload_n hx hb d_Ca_slotToFill_45 rfl (lv_at hl 1 rfl) ?_
        exact kx_ret_i I rfl hw () (by simp only [f_Ca_slotToFill, ← hp1, if_pos h2, if_neg h3, if_neg h5]) [0, 1, 2, 3, 4] (by decide) rfl d_Ca_slotToFill_46
  · refine lv_iload_n hx hb d_Ca_slotToFill_11 rfl (lv_at hl 0 rfl) ?_
    exact kx_ret_i I rfl hw () (by simp only [f_Ca_slotToFill, ← hp1, if_neg h2]) [0, 1, 2, 3, 4] (by decide) rfl d_Ca_slotToFill_12
def f_Ca_dirtySlotOfLowestBlock (c : kt_Ca) : Int32 :=
  if (c.2.2.1 0) = 0 then (if (c.2.2.1 1) = 0 then (if (c.2.2.1 2) = 0 then (-1)
      else 2)
    else if (c.2.2.1 2) = 0 then 1
    else if (c.1 1) ≤ (c.1 2) then 1
    else 2)
  else if (c.2.2.1 1) = 0 then (if (c.2.2.1 2) = 0 then 0
    else if (c.1 0) ≤ (c.1 2) then 0
    else 2)
  else if (c.1 0) ≤ (c.1 1) then (if (c.2.2.1 2) = 0 then 0
    else if (c.1 0) ≤ (c.1 2) then 0
    else 2)
  else if (c.2.2.1 2) = 0 then 1
  else if (c.1 1) ≤ (c.1 2) then 1
  else 2
set_option maxHeartbeats 4000000 in
set_option maxRecDepth 100000 in
theorem c_Ca_dirtySlotOfLowestBlock (l : Launch) (D : va_G) (cI cZ cO : ClassId) (h : Nat) (a0 : Nat) (a1 : Nat) (a2 : Nat) (a3 : Nat) (c : kt_Ca) : kx_Ci (S := Unit) l y_Ca_dirtySlotOfLowestBlock b_Ca_dirtySlotOfLowestBlock 3 (some .int) 0 0 0 D (kx_T cI cZ cO) [.ref h] [(h, .inr (5, [.ref a0, .ref a1, .ref a2, .ref a3])), (a0, .inl (cI, 3, .inl c.1)), (a1, .inl (cI, 3, .inl c.2.1)), (a2, .inl (cZ, 3, .inl c.2.2.1)), (a3, .inl (cI, 3, .inl c.2.2.2))] (fun rr _ => rr = f_Ca_dirtySlotOfLowestBlock c) (fun _ => [(h, .inr (5, [.ref a0, .ref a1, .ref a2, .ref a3])), (a0, .inl (cI, 3, .inl c.1)), (a1, .inl (cI, 3, .inl c.2.1)), (a2, .inl (cZ, 3, .inl c.2.2.1)), (a3, .inl (cI, 3, .inl c.2.2.2))]) := by
  refine kx_enter_i (by decide) (Nat.le_of_ble_eq_true rfl) ?_
  intro p_ e_ s_ m_ below_ meth_ c_ ls A_ H I hl hw
  have S := I.1
  have hx := S.1
  have hb := S.2.1
  have hl : lv_has ls 3 [(0, .ref h)] := hl
  refine lv_iconst (v := (-1)) hx hb d_Ca_dirtySlotOfLowestBlock_0 (by decide) ?_
  refine lv_istore_n (lv' := [(1, .int (-1)), (0, .ref h)]) hx hb d_Ca_dirtySlotOfLowestBlock_1 rfl hl (by decide) rfl (fun ls hl => ?_)
  refine lv_iconst (v := 0) hx hb d_Ca_dirtySlotOfLowestBlock_2 (by decide) ?_
  refine lv_istore_n (lv' := [(2, .int 0), (1, .int (-1)), (0, .ref h)]) hx hb d_Ca_dirtySlotOfLowestBlock_3 rfl hl (by decide) rfl (fun ls hl => ?_)
  refine lv_iload_n hx hb d_Ca_dirtySlotOfLowestBlock_4 rfl (lv_at hl 0 rfl) ?_
  refine lv_iconst (v := 3) hx hb d_Ca_dirtySlotOfLowestBlock_5 (by decide) ?_
  refine lv_icmp_ge (tgt := 46) hx hb d_Ca_dirtySlotOfLowestBlock_6 (by decide) (fun h => absurd h (by decide)) (fun _ => ?_)
  refine lv_aload_n hx hb d_Ca_dirtySlotOfLowestBlock_9 rfl (lv_at hl 2 rfl) ?_
  refine kx_get S hw fg_Ca_18 0 rfl rfl d_Ca_dirtySlotOfLowestBlock_10 ?_
  refine lv_iload_n hx hb d_Ca_dirtySlotOfLowestBlock_13 rfl (lv_at hl 0 rfl) ?_
  refine kx_zald S hw 3 1 rfl rfl (j := 0) (by decide) (by unfold vp_in; decide) d_Ca_dirtySlotOfLowestBlock_14 ?_
  refine lv_if_eq (tgt := 40) hx hb d_Ca_dirtySlotOfLowestBlock_15 (by decide) (fun h1 => ?_) (fun h1 => ?_)
  · refine lv_iinc (v := 1) (k := 0) (lv' := [(2, .int 1), (1, .int (-1)), (0, .ref h)]) hx hb d_Ca_dirtySlotOfLowestBlock_40 hl rfl (by decide) (by decide) rfl (fun ls hl => ?_)
    refine lv_goto (tgt := 4) hx hb d_Ca_dirtySlotOfLowestBlock_43 (by decide) ?_
    refine lv_iload_n hx hb d_Ca_dirtySlotOfLowestBlock_4 rfl (lv_at hl 0 rfl) ?_
    refine lv_iconst (v := 3) hx hb d_Ca_dirtySlotOfLowestBlock_5 (by decide) ?_
    refine lv_icmp_ge (tgt := 46) hx hb d_Ca_dirtySlotOfLowestBlock_6 (by decide) (fun h => absurd h (by decide)) (fun _ => ?_)
    refine lv_aload_n hx hb d_Ca_dirtySlotOfLowestBlock_9 rfl (lv_at hl 2 rfl) ?_
    refine kx_get S hw fg_Ca_18 0 rfl rfl d_Ca_dirtySlotOfLowestBlock_10 ?_
    refine lv_iload_n hx hb d_Ca_dirtySlotOfLowestBlock_13 rfl (lv_at hl 0 rfl) ?_
    refine kx_zald S hw 3 1 rfl rfl (j := 1) (by decide) (by unfold vp_in; decide) d_Ca_dirtySlotOfLowestBlock_14 ?_
    refine lv_if_eq (tgt := 40) hx hb d_Ca_dirtySlotOfLowestBlock_15 (by decide) (fun h2 => ?_) (fun h2 => ?_)
    · refine lv_iinc (v := 2) (k := 0) (lv' := [(2, .int 2), (1, .int (-1)), (0, .ref h)]) hx hb d_Ca_dirtySlotOfLowestBlock_40 hl rfl (by decide) (by decide) rfl (fun ls hl => ?_)
      refine lv_goto (tgt := 4) hx hb d_Ca_dirtySlotOfLowestBlock_43 (by decide) ?_
      refine lv_iload_n hx hb d_Ca_dirtySlotOfLowestBlock_4 rfl (lv_at hl 0 rfl) ?_
      refine lv_iconst (v := 3) hx hb d_Ca_dirtySlotOfLowestBlock_5 (by decide) ?_
      refine lv_icmp_ge (tgt := 46) hx hb d_Ca_dirtySlotOfLowestBlock_6 (by decide) (fun h => absurd h (by decide)) (fun _ => ?_)
      refine lv_aload_n hx hb d_Ca_dirtySlotOfLowestBlock_9 rfl (lv_at hl 2 rfl) ?_
      refine kx_get S hw fg_Ca_18 0 rfl rfl d_Ca_dirtySlotOfLowestBlock_10 ?_
      refine lv_iload_n hx hb d_Ca_dirtySlotOfLowestBlock_13 rfl (lv_at hl 0 rfl) ?_
      refine kx_zald S hw 3 1 rfl rfl (j := 2) (by decide) (by unfold vp_in; decide) d_Ca_dirtySlotOfLowestBlock_14 ?_
      refine lv_if_eq (tgt := 40) hx hb d_Ca_dirtySlotOfLowestBlock_15 (by decide) (fun h3 => ?_) (fun h3 => ?_)
      · refine lv_iinc (v := 3) (k := 0) (lv' := [(2, .int 3), (1, .int (-1)), (0, .ref h)]) hx hb d_Ca_dirtySlotOfLowestBlock_40 hl rfl (by decide) (by decide) rfl (fun ls hl => ?_)
        refine lv_goto (tgt := 4) hx hb d_Ca_dirtySlotOfLowestBlock_43 (by decide) ?_
        refine lv_iload_n hx hb d_Ca_dirtySlotOfLowestBlock_4 rfl (lv_at hl 0 rfl) ?_
        refine lv_iconst (v := 3) hx hb d_Ca_dirtySlotOfLowestBlock_5 (by decide) ?_
        refine lv_icmp_ge (tgt := 46) hx hb d_Ca_dirtySlotOfLowestBlock_6 (by decide) (fun _ => ?_) (fun h => absurd h (by decide))
        refine lv_iload_n hx hb d_Ca_dirtySlotOfLowestBlock_46 rfl (lv_at hl 1 rfl) ?_
        exact kx_ret_i I rfl hw () (by simp only [f_Ca_dirtySlotOfLowestBlock, if_pos h1, if_pos h2, if_pos h3]) [0, 1, 2, 3, 4] (by decide) rfl d_Ca_dirtySlotOfLowestBlock_47
      · refine lv_iload_n hx hb d_Ca_dirtySlotOfLowestBlock_18 rfl (lv_at hl 1 rfl) ?_
        refine lv_iconst (v := (-1)) hx hb d_Ca_dirtySlotOfLowestBlock_19 (by decide) ?_
        refine lv_icmp_eq (tgt := 38) hx hb d_Ca_dirtySlotOfLowestBlock_20 (by decide) (fun _ => ?_) (fun h => absurd h (by decide))
        refine lv_iload_n hx hb d_Ca_dirtySlotOfLowestBlock_38 rfl (lv_at hl 0 rfl) ?_
        refine lv_istore_n (lv' := [(1, .int 2), (2, .int 2), (0, .ref h)]) hx hb d_Ca_dirtySlotOfLowestBlock_39 rfl hl (by decide) rfl (fun ls hl => ?_)
        refine lv_iinc (v := 3) (k := 1) (lv' := [(2, .int 3), (1, .int 2), (0, .ref h)]) hx hb d_Ca_dirtySlotOfLowestBlock_40 hl rfl (by decide) (by decide) rfl (fun ls hl => ?_)
        refine lv_goto (tgt := 4) hx hb d_Ca_dirtySlotOfLowestBlock_43 (by decide) ?_
        refine lv_iload_n hx hb d_Ca_dirtySlotOfLowestBlock_4 rfl (lv_at hl 0 rfl) ?_
        refine lv_iconst (v := 3) hx hb d_Ca_dirtySlotOfLowestBlock_5 (by decide) ?_
        refine lv_icmp_ge (tgt := 46) hx hb d_Ca_dirtySlotOfLowestBlock_6 (by decide) (fun _ => ?_) (fun h => absurd h (by decide))
        refine lv_iload_n hx hb d_Ca_dirtySlotOfLowestBlock_46 rfl (lv_at hl 1 rfl) ?_
        exact kx_ret_i I rfl hw () (by simp only [f_Ca_dirtySlotOfLowestBlock, if_pos h1, if_pos h2, if_neg h3]) [0, 1, 2, 3, 4] (by decide) rfl d_Ca_dirtySlotOfLowestBlock_47
    · refine lv_iload_n hx hb d_Ca_dirtySlotOfLowestBlock_18 rfl (lv_at hl 1 rfl) ?_
      refine lv_iconst (v := (-1)) hx hb d_Ca_dirtySlotOfLowestBlock_19 (by decide) ?_
      refine lv_icmp_eq (tgt := 38) hx hb d_Ca_dirtySlotOfLowestBlock_20 (by decide) (fun _ => ?_) (fun h => absurd h (by decide))
      refine lv_iload_n hx hb d_Ca_dirtySlotOfLowestBlock_38 rfl (lv_at hl 0 rfl) ?_
      refine lv_istore_n (lv' := [(1, .int 1), (2, .int 1), (0, .ref h)]) hx hb d_Ca_dirtySlotOfLowestBlock_39 rfl hl (by decide) rfl (fun ls hl => ?_)
      refine lv_iinc (v := 2) (k := 1) (lv' := [(2, .int 2), (1, .int 1), (0, .ref h)]) hx hb d_Ca_dirtySlotOfLowestBlock_40 hl rfl (by decide) (by decide) rfl (fun ls hl => ?_)
      refine lv_goto (tgt := 4) hx hb d_Ca_dirtySlotOfLowestBlock_43 (by decide) ?_
      refine lv_iload_n hx hb d_Ca_dirtySlotOfLowestBlock_4 rfl (lv_at hl 0 rfl) ?_
      refine lv_iconst (v := 3) hx hb d_Ca_dirtySlotOfLowestBlock_5 (by decide) ?_
      refine lv_icmp_ge (tgt := 46) hx hb d_Ca_dirtySlotOfLowestBlock_6 (by decide) (fun h => absurd h (by decide)) (fun _ => ?_)
      refine lv_aload_n hx hb d_Ca_dirtySlotOfLowestBlock_9 rfl (lv_at hl 2 rfl) ?_
      refine kx_get S hw fg_Ca_18 0 rfl rfl d_Ca_dirtySlotOfLowestBlock_10 ?_
      refine lv_iload_n hx hb d_Ca_dirtySlotOfLowestBlock_13 rfl (lv_at hl 0 rfl) ?_
      refine kx_zald S hw 3 1 rfl rfl (j := 2) (by decide) (by unfold vp_in; decide) d_Ca_dirtySlotOfLowestBlock_14 ?_
      refine lv_if_eq (tgt := 40) hx hb d_Ca_dirtySlotOfLowestBlock_15 (by decide) (fun h4 => ?_) (fun h4 => ?_)
      · refine lv_iinc (v := 3) (k := 0) (lv' := [(2, .int 3), (1, .int 1), (0, .ref h)]) hx hb d_Ca_dirtySlotOfLowestBlock_40 hl rfl (by decide) (by decide) rfl (fun ls hl => ?_)
        refine lv_goto (tgt := 4) hx hb d_Ca_dirtySlotOfLowestBlock_43 (by decide) ?_
        refine lv_iload_n hx hb d_Ca_dirtySlotOfLowestBlock_4 rfl (lv_at hl 0 rfl) ?_
        refine lv_iconst (v := 3) hx hb d_Ca_dirtySlotOfLowestBlock_5 (by decide) ?_
        refine lv_icmp_ge (tgt := 46) hx hb d_Ca_dirtySlotOfLowestBlock_6 (by decide) (fun _ => ?_) (fun h => absurd h (by decide))
        refine lv_iload_n hx hb d_Ca_dirtySlotOfLowestBlock_46 rfl (lv_at hl 1 rfl) ?_
        exact kx_ret_i I rfl hw () (by simp only [f_Ca_dirtySlotOfLowestBlock, if_pos h1, if_neg h2, if_pos h4]) [0, 1, 2, 3, 4] (by decide) rfl d_Ca_dirtySlotOfLowestBlock_47
      · refine lv_iload_n hx hb d_Ca_dirtySlotOfLowestBlock_18 rfl (lv_at hl 1 rfl) ?_
        refine lv_iconst (v := (-1)) hx hb d_Ca_dirtySlotOfLowestBlock_19 (by decide) ?_
        refine lv_icmp_eq (tgt := 38) hx hb d_Ca_dirtySlotOfLowestBlock_20 (by decide) (fun h => absurd h (by decide)) (fun _ => ?_)
        refine lv_aload_n hx hb d_Ca_dirtySlotOfLowestBlock_23 rfl (lv_at hl 2 rfl) ?_
        refine kx_get S hw fg_Ca_9 0 rfl rfl d_Ca_dirtySlotOfLowestBlock_24 ?_
        refine lv_iload_n hx hb d_Ca_dirtySlotOfLowestBlock_27 rfl (lv_at hl 0 rfl) ?_
        refine kx_iald S hw 1 0 rfl rfl (j := 2) (by decide) (by unfold vp_in; decide) d_Ca_dirtySlotOfLowestBlock_28 ?_
        refine lv_aload_n hx hb d_Ca_dirtySlotOfLowestBlock_29 rfl (lv_at hl 2 rfl) ?_
        refine kx_get S hw fg_Ca_9 0 rfl rfl d_Ca_dirtySlotOfLowestBlock_30 ?_
        refine lv_iload_n hx hb d_Ca_dirtySlotOfLowestBlock_33 rfl (lv_at hl 1 rfl) ?_
        refine kx_iald S hw 1 0 rfl rfl (j := 1) (by decide) (by unfold vp_in; decide) d_Ca_dirtySlotOfLowestBlock_34 ?_
        refine lv_icmp_ge (tgt := 40) hx hb d_Ca_dirtySlotOfLowestBlock_35 (by decide) (fun h5 => ?_) (fun h5 => ?_)
        · refine lv_iinc (v := 3) (k := 0) (lv' := [(2, .int 3), (1, .int 1), (0, .ref h)]) hx hb d_Ca_dirtySlotOfLowestBlock_40 hl rfl (by decide) (by decide) rfl (fun ls hl => ?_)
          refine lv_goto (tgt := 4) hx hb d_Ca_dirtySlotOfLowestBlock_43 (by decide) ?_
          refine lv_iload_n hx hb d_Ca_dirtySlotOfLowestBlock_4 rfl (lv_at hl 0 rfl) ?_
          refine lv_iconst (v := 3) hx hb d_Ca_dirtySlotOfLowestBlock_5 (by decide) ?_
          refine lv_icmp_ge (tgt := 46) hx hb d_Ca_dirtySlotOfLowestBlock_6 (by decide) (fun _ => ?_) (fun h => absurd h (by decide))
          refine lv_iload_n hx hb d_Ca_dirtySlotOfLowestBlock_46 rfl (lv_at hl 1 rfl) ?_
          exact kx_ret_i I rfl hw () (by simp only [f_Ca_dirtySlotOfLowestBlock, if_pos h1, if_neg h2, if_neg h4, if_pos h5]) [0, 1, 2, 3, 4] (by decide) rfl d_Ca_dirtySlotOfLowestBlock_47
        · refine lv_iload_n hx hb d_Ca_dirtySlotOfLowestBlock_38 rfl (lv_at hl 0 rfl) ?_
          refine lv_istore_n (lv' := [(1, .int 2), (2, .int 2), (0, .ref h)]) hx hb d_Ca_dirtySlotOfLowestBlock_39 rfl hl (by decide) rfl (fun ls hl => ?_)
          refine lv_iinc (v := 3) (k := 1) (lv' := [(2, .int 3), (1, .int 2), (0, .ref h)]) hx hb d_Ca_dirtySlotOfLowestBlock_40 hl rfl (by decide) (by decide) rfl (fun ls hl => ?_)
          refine lv_goto (tgt := 4) hx hb d_Ca_dirtySlotOfLowestBlock_43 (by decide) ?_
          refine lv_iload_n hx hb d_Ca_dirtySlotOfLowestBlock_4 rfl (lv_at hl 0 rfl) ?_
          refine lv_iconst (v := 3) hx hb d_Ca_dirtySlotOfLowestBlock_5 (by decide) ?_
          refine lv_icmp_ge (tgt := 46) hx hb d_Ca_dirtySlotOfLowestBlock_6 (by decide) (fun _ => ?_) (fun h => absurd h (by decide))
          refine lv_iload_n hx hb d_Ca_dirtySlotOfLowestBlock_46 rfl (lv_at hl 1 rfl) ?_
          exact kx_ret_i I rfl hw () (by simp only [f_Ca_dirtySlotOfLowestBlock, if_pos h1, if_neg h2, if_neg h4, if_neg h5]) [0, 1, 2, 3, 4] (by decide) rfl d_Ca_dirtySlotOfLowestBlock_47
  · refine lv_iload_n hx hb d_Ca_dirtySlotOfLowestBlock_18 rfl (lv_at hl 1 rfl) ?_
    refine lv_iconst (v := (-1)) hx hb d_Ca_dirtySlotOfLowestBlock_19 (by decide) ?_
    refine lv_icmp_eq (tgt := 38) hx hb d_Ca_dirtySlotOfLowestBlock_20 (by decide) (fun _ => ?_) (fun h => absurd h (by decide))
    refine lv_iload_n hx hb d_Ca_dirtySlotOfLowestBlock_38 rfl (lv_at hl 0 rfl) ?_
    refine lv_istore_n (lv' := [(1, .int 0), (2, .int 0), (0, .ref h)]) hx hb d_Ca_dirtySlotOfLowestBlock_39 rfl hl (by decide) rfl (fun ls hl => ?_)
    refine lv_iinc (v := 1) (k := 1) (lv' := [(2, .int 1), (1, .int 0), (0, .ref h)]) hx hb d_Ca_dirtySlotOfLowestBlock_40 hl rfl (by decide) (by decide) rfl (fun ls hl => ?_)
    refine lv_goto (tgt := 4) hx hb d_Ca_dirtySlotOfLowestBlock_43 (by decide) ?_
    refine lv_iload_n hx hb d_Ca_dirtySlotOfLowestBlock_4 rfl (lv_at hl 0 rfl) ?_
    refine lv_iconst (v := 3) hx hb d_Ca_dirtySlotOfLowestBlock_5 (by decide) ?_
    refine lv_icmp_ge (tgt := 46) hx hb d_Ca_dirtySlotOfLowestBlock_6 (by decide) (fun h => absurd h (by decide)) (fun _ => ?_)
    refine lv_aload_n hx hb d_Ca_dirtySlotOfLowestBlock_9 rfl (lv_at hl 2 rfl) ?_
    refine kx_get S hw fg_Ca_18 0 rfl rfl d_Ca_dirtySlotOfLowestBlock_10 ?_
    refine lv_iload_n hx hb d_Ca_dirtySlotOfLowestBlock_13 rfl (lv_at hl 0 rfl) ?_
    refine kx_zald S hw 3 1 rfl rfl (j := 1) (by decide) (by unfold vp_in; decide) d_Ca_dirtySlotOfLowestBlock_14 ?_
    refine lv_if_eq (tgt := 40) hx hb d_Ca_dirtySlotOfLowestBlock_15 (by decide) (fun h6 => ?_) (fun h6 => ?_)
    · refine lv_iinc (v := 2) (k := 0) (lv' := [(2, .int 2), (1, .int 0), (0, .ref h)]) hx hb d_Ca_dirtySlotOfLowestBlock_40 hl rfl (by decide) (by decide) rfl (fun ls hl => ?_)
      refine lv_goto (tgt := 4) hx hb d_Ca_dirtySlotOfLowestBlock_43 (by decide) ?_
      refine lv_iload_n hx hb d_Ca_dirtySlotOfLowestBlock_4 rfl (lv_at hl 0 rfl) ?_
      refine lv_iconst (v := 3) hx hb d_Ca_dirtySlotOfLowestBlock_5 (by decide) ?_
      refine lv_icmp_ge (tgt := 46) hx hb d_Ca_dirtySlotOfLowestBlock_6 (by decide) (fun h => absurd h (by decide)) (fun _ => ?_)
      refine lv_aload_n hx hb d_Ca_dirtySlotOfLowestBlock_9 rfl (lv_at hl 2 rfl) ?_
      refine kx_get S hw fg_Ca_18 0 rfl rfl d_Ca_dirtySlotOfLowestBlock_10 ?_
      refine lv_iload_n hx hb d_Ca_dirtySlotOfLowestBlock_13 rfl (lv_at hl 0 rfl) ?_
      refine kx_zald S hw 3 1 rfl rfl (j := 2) (by decide) (by unfold vp_in; decide) d_Ca_dirtySlotOfLowestBlock_14 ?_
      refine lv_if_eq (tgt := 40) hx hb d_Ca_dirtySlotOfLowestBlock_15 (by decide) (fun h7 => ?_) (fun h7 => ?_)
      · refine lv_iinc (v := 3) (k := 0) (lv' := [(2, .int 3), (1, .int 0), (0, .ref h)]) hx hb d_Ca_dirtySlotOfLowestBlock_40 hl rfl (by decide) (by decide) rfl (fun ls hl => ?_)
        refine lv_goto (tgt := 4) hx hb d_Ca_dirtySlotOfLowestBlock_43 (by decide) ?_
        refine lv_iload_n hx hb d_Ca_dirtySlotOfLowestBlock_4 rfl (lv_at hl 0 rfl) ?_
        refine lv_iconst (v := 3) hx hb d_Ca_dirtySlotOfLowestBlock_5 (by decide) ?_
        refine lv_icmp_ge (tgt := 46) hx hb d_Ca_dirtySlotOfLowestBlock_6 (by decide) (fun _ => ?_) (fun h => absurd h (by decide))
        refine lv_iload_n hx hb d_Ca_dirtySlotOfLowestBlock_46 rfl (lv_at hl 1 rfl) ?_
        exact kx_ret_i I rfl hw () (by simp only [f_Ca_dirtySlotOfLowestBlock, if_neg h1, if_pos h6, if_pos h7]) [0, 1, 2, 3, 4] (by decide) rfl d_Ca_dirtySlotOfLowestBlock_47
      · refine lv_iload_n hx hb d_Ca_dirtySlotOfLowestBlock_18 rfl (lv_at hl 1 rfl) ?_
        refine lv_iconst (v := (-1)) hx hb d_Ca_dirtySlotOfLowestBlock_19 (by decide) ?_
        refine lv_icmp_eq (tgt := 38) hx hb d_Ca_dirtySlotOfLowestBlock_20 (by decide) (fun h => absurd h (by decide)) (fun _ => ?_)
        refine lv_aload_n hx hb d_Ca_dirtySlotOfLowestBlock_23 rfl (lv_at hl 2 rfl) ?_
        refine kx_get S hw fg_Ca_9 0 rfl rfl d_Ca_dirtySlotOfLowestBlock_24 ?_
        refine lv_iload_n hx hb d_Ca_dirtySlotOfLowestBlock_27 rfl (lv_at hl 0 rfl) ?_
        refine kx_iald S hw 1 0 rfl rfl (j := 2) (by decide) (by unfold vp_in; decide) d_Ca_dirtySlotOfLowestBlock_28 ?_
        refine lv_aload_n hx hb d_Ca_dirtySlotOfLowestBlock_29 rfl (lv_at hl 2 rfl) ?_
        refine kx_get S hw fg_Ca_9 0 rfl rfl d_Ca_dirtySlotOfLowestBlock_30 ?_
        refine lv_iload_n hx hb d_Ca_dirtySlotOfLowestBlock_33 rfl (lv_at hl 1 rfl) ?_
        refine kx_iald S hw 1 0 rfl rfl (j := 0) (by decide) (by unfold vp_in; decide) d_Ca_dirtySlotOfLowestBlock_34 ?_
        refine lv_icmp_ge (tgt := 40) hx hb d_Ca_dirtySlotOfLowestBlock_35 (by decide) (fun h8 => ?_) (fun h8 => ?_)
        · refine lv_iinc (v := 3) (k := 0) (lv' := [(2, .int 3), (1, .int 0), (0, .ref h)]) hx hb d_Ca_dirtySlotOfLowestBlock_40 hl rfl (by decide) (by decide) rfl (fun ls hl => ?_)
          refine lv_goto (tgt := 4) hx hb d_Ca_dirtySlotOfLowestBlock_43 (by decide) ?_
          refine lv_iload_n hx hb d_Ca_dirtySlotOfLowestBlock_4 rfl (lv_at hl 0 rfl) ?_
          refine lv_iconst (v := 3) hx hb d_Ca_dirtySlotOfLowestBlock_5 (by decide) ?_
          refine lv_icmp_ge (tgt := 46) hx hb d_Ca_dirtySlotOfLowestBlock_6 (by decide) (fun _ => ?_) (fun h => absurd h (by decide))
          refine lv_iload_n hx hb d_Ca_dirtySlotOfLowestBlock_46 rfl (lv_at hl 1 rfl) ?_
          exact kx_ret_i I rfl hw () (by simp only [f_Ca_dirtySlotOfLowestBlock, if_neg h1, if_pos h6, if_neg h7, if_pos h8]) [0, 1, 2, 3, 4] (by decide) rfl d_Ca_dirtySlotOfLowestBlock_47
        · refine lv_iload_n hx hb d_Ca_dirtySlotOfLowestBlock_38 rfl (lv_at hl 0 rfl) ?_
          refine lv_istore_n (lv' := [(1, .int 2), (2, .int 2), (0, .ref h)]) hx hb d_Ca_dirtySlotOfLowestBlock_39 rfl hl (by decide) rfl (fun ls hl => ?_)
          refine lv_iinc (v := 3) (k := 1) (lv' := [(2, .int 3), (1, .int 2), (0, .ref h)]) hx hb d_Ca_dirtySlotOfLowestBlock_40 hl rfl (by decide) (by decide) rfl (fun ls hl => ?_)
          refine lv_goto (tgt := 4) hx hb d_Ca_dirtySlotOfLowestBlock_43 (by decide) ?_
          refine lv_iload_n hx hb d_Ca_dirtySlotOfLowestBlock_4 rfl (lv_at hl 0 rfl) ?_
          refine lv_iconst (v := 3) hx hb d_Ca_dirtySlotOfLowestBlock_5 (by decide) ?_
          refine lv_icmp_ge (tgt := 46) hx hb d_Ca_dirtySlotOfLowestBlock_6 (by decide) (fun _ => ?_) (fun h => absurd h (by decide))
          refine lv_iload_n hx hb d_Ca_dirtySlotOfLowestBlock_46 rfl (lv_at hl 1 rfl) ?_
          exact kx_ret_i I rfl hw () (by simp only [f_Ca_dirtySlotOfLowestBlock, if_neg h1, if_pos h6, if_neg h7, if_neg h8]) [0, 1, 2, 3, 4] (by decide) rfl d_Ca_dirtySlotOfLowestBlock_47
    · refine lv_iload_n hx hb d_Ca_dirtySlotOfLowestBlock_18 rfl (lv_at hl 1 rfl) ?_
      refine lv_iconst (v := (-1)) hx hb d_Ca_dirtySlotOfLowestBlock_19 (by decide) ?_
      refine lv_icmp_eq (tgt := 38) hx hb d_Ca_dirtySlotOfLowestBlock_20 (by decide) (fun h => absurd h (by decide)) (fun _ => ?_)
      refine lv_aload_n hx hb d_Ca_dirtySlotOfLowestBlock_23 rfl (lv_at hl 2 rfl) ?_
      refine kx_get S hw fg_Ca_9 0 rfl rfl d_Ca_dirtySlotOfLowestBlock_24 ?_
      refine lv_iload_n hx hb d_Ca_dirtySlotOfLowestBlock_27 rfl (lv_at hl 0 rfl) ?_
      refine kx_iald S hw 1 0 rfl rfl (j := 1) (by decide) (by unfold vp_in; decide) d_Ca_dirtySlotOfLowestBlock_28 ?_
      refine lv_aload_n hx hb d_Ca_dirtySlotOfLowestBlock_29 rfl (lv_at hl 2 rfl) ?_
      refine kx_get S hw fg_Ca_9 0 rfl rfl d_Ca_dirtySlotOfLowestBlock_30 ?_
      refine lv_iload_n hx hb d_Ca_dirtySlotOfLowestBlock_33 rfl (lv_at hl 1 rfl) ?_
      refine kx_iald S hw 1 0 rfl rfl (j := 0) (by decide) (by unfold vp_in; decide) d_Ca_dirtySlotOfLowestBlock_34 ?_
      refine lv_icmp_ge (tgt := 40) hx hb d_Ca_dirtySlotOfLowestBlock_35 (by decide) (fun h9 => ?_) (fun h9 => ?_)
      · refine lv_iinc (v := 2) (k := 0) (lv' := [(2, .int 2), (1, .int 0), (0, .ref h)]) hx hb d_Ca_dirtySlotOfLowestBlock_40 hl rfl (by decide) (by decide) rfl (fun ls hl => ?_)
        refine lv_goto (tgt := 4) hx hb d_Ca_dirtySlotOfLowestBlock_43 (by decide) ?_
        refine lv_iload_n hx hb d_Ca_dirtySlotOfLowestBlock_4 rfl (lv_at hl 0 rfl) ?_
        refine lv_iconst (v := 3) hx hb d_Ca_dirtySlotOfLowestBlock_5 (by decide) ?_
        refine lv_icmp_ge (tgt := 46) hx hb d_Ca_dirtySlotOfLowestBlock_6 (by decide) (fun h => absurd h (by decide)) (fun _ => ?_)
        refine lv_aload_n hx hb d_Ca_dirtySlotOfLowestBlock_9 rfl (lv_at hl 2 rfl) ?_
        refine kx_get S hw fg_Ca_18 0 rfl rfl d_Ca_dirtySlotOfLowestBlock_10 ?_
        refine lv_iload_n hx hb d_Ca_dirtySlotOfLowestBlock_13 rfl (lv_at hl 0 rfl) ?_
        refine kx_zald S hw 3 1 rfl rfl (j := 2) (by decide) (by unfold vp_in; decide) d_Ca_dirtySlotOfLowestBlock_14 ?_
        refine lv_if_eq (tgt := 40) hx hb d_Ca_dirtySlotOfLowestBlock_15 (by decide) (fun h10 => ?_) (fun h10 => ?_)
        · refine lv_iinc (v := 3) (k := 0) (lv' := [(2, .int 3), (1, .int 0), (0, .ref h)]) hx hb d_Ca_dirtySlotOfLowestBlock_40 hl rfl (by decide) (by decide) rfl (fun ls hl => ?_)
          refine lv_goto (tgt := 4) hx hb d_Ca_dirtySlotOfLowestBlock_43 (by decide) ?_
          refine lv_iload_n hx hb d_Ca_dirtySlotOfLowestBlock_4 rfl (lv_at hl 0 rfl) ?_
          refine lv_iconst (v := 3) hx hb d_Ca_dirtySlotOfLowestBlock_5 (by decide) ?_
          refine lv_icmp_ge (tgt := 46) hx hb d_Ca_dirtySlotOfLowestBlock_6 (by decide) (fun _ => ?_) (fun h => absurd h (by decide))
          refine lv_iload_n hx hb d_Ca_dirtySlotOfLowestBlock_46 rfl (lv_at hl 1 rfl) ?_
          exact kx_ret_i I rfl hw () (by simp only [f_Ca_dirtySlotOfLowestBlock, if_neg h1, if_neg h6, if_pos h9, if_pos h10]) [0, 1, 2, 3, 4] (by decide) rfl d_Ca_dirtySlotOfLowestBlock_47
        · refine lv_iload_n hx hb d_Ca_dirtySlotOfLowestBlock_18 rfl (lv_at hl 1 rfl) ?_
          refine lv_iconst (v := (-1)) hx hb d_Ca_dirtySlotOfLowestBlock_19 (by decide) ?_
          refine lv_icmp_eq (tgt := 38) hx hb d_Ca_dirtySlotOfLowestBlock_20 (by decide) (fun h => absurd h (by decide)) (fun _ => ?_)
          refine lv_aload_n hx hb d_Ca_dirtySlotOfLowestBlock_23 rfl (lv_at hl 2 rfl) ?_
          refine kx_get S hw fg_Ca_9 0 rfl rfl d_Ca_dirtySlotOfLowestBlock_24 ?_
          refine lv_iload_n hx hb d_Ca_dirtySlotOfLowestBlock_27 rfl (lv_at hl 0 rfl) ?_
          refine kx_iald S hw 1 0 rfl rfl (j := 2) (by decide) (by unfold vp_in; decide) d_Ca_dirtySlotOfLowestBlock_28 ?_
          refine lv_aload_n hx hb d_Ca_dirtySlotOfLowestBlock_29 rfl (lv_at hl 2 rfl) ?_
          refine kx_get S hw fg_Ca_9 0 rfl rfl d_Ca_dirtySlotOfLowestBlock_30 ?_
          refine lv_iload_n hx hb d_Ca_dirtySlotOfLowestBlock_33 rfl (lv_at hl 1 rfl) ?_
          refine kx_iald S hw 1 0 rfl rfl (j := 0) (by decide) (by unfold vp_in; decide) d_Ca_dirtySlotOfLowestBlock_34 ?_
          refine lv_icmp_ge (tgt := 40) hx hb d_Ca_dirtySlotOfLowestBlock_35 (by decide) (fun h11 => ?_) (fun h11 => ?_)
          · refine lv_iinc (v := 3) (k := 0) (lv' := [(2, .int 3), (1, .int 0), (0, .ref h)]) hx hb d_Ca_dirtySlotOfLowestBlock_40 hl rfl (by decide) (by decide) rfl (fun ls hl => ?_)
            refine lv_goto (tgt := 4) hx hb d_Ca_dirtySlotOfLowestBlock_43 (by decide) ?_
            refine lv_iload_n hx hb d_Ca_dirtySlotOfLowestBlock_4 rfl (lv_at hl 0 rfl) ?_
            refine lv_iconst (v := 3) hx hb d_Ca_dirtySlotOfLowestBlock_5 (by decide) ?_
            refine lv_icmp_ge (tgt := 46) hx hb d_Ca_dirtySlotOfLowestBlock_6 (by decide) (fun _ => ?_) (fun h => absurd h (by decide))
            refine lv_iload_n hx hb d_Ca_dirtySlotOfLowestBlock_46 rfl (lv_at hl 1 rfl) ?_
            exact kx_ret_i I rfl hw () (by simp only [f_Ca_dirtySlotOfLowestBlock, if_neg h1, if_neg h6, if_pos h9, if_neg h10, if_pos h11]) [0, 1, 2, 3, 4] (by decide) rfl d_Ca_dirtySlotOfLowestBlock_47
          · refine lv_iload_n hx hb d_Ca_dirtySlotOfLowestBlock_38 rfl (lv_at hl 0 rfl) ?_
            refine lv_istore_n (lv' := [(1, .int 2), (2, .int 2), (0, .ref h)]) hx hb d_Ca_dirtySlotOfLowestBlock_39 rfl hl (by decide) rfl (fun ls hl => ?_)
            refine lv_iinc (v := 3) (k := 1) (lv' := [(2, .int 3), (1, .int 2), (0, .ref h)]) hx hb d_Ca_dirtySlotOfLowestBlock_40 hl rfl (by decide) (by decide) rfl (fun ls hl => ?_)
            refine lv_goto (tgt := 4) hx hb d_Ca_dirtySlotOfLowestBlock_43 (by decide) ?_
            refine lv_iload_n hx hb d_Ca_dirtySlotOfLowestBlock_4 rfl (lv_at hl 0 rfl) ?_
            refine lv_iconst (v := 3) hx hb d_Ca_dirtySlotOfLowestBlock_5 (by decide) ?_
            refine lv_icmp_ge (tgt := 46) hx hb d_Ca_dirtySlotOfLowestBlock_6 (by decide) (fun _ => ?_) (fun h => absurd h (by decide))
            refine lv_iload_n hx hb d_Ca_dirtySlotOfLowestBlock_46 rfl (lv_at hl 1 rfl) ?_
            exact kx_ret_i I rfl hw () (by simp only [f_Ca_dirtySlotOfLowestBlock, if_neg h1, if_neg h6, if_pos h9, if_neg h10, if_neg h11]) [0, 1, 2, 3, 4] (by decide) rfl d_Ca_dirtySlotOfLowestBlock_47
      · refine lv_iload_n hx hb d_Ca_dirtySlotOfLowestBlock_38 rfl (lv_at hl 0 rfl) ?_
        refine lv_istore_n (lv' := [(1, .int 1), (2, .int 1), (0, .ref h)]) hx hb d_Ca_dirtySlotOfLowestBlock_39 rfl hl (by decide) rfl (fun ls hl => ?_)
        refine lv_iinc (v := 2) (k := 1) (lv' := [(2, .int 2), (1, .int 1), (0, .ref h)]) hx hb d_Ca_dirtySlotOfLowestBlock_40 hl rfl (by decide) (by decide) rfl (fun ls hl => ?_)
        refine lv_goto (tgt := 4) hx hb d_Ca_dirtySlotOfLowestBlock_43 (by decide) ?_
        refine lv_iload_n hx hb d_Ca_dirtySlotOfLowestBlock_4 rfl (lv_at hl 0 rfl) ?_
        refine lv_iconst (v := 3) hx hb d_Ca_dirtySlotOfLowestBlock_5 (by decide) ?_
        refine lv_icmp_ge (tgt := 46) hx hb d_Ca_dirtySlotOfLowestBlock_6 (by decide) (fun h => absurd h (by decide)) (fun _ => ?_)
        refine lv_aload_n hx hb d_Ca_dirtySlotOfLowestBlock_9 rfl (lv_at hl 2 rfl) ?_
        refine kx_get S hw fg_Ca_18 0 rfl rfl d_Ca_dirtySlotOfLowestBlock_10 ?_
        refine lv_iload_n hx hb d_Ca_dirtySlotOfLowestBlock_13 rfl (lv_at hl 0 rfl) ?_
        refine kx_zald S hw 3 1 rfl rfl (j := 2) (by decide) (by unfold vp_in; decide) d_Ca_dirtySlotOfLowestBlock_14 ?_
        refine lv_if_eq (tgt := 40) hx hb d_Ca_dirtySlotOfLowestBlock_15 (by decide) (fun h12 => ?_) (fun h12 => ?_)
        · refine lv_iinc (v := 3) (k := 0) (lv' := [(2, .int 3), (1, .int 1), (0, .ref h)]) hx hb d_Ca_dirtySlotOfLowestBlock_40 hl rfl (by decide) (by decide) rfl (fun ls hl => ?_)
          refine lv_goto (tgt := 4) hx hb d_Ca_dirtySlotOfLowestBlock_43 (by decide) ?_
          refine lv_iload_n hx hb d_Ca_dirtySlotOfLowestBlock_4 rfl (lv_at hl 0 rfl) ?_
          refine lv_iconst (v := 3) hx hb d_Ca_dirtySlotOfLowestBlock_5 (by decide) ?_
          refine lv_icmp_ge (tgt := 46) hx hb d_Ca_dirtySlotOfLowestBlock_6 (by decide) (fun _ => ?_) (fun h => absurd h (by decide))
          refine lv_iload_n hx hb d_Ca_dirtySlotOfLowestBlock_46 rfl (lv_at hl 1 rfl) ?_
          exact kx_ret_i I rfl hw () (by simp only [f_Ca_dirtySlotOfLowestBlock, if_neg h1, if_neg h6, if_neg h9, if_pos h12]) [0, 1, 2, 3, 4] (by decide) rfl d_Ca_dirtySlotOfLowestBlock_47
        · refine lv_iload_n hx hb d_Ca_dirtySlotOfLowestBlock_18 rfl (lv_at hl 1 rfl) ?_
          refine lv_iconst (v := (-1)) hx hb d_Ca_dirtySlotOfLowestBlock_19 (by decide) ?_
          refine lv_icmp_eq (tgt := 38) hx hb d_Ca_dirtySlotOfLowestBlock_20 (by decide) (fun h => absurd h (by decide)) (fun _ => ?_)
          refine lv_aload_n hx hb d_Ca_dirtySlotOfLowestBlock_23 rfl (lv_at hl 2 rfl) ?_
          refine kx_get S hw fg_Ca_9 0 rfl rfl d_Ca_dirtySlotOfLowestBlock_24 ?_
          refine lv_iload_n hx hb d_Ca_dirtySlotOfLowestBlock_27 rfl (lv_at hl 0 rfl) ?_
          refine kx_iald S hw 1 0 rfl rfl (j := 2) (by decide) (by unfold vp_in; decide) d_Ca_dirtySlotOfLowestBlock_28 ?_
          refine lv_aload_n hx hb d_Ca_dirtySlotOfLowestBlock_29 rfl (lv_at hl 2 rfl) ?_
          refine kx_get S hw fg_Ca_9 0 rfl rfl d_Ca_dirtySlotOfLowestBlock_30 ?_
          refine lv_iload_n hx hb d_Ca_dirtySlotOfLowestBlock_33 rfl (lv_at hl 1 rfl) ?_
          refine kx_iald S hw 1 0 rfl rfl (j := 1) (by decide) (by unfold vp_in; decide) d_Ca_dirtySlotOfLowestBlock_34 ?_
          refine lv_icmp_ge (tgt := 40) hx hb d_Ca_dirtySlotOfLowestBlock_35 (by decide) (fun h13 => ?_) (fun h13 => ?_)
          · refine lv_iinc (v := 3) (k := 0) (lv' := [(2, .int 3), (1, .int 1), (0, .ref h)]) hx hb d_Ca_dirtySlotOfLowestBlock_40 hl rfl (by decide) (by decide) rfl (fun ls hl => ?_)
            refine lv_goto (tgt := 4) hx hb d_Ca_dirtySlotOfLowestBlock_43 (by decide) ?_
            refine lv_iload_n hx hb d_Ca_dirtySlotOfLowestBlock_4 rfl (lv_at hl 0 rfl) ?_
            refine lv_iconst (v := 3) hx hb d_Ca_dirtySlotOfLowestBlock_5 (by decide) ?_
            refine lv_icmp_ge (tgt := 46) hx hb d_Ca_dirtySlotOfLowestBlock_6 (by decide) (fun _ => ?_) (fun h => absurd h (by decide))
            refine lv_iload_n hx hb d_Ca_dirtySlotOfLowestBlock_46 rfl (lv_at hl 1 rfl) ?_
            exact kx_ret_i I rfl hw () (by simp only [f_Ca_dirtySlotOfLowestBlock, if_neg h1, if_neg h6, if_neg h9, if_neg h12, if_pos h13]) [0, 1, 2, 3, 4] (by decide) rfl d_Ca_dirtySlotOfLowestBlock_47
          · refine lv_iload_n hx hb d_Ca_dirtySlotOfLowestBlock_38 rfl (lv_at hl 0 rfl) ?_
            refine lv_istore_n (lv' := [(1, .int 2), (2, .int 2), (0, .ref h)]) hx hb d_Ca_dirtySlotOfLowestBlock_39 rfl hl (by decide) rfl (fun ls hl => ?_)
            refine lv_iinc (v := 3) (k := 1) (lv' := [(2, .int 3), (1, .int 2), (0, .ref h)]) hx hb d_Ca_dirtySlotOfLowestBlock_40 hl rfl (by decide) (by decide) rfl (fun ls hl => ?_)
            refine lv_goto (tgt := 4) hx hb d_Ca_dirtySlotOfLowestBlock_43 (by decide) ?_
            refine lv_iload_n hx hb d_Ca_dirtySlotOfLowestBlock_4 rfl (lv_at hl 0 rfl) ?_
            refine lv_iconst (v := 3) hx hb d_Ca_dirtySlotOfLowestBlock_5 (by decide) ?_
            refine lv_icmp_ge (tgt := 46) hx hb d_Ca_dirtySlotOfLowestBlock_6 (by decide) (fun _ => ?_) (fun h => absurd h (by decide))
            refine lv_iload_n hx hb d_Ca_dirtySlotOfLowestBlock_46 rfl (lv_at hl 1 rfl) ?_
            exact kx_ret_i I rfl hw () (by simp only [f_Ca_dirtySlotOfLowestBlock, if_neg h1, if_neg h6, if_neg h9, if_neg h12, if_neg h13]) [0, 1, 2, 3, 4] (by decide) rfl d_Ca_dirtySlotOfLowestBlock_47
def f_Ca_hold (c : kt_Ca) (s : Int32) (b : Int32) (v : Int32) (z : Int32) : kt_Ca :=
  (upd c.1 s.toNatClampNeg b, upd c.2.1 s.toNatClampNeg v, upd c.2.2.1 s.toNatClampNeg z, c.2.2.2)
set_option maxHeartbeats 4000000 in
set_option maxRecDepth 100000 in
theorem c_Ca_hold (l : Launch) (D : va_G) (cI cZ cO : ClassId) (h : Nat) (a0 : Nat) (a1 : Nat) (a2 : Nat) (a3 : Nat) (c : kt_Ca) (s : Int32) (b : Int32) (v : Int32) (z : Int32) (hs : vp_in s 3) (bz : kx_b z) : kx_Cv (S := kt_Ca) l y_Ca_hold b_Ca_hold 5 0 0 0 D (kx_T cI cZ cO) [.ref h, .int s, .int b, .int v, .int z] [(h, .inr (5, [.ref a0, .ref a1, .ref a2, .ref a3])), (a0, .inl (cI, 3, .inl c.1)), (a1, .inl (cI, 3, .inl c.2.1)), (a2, .inl (cZ, 3, .inl c.2.2.1)), (a3, .inl (cI, 3, .inl c.2.2.2))] (fun zz => zz = f_Ca_hold c s b v z) (fun zz => [(h, .inr (5, [.ref a0, .ref a1, .ref a2, .ref a3])), (a0, .inl (cI, 3, .inl zz.1)), (a1, .inl (cI, 3, .inl zz.2.1)), (a2, .inl (cZ, 3, .inl zz.2.2.1)), (a3, .inl (cI, 3, .inl zz.2.2.2))]) := by
  refine kx_enter_v (by decide) (Nat.le_of_ble_eq_true rfl) ?_
  intro p_ e_ s_ m_ below_ meth_ c_ ls A_ H I hl hw
  have S := I.1
  have hx := S.1
  have hb := S.2.1
  have hl : lv_has ls 5 [(0, .ref h), (1, .int s), (2, .int b), (3, .int v), (4, .int z)] := hl
  refine lv_aload_n hx hb d_Ca_hold_0 rfl (lv_at hl 0 rfl) ?_
  refine kx_get S hw fg_Ca_9 0 rfl rfl d_Ca_hold_1 ?_
  refine lv_iload_n hx hb d_Ca_hold_4 rfl (lv_at hl 1 rfl) ?_
  refine lv_iload_n hx hb d_Ca_hold_5 rfl (lv_at hl 2 rfl) ?_
  refine kx_iast S hw 1 0 rfl rfl (j := s.toNatClampNeg) rfl (hs) d_Ca_hold_6 (fun H locs hw => ?_)
  have hw : kx_w D (kx_T cI cZ cO) A_ s_ [(h, .inr (5, [.ref a0, .ref a1, .ref a2, .ref a3])), (a0, .inl (cI, 3, .inl (upd c.1 s.toNatClampNeg b))), (a1, .inl (cI, 3, .inl c.2.1)), (a2, .inl (cZ, 3, .inl c.2.2.1)), (a3, .inl (cI, 3, .inl c.2.2.2))] H locs := hw
  refine lv_aload_n hx hb d_Ca_hold_7 rfl (lv_at hl 0 rfl) ?_
  refine kx_get S hw fg_Ca_15 0 rfl rfl d_Ca_hold_8 ?_
  refine lv_iload_n hx hb d_Ca_hold_11 rfl (lv_at hl 1 rfl) ?_
  refine lv_iload_n hx hb d_Ca_hold_12 rfl (lv_at hl 3 rfl) ?_
  refine kx_iast S hw 2 0 rfl rfl (j := s.toNatClampNeg) rfl (hs) d_Ca_hold_13 (fun H locs hw => ?_)
  have hw : kx_w D (kx_T cI cZ cO) A_ s_ [(h, .inr (5, [.ref a0, .ref a1, .ref a2, .ref a3])), (a0, .inl (cI, 3, .inl (upd c.1 s.toNatClampNeg b))), (a1, .inl (cI, 3, .inl (upd c.2.1 s.toNatClampNeg v))), (a2, .inl (cZ, 3, .inl c.2.2.1)), (a3, .inl (cI, 3, .inl c.2.2.2))] H locs := hw
  refine lv_aload_n hx hb d_Ca_hold_14 rfl (lv_at hl 0 rfl) ?_
  refine kx_get S hw fg_Ca_18 0 rfl rfl d_Ca_hold_15 ?_
  refine lv_iload_n hx hb d_Ca_hold_18 rfl (lv_at hl 1 rfl) ?_
  refine lv_iload hx hb d_Ca_hold_19 (lv_at hl 4 rfl) ?_
  refine kx_zast S hw 3 1 rfl rfl (j := s.toNatClampNeg) rfl bz.vnar (hs) d_Ca_hold_21 (fun H locs hw => ?_)
  have hw : kx_w D (kx_T cI cZ cO) A_ s_ [(h, .inr (5, [.ref a0, .ref a1, .ref a2, .ref a3])), (a0, .inl (cI, 3, .inl (upd c.1 s.toNatClampNeg b))), (a1, .inl (cI, 3, .inl (upd c.2.1 s.toNatClampNeg v))), (a2, .inl (cZ, 3, .inl (upd c.2.2.1 s.toNatClampNeg z))), (a3, .inl (cI, 3, .inl c.2.2.2))] H locs := hw
  exact kx_ret_v I rfl hw (upd c.1 s.toNatClampNeg b, upd c.2.1 s.toNatClampNeg v, upd c.2.2.1 s.toNatClampNeg z, c.2.2.2) (by simp only [f_Ca_hold]) [0, 1, 2, 3, 4] (by decide) rfl d_Ca_hold_22
def f_Ca_empty (c : kt_Ca) (s : Int32) : kt_Ca :=
  match f_Ca_hold c s (-1) 0 0 with
  | c1 => c1
set_option maxHeartbeats 4000000 in
set_option maxRecDepth 100000 in
theorem c_Ca_empty (l : Launch) (D : va_G) (cI cZ cO : ClassId) (h : Nat) (a0 : Nat) (a1 : Nat) (a2 : Nat) (a3 : Nat) (c : kt_Ca) (s : Int32) (hs : vp_in s 3) : kx_Cv (S := kt_Ca) l y_Ca_empty b_Ca_empty 2 1 0 0 D (kx_T cI cZ cO) [.ref h, .int s] [(h, .inr (5, [.ref a0, .ref a1, .ref a2, .ref a3])), (a0, .inl (cI, 3, .inl c.1)), (a1, .inl (cI, 3, .inl c.2.1)), (a2, .inl (cZ, 3, .inl c.2.2.1)), (a3, .inl (cI, 3, .inl c.2.2.2))] (fun zz => zz = f_Ca_empty c s) (fun zz => [(h, .inr (5, [.ref a0, .ref a1, .ref a2, .ref a3])), (a0, .inl (cI, 3, .inl zz.1)), (a1, .inl (cI, 3, .inl zz.2.1)), (a2, .inl (cZ, 3, .inl zz.2.2.1)), (a3, .inl (cI, 3, .inl zz.2.2.2))]) := by
  refine kx_enter_v (by decide) (Nat.le_of_ble_eq_true rfl) ?_
  intro p_ e_ s_ m_ below_ meth_ c_ ls A_ H I hl hw
  have S := I.1
  have hx := S.1
  have hb := S.2.1
  have hl : lv_has ls 2 [(0, .ref h), (1, .int s)] := hl
  refine lv_aload_n hx hb d_Ca_empty_0 rfl (lv_at hl 0 rfl) ?_
  refine lv_iload_n hx hb d_Ca_empty_1 rfl (lv_at hl 1 rfl) ?_
  refine lv_iconst (v := (-1)) hx hb d_Ca_empty_2 (by decide) ?_
  refine lv_iconst (v := 0) hx hb d_Ca_empty_3 (by decide) ?_
  refine lv_iconst (v := 0) hx hb d_Ca_empty_4 (by decide) ?_
  refine kx_call_v (wc := [(h, .inr (5, [.ref a0, .ref a1, .ref a2, .ref a3])), (a0, .inl (cI, 3, .inl c.1)), (a1, .inl (cI, 3, .inl c.2.1)), (a2, .inl (cZ, 3, .inl c.2.2.1)), (a3, .inl (cI, 3, .inl c.2.2.2))]) (wr := []) (rest := []) hw [0, 1, 2, 3, 4] [] rfl rfl (by decide) (by decide) (kx_runV S hw fc_Ca_35 rfl 0 rfl [0, 1, 2, 3, 4] (by decide) rfl (c_Ca_hold l D cI cZ cO h a0 a1 a2 a3 c s (-1) 0 0 (hs) (Or.inl rfl) H.size) rfl hl.1 rfl (Nat.le_of_ble_eq_true rfl) d_Ca_empty_5 (by decide) (by decide)) (fun u1 H locs hp1 hw => ?_)
  obtain ⟨c1, rfl⟩ : ∃ z, z = u1 := ⟨_, rfl⟩
  have hw : kx_w D (kx_T cI cZ cO) A_ s_ [(h, .inr (5, [.ref a0, .ref a1, .ref a2, .ref a3])), (a0, .inl (cI, 3, .inl c1.1)), (a1, .inl (cI, 3, .inl c1.2.1)), (a2, .inl (cZ, 3, .inl c1.2.2.1)), (a3, .inl (cI, 3, .inl c1.2.2.2))] H locs := hw
  exact kx_ret_v I rfl hw c1 (by simp only [f_Ca_empty, ← hp1]) [0, 1, 2, 3, 4] (by decide) rfl d_Ca_empty_8
