theorem mm_75 : Cond.fieldLinkNest "RebornDrivers" 162 "RebornDrivers$Request" "kind" "I" "RebornDrivers" ∈ kx_nl := List.mem_filter.mpr ⟨List.mem_append_right _ (List.mem_of_getElem? (i := 75) (by decide +kernel)), by decide +kernel⟩
theorem mm_76 : Cond.fieldLinkNest "RebornDrivers" 165 "RebornDrivers$Request" "block" "I" "RebornDrivers" ∈ kx_nl := List.mem_filter.mpr ⟨List.mem_append_right _ (List.mem_of_getElem? (i := 76) (by decide +kernel)), by decide +kernel⟩
theorem mm_77 : Cond.fieldLinkNest "RebornDrivers" 171 "RebornDrivers$Request" "slot" "I" "RebornDrivers" ∈ kx_nl := List.mem_filter.mpr ⟨List.mem_append_right _ (List.mem_of_getElem? (i := 77) (by decide +kernel)), by decide +kernel⟩
theorem mm_168 : Cond.fieldLink "RebornDrivers" 168 "RebornDrivers" "buffer" "I" ∈ kx_tbl := List.mem_filter.mpr ⟨List.mem_append_right _ (List.mem_of_getElem? (i := 168) (by decide +kernel)), by decide +kernel⟩
theorem mm_252 : Cond.code ⟨"RebornDrivers$Driver", "takeStep", "()I"⟩ prog_3_method_6_code 2 (some .int) ∈ kx_tbl := List.mem_filter.mpr ⟨List.mem_append_right _ (List.mem_of_getElem? (i := 252) (by decide +kernel)), by decide +kernel⟩
theorem mm_249 : Cond.methodLinkNest "RebornDrivers" 153 ⟨"RebornDrivers$Driver", "takeStep", "()I"⟩ "RebornDrivers" ∈ kx_nl := List.mem_filter.mpr ⟨List.mem_append_right _ (List.mem_of_getElem? (i := 249) (by decide +kernel)), by decide +kernel⟩
theorem mm_251 : Cond.instanceMethod ⟨"RebornDrivers$Driver", "takeStep", "()I"⟩ ∈ kx_tbl := List.mem_filter.mpr ⟨List.mem_append_right _ (List.mem_of_getElem? (i := 251) (by decide +kernel)), by decide +kernel⟩
theorem mm_82 : Cond.fieldLinkNest "RebornDrivers" 159 "RebornDrivers$Request" "answered" "Z" "RebornDrivers" ∈ kx_nl := List.mem_filter.mpr ⟨List.mem_append_right _ (List.mem_of_getElem? (i := 82) (by decide +kernel)), by decide +kernel⟩
theorem mm_264 : Cond.code ⟨"RebornDrivers", "moveBlock", "()V"⟩ prog_1_method_23_code 1 none ∈ kx_tbl := List.mem_filter.mpr ⟨List.mem_append_right _ (List.mem_of_getElem? (i := 264) (by decide +kernel)), by decide +kernel⟩
theorem mm_261 : Cond.methodLink "RebornDrivers" 156 ⟨"RebornDrivers", "moveBlock", "()V"⟩ ∈ kx_tbl := List.mem_filter.mpr ⟨List.mem_append_right _ (List.mem_of_getElem? (i := 261) (by decide +kernel)), by decide +kernel⟩
theorem mm_263 : Cond.instanceMethod ⟨"RebornDrivers", "moveBlock", "()V"⟩ ∈ kx_tbl := List.mem_filter.mpr ⟨List.mem_append_right _ (List.mem_of_getElem? (i := 263) (by decide +kernel)), by decide +kernel⟩
theorem mm_78 : Cond.fieldLinkNest "RebornDrivers" 174 "RebornDrivers$Request" "character" "I" "RebornDrivers" ∈ kx_nl := List.mem_filter.mpr ⟨List.mem_append_right _ (List.mem_of_getElem? (i := 78) (by decide +kernel)), by decide +kernel⟩
theorem mm_272 : Cond.code ⟨"RebornDrivers", "putOutCharacter", "(I)V"⟩ prog_1_method_25_code 2 none ∈ kx_tbl := List.mem_filter.mpr ⟨List.mem_append_right _ (List.mem_of_getElem? (i := 272) (by decide +kernel)), by decide +kernel⟩
theorem mm_269 : Cond.methodLink "RebornDrivers" 177 ⟨"RebornDrivers", "putOutCharacter", "(I)V"⟩ ∈ kx_tbl := List.mem_filter.mpr ⟨List.mem_append_right _ (List.mem_of_getElem? (i := 269) (by decide +kernel)), by decide +kernel⟩
theorem mm_271 : Cond.instanceMethod ⟨"RebornDrivers", "putOutCharacter", "(I)V"⟩ ∈ kx_tbl := List.mem_filter.mpr ⟨List.mem_append_right _ (List.mem_of_getElem? (i := 271) (by decide +kernel)), by decide +kernel⟩
theorem mm_300 : Cond.code ⟨"RebornDrivers$Request", "close", "()V"⟩ prog_6_method_4_code 1 none ∈ kx_tbl := List.mem_filter.mpr ⟨List.mem_append_right _ (List.mem_of_getElem? (i := 300) (by decide +kernel)), by decide +kernel⟩
theorem mm_297 : Cond.methodLinkNest "RebornDrivers" 215 ⟨"RebornDrivers$Request", "close", "()V"⟩ "RebornDrivers" ∈ kx_nl := List.mem_filter.mpr ⟨List.mem_append_right _ (List.mem_of_getElem? (i := 297) (by decide +kernel)), by decide +kernel⟩
theorem mm_299 : Cond.instanceMethod ⟨"RebornDrivers$Request", "close", "()V"⟩ ∈ kx_tbl := List.mem_filter.mpr ⟨List.mem_append_right _ (List.mem_of_getElem? (i := 299) (by decide +kernel)), by decide +kernel⟩
theorem mm_293 : Cond.methodLinkNest "RebornDrivers" 211 ⟨"RebornDrivers$Cache", "hold", "(IIIZ)V"⟩ "RebornDrivers" ∈ kx_nl := List.mem_filter.mpr ⟨List.mem_append_right _ (List.mem_of_getElem? (i := 293) (by decide +kernel)), by decide +kernel⟩
theorem mm_332 : Cond.code ⟨"RebornDrivers$Request", "open", "(I)V"⟩ prog_6_method_3_code 2 none ∈ kx_tbl := List.mem_filter.mpr ⟨List.mem_append_right _ (List.mem_of_getElem? (i := 332) (by decide +kernel)), by decide +kernel⟩
theorem mm_329 : Cond.methodLinkNest "RebornDrivers" 258 ⟨"RebornDrivers$Request", "open", "(I)V"⟩ "RebornDrivers" ∈ kx_nl := List.mem_filter.mpr ⟨List.mem_append_right _ (List.mem_of_getElem? (i := 329) (by decide +kernel)), by decide +kernel⟩
theorem mm_331 : Cond.instanceMethod ⟨"RebornDrivers$Request", "open", "(I)V"⟩ ∈ kx_tbl := List.mem_filter.mpr ⟨List.mem_append_right _ (List.mem_of_getElem? (i := 331) (by decide +kernel)), by decide +kernel⟩
theorem mm_288 : Cond.code ⟨"RebornDrivers$Request", "giveTo", "(LRebornDrivers$Driver;)V"⟩ prog_6_method_6_code 2 none ∈ kx_tbl := List.mem_filter.mpr ⟨List.mem_append_right _ (List.mem_of_getElem? (i := 288) (by decide +kernel)), by decide +kernel⟩
theorem mm_285 : Cond.methodLinkNest "RebornDrivers" 191 ⟨"RebornDrivers$Request", "giveTo", "(LRebornDrivers$Driver;)V"⟩ "RebornDrivers" ∈ kx_nl := List.mem_filter.mpr ⟨List.mem_append_right _ (List.mem_of_getElem? (i := 285) (by decide +kernel)), by decide +kernel⟩
theorem mm_287 : Cond.instanceMethod ⟨"RebornDrivers$Request", "giveTo", "(LRebornDrivers$Driver;)V"⟩ ∈ kx_tbl := List.mem_filter.mpr ⟨List.mem_append_right _ (List.mem_of_getElem? (i := 287) (by decide +kernel)), by decide +kernel⟩
theorem fg_RD_162 : kx_f "RebornDrivers" 162 4 0 := ⟨R_Rq, F_Rq, 7, rfl, by decide, in_Rq, Or.inr ⟨_, mm_75⟩⟩
theorem fg_RD_165 : kx_f "RebornDrivers" 165 4 1 := ⟨R_Rq, F_Rq, 7, rfl, by decide, in_Rq, Or.inr ⟨_, mm_76⟩⟩
theorem fg_RD_171 : kx_f "RebornDrivers" 171 4 2 := ⟨R_Rq, F_Rq, 7, rfl, by decide, in_Rq, Or.inr ⟨_, mm_77⟩⟩
theorem fp_RD_168 : kx_q "RebornDrivers" 168 0 12 (.int) := ⟨R_RD, F_RD, 14, t_RD, rfl, by decide, in_RD, Or.inl mm_168, t_RD_ok, n_RD, rfl, by decide +kernel⟩
theorem sel_Dr_takeStep : Cond.selects "RebornDrivers$Driver" y_Dr_takeStep y_Dr_takeStep ∈ kx_tbl := List.mem_filter.mpr ⟨List.mem_append_left _ (by decide +kernel), by decide +kernel⟩
theorem fc_RD_153 : kx_m "RebornDrivers" 153 y_Dr_takeStep b_Dr_takeStep 2 (some .int) 0 ∧ Cond.instanceMethod y_Dr_takeStep ∈ kx_tbl ∧ Cond.selects "RebornDrivers$Driver" y_Dr_takeStep y_Dr_takeStep ∈ kx_tbl := ⟨⟨mm_252, mm_3, by decide +kernel, Or.inr ⟨_, mm_249⟩⟩, mm_251, sel_Dr_takeStep⟩
theorem fp_RD_159 : kx_q "RebornDrivers" 159 4 5 (.boolean) := ⟨R_Rq, F_Rq, 7, t_Rq, rfl, by decide, in_Rq, Or.inr ⟨_, mm_82⟩, t_Rq_ok, n_Rq, rfl, by decide +kernel⟩
theorem sel_RD_moveBlock : Cond.selects "RebornDrivers" y_RD_moveBlock y_RD_moveBlock ∈ kx_tbl := List.mem_filter.mpr ⟨List.mem_append_left _ (by decide +kernel), by decide +kernel⟩
theorem fc_RD_156 : kx_m "RebornDrivers" 156 y_RD_moveBlock b_RD_moveBlock 1 none 0 ∧ Cond.instanceMethod y_RD_moveBlock ∈ kx_tbl ∧ Cond.selects "RebornDrivers" y_RD_moveBlock y_RD_moveBlock ∈ kx_tbl := ⟨⟨mm_264, mm_1, by decide +kernel, Or.inl mm_261⟩, mm_263, sel_RD_moveBlock⟩
theorem fp_RD_131 : kx_q "RebornDrivers" 131 0 11 (.int) := ⟨R_RD, F_RD, 14, t_RD, rfl, by decide, in_RD, Or.inl mm_167, t_RD_ok, n_RD, rfl, by decide +kernel⟩
theorem fg_RD_174 : kx_f "RebornDrivers" 174 4 3 := ⟨R_Rq, F_Rq, 7, rfl, by decide, in_Rq, Or.inr ⟨_, mm_78⟩⟩
theorem sel_RD_putOutCharacter : Cond.selects "RebornDrivers" y_RD_putOutCharacter y_RD_putOutCharacter ∈ kx_tbl := List.mem_filter.mpr ⟨List.mem_append_left _ (by decide +kernel), by decide +kernel⟩
theorem fc_RD_177 : kx_m "RebornDrivers" 177 y_RD_putOutCharacter b_RD_putOutCharacter 2 none 1 ∧ Cond.instanceMethod y_RD_putOutCharacter ∈ kx_tbl ∧ Cond.selects "RebornDrivers" y_RD_putOutCharacter y_RD_putOutCharacter ∈ kx_tbl := ⟨⟨mm_272, mm_1, by decide +kernel, Or.inl mm_269⟩, mm_271, sel_RD_putOutCharacter⟩
theorem sel_Rq_close : Cond.selects "RebornDrivers$Request" y_Rq_close y_Rq_close ∈ kx_tbl := List.mem_filter.mpr ⟨List.mem_append_left _ (by decide +kernel), by decide +kernel⟩
theorem fc_RD_215 : kx_m "RebornDrivers" 215 y_Rq_close b_Rq_close 1 none 0 ∧ Cond.instanceMethod y_Rq_close ∈ kx_tbl ∧ Cond.selects "RebornDrivers$Request" y_Rq_close y_Rq_close ∈ kx_tbl := ⟨⟨mm_300, mm_4, by decide +kernel, Or.inr ⟨_, mm_297⟩⟩, mm_299, sel_Rq_close⟩
theorem fg_RD_168 : kx_f "RebornDrivers" 168 0 12 := ⟨R_RD, F_RD, 14, rfl, by decide, in_RD, Or.inl mm_168⟩
theorem fc_RD_211 : kx_m "RebornDrivers" 211 y_Ca_hold b_Ca_hold 5 none 4 ∧ Cond.instanceMethod y_Ca_hold ∈ kx_tbl ∧ Cond.selects "RebornDrivers$Cache" y_Ca_hold y_Ca_hold ∈ kx_tbl := ⟨⟨mm_296, mm_5, by decide +kernel, Or.inr ⟨_, mm_293⟩⟩, mm_295, sel_Ca_hold⟩
theorem sel_Rq_open : Cond.selects "RebornDrivers$Request" y_Rq_open y_Rq_open ∈ kx_tbl := List.mem_filter.mpr ⟨List.mem_append_left _ (by decide +kernel), by decide +kernel⟩
theorem fc_RD_258 : kx_m "RebornDrivers" 258 y_Rq_open b_Rq_open 2 none 1 ∧ Cond.instanceMethod y_Rq_open ∈ kx_tbl ∧ Cond.selects "RebornDrivers$Request" y_Rq_open y_Rq_open ∈ kx_tbl := ⟨⟨mm_332, mm_4, by decide +kernel, Or.inr ⟨_, mm_329⟩⟩, mm_331, sel_Rq_open⟩
theorem fp_RD_165 : kx_q "RebornDrivers" 165 4 1 (.int) := ⟨R_Rq, F_Rq, 7, t_Rq, rfl, by decide, in_Rq, Or.inr ⟨_, mm_76⟩, t_Rq_ok, n_Rq, rfl, by decide +kernel⟩
theorem fp_RD_171 : kx_q "RebornDrivers" 171 4 2 (.int) := ⟨R_Rq, F_Rq, 7, t_Rq, rfl, by decide, in_Rq, Or.inr ⟨_, mm_77⟩, t_Rq_ok, n_Rq, rfl, by decide +kernel⟩
theorem sel_Rq_giveTo : Cond.selects "RebornDrivers$Request" y_Rq_giveTo y_Rq_giveTo ∈ kx_tbl := List.mem_filter.mpr ⟨List.mem_append_left _ (by decide +kernel), by decide +kernel⟩
theorem fc_RD_191 : kx_m "RebornDrivers" 191 y_Rq_giveTo b_Rq_giveTo 2 none 1 ∧ Cond.instanceMethod y_Rq_giveTo ∈ kx_tbl ∧ Cond.selects "RebornDrivers$Request" y_Rq_giveTo y_Rq_giveTo ∈ kx_tbl := ⟨⟨mm_288, mm_4, by decide +kernel, Or.inr ⟨_, mm_285⟩⟩, mm_287, sel_Rq_giveTo⟩
theorem fp_RD_174 : kx_q "RebornDrivers" 174 4 3 (.int) := ⟨R_Rq, F_Rq, 7, t_Rq, rfl, by decide, in_Rq, Or.inr ⟨_, mm_78⟩, t_Rq_ok, n_Rq, rfl, by decide +kernel⟩

def f_RD_moveBlock (mm : kt_M) (fr : kt_Rq) (ca : kt_Ca) (dv : (Nat → Int32)) : kt_M × (Nat → Int32) :=
  if fr.1 = 1 then ((mm.1, mm.2.1, dv fr.2.1.toNatClampNeg, mm.2.2.2), dv)
  else (mm, upd dv fr.2.1.toNatClampNeg (ca.2.1 fr.2.2.1.toNatClampNeg))
set_option maxHeartbeats 4000000 in
set_option maxRecDepth 100000 in
theorem c_RD_moveBlock (l : Launch) (D : va_G) (cI cZ cO : ClassId) (ad : Nat → Nat) (mm : kt_M) (fr : kt_Rq) (ca : kt_Ca) (dv : (Nat → Int32)) (hfr : kv_fr fr) : kx_Cv (S := kt_M × (Nat → Int32)) l y_RD_moveBlock b_RD_moveBlock 1 0 0 0 D (kx_T cI cZ cO) [.ref (ad 0)] [((ad 0), .inr (0, [.int mm.1, .ref (ad 1), .ref (ad 6), .ref (ad 8), .ref (ad 10), .ref (ad 11), .ref (ad 12), .ref (ad 13), .ref (ad 14), .ref (ad 19), .ref (ad 20), .int mm.2.1, .int mm.2.2.1, .int mm.2.2.2])), ((ad 12), .inr (4, [.int fr.1, .int fr.2.1, .int fr.2.2.1, .int fr.2.2.2.1, .int fr.2.2.2.2.1, .int fr.2.2.2.2.2.1, .int fr.2.2.2.2.2.2])), ((ad 14), .inr (5, [.ref (ad 15), .ref (ad 16), .ref (ad 17), .ref (ad 18)])), ((ad 15), .inl (cI, 3, .inl ca.1)), ((ad 16), .inl (cI, 3, .inl ca.2.1)), ((ad 17), .inl (cZ, 3, .inl ca.2.2.1)), ((ad 18), .inl (cI, 3, .inl ca.2.2.2)), ((ad 19), .inl (cI, 16, .inl dv))] (fun zz => zz = f_RD_moveBlock mm fr ca dv) (fun zz => [((ad 0), .inr (0, [.int zz.1.1, .ref (ad 1), .ref (ad 6), .ref (ad 8), .ref (ad 10), .ref (ad 11), .ref (ad 12), .ref (ad 13), .ref (ad 14), .ref (ad 19), .ref (ad 20), .int zz.1.2.1, .int zz.1.2.2.1, .int zz.1.2.2.2])), ((ad 12), .inr (4, [.int fr.1, .int fr.2.1, .int fr.2.2.1, .int fr.2.2.2.1, .int fr.2.2.2.2.1, .int fr.2.2.2.2.2.1, .int fr.2.2.2.2.2.2])), ((ad 14), .inr (5, [.ref (ad 15), .ref (ad 16), .ref (ad 17), .ref (ad 18)])), ((ad 15), .inl (cI, 3, .inl ca.1)), ((ad 16), .inl (cI, 3, .inl ca.2.1)), ((ad 17), .inl (cZ, 3, .inl ca.2.2.1)), ((ad 18), .inl (cI, 3, .inl ca.2.2.2)), ((ad 19), .inl (cI, 16, .inl zz.2))]) := by
  refine kx_enter_v (by decide) (Nat.le_of_ble_eq_true rfl) ?_
  intro p_ e_ s_ m_ below_ meth_ c_ ls A_ H I hl hw
  have S := I.1
  have hx := S.1
  have hb := S.2.1
  have hl : lv_has ls 1 [(0, .ref (ad 0))] := hl
  refine lv_aload_n hx hb d_RD_moveBlock_0 rfl (lv_at hl 0 rfl) ?_
  refine kx_get S hw fg_RD_38 0 rfl rfl d_RD_moveBlock_1 ?_
  refine kx_get S hw fg_RD_162 1 rfl rfl d_RD_moveBlock_4 ?_
  refine lv_iconst (v := 1) hx hb d_RD_moveBlock_7 (by decide) ?_
  refine lv_icmp_ne (tgt := 30) hx hb d_RD_moveBlock_8 (by decide) (fun h1 => ?_) (fun h1 => ?_)
  · refine lv_aload_n hx hb d_RD_moveBlock_30 rfl (lv_at hl 0 rfl) ?_
    refine kx_get S hw fg_RD_52 0 rfl rfl d_RD_moveBlock_31 ?_
    refine lv_aload_n hx hb d_RD_moveBlock_34 rfl (lv_at hl 0 rfl) ?_
    refine kx_get S hw fg_RD_38 0 rfl rfl d_RD_moveBlock_35 ?_
    refine kx_get S hw fg_RD_165 1 rfl rfl d_RD_moveBlock_38 ?_
    refine lv_aload_n hx hb d_RD_moveBlock_41 rfl (lv_at hl 0 rfl) ?_
    refine kx_get S hw fg_RD_48 0 rfl rfl d_RD_moveBlock_42 ?_
    refine kx_get S hw fg_RD_124 2 rfl rfl d_RD_moveBlock_45 ?_
    refine lv_aload_n hx hb d_RD_moveBlock_48 rfl (lv_at hl 0 rfl) ?_
    refine kx_get S hw fg_RD_38 0 rfl rfl d_RD_moveBlock_49 ?_
    refine kx_get S hw fg_RD_171 1 rfl rfl d_RD_moveBlock_52 ?_
    refine kx_iald S hw 4 0 rfl rfl (j := fr.2.2.1.toNatClampNeg) rfl (hfr.2) d_RD_moveBlock_55 ?_
    refine kx_iast S hw 7 0 rfl rfl (j := fr.2.1.toNatClampNeg) rfl (hfr.1) d_RD_moveBlock_56 (fun H locs hw => ?_)
    have hw : kx_w D (kx_T cI cZ cO) A_ s_ [((ad 0), .inr (0, [.int mm.1, .ref (ad 1), .ref (ad 6), .ref (ad 8), .ref (ad 10), .ref (ad 11), .ref (ad 12), .ref (ad 13), .ref (ad 14), .ref (ad 19), .ref (ad 20), .int mm.2.1, .int mm.2.2.1, .int mm.2.2.2])), ((ad 12), .inr (4, [.int fr.1, .int fr.2.1, .int fr.2.2.1, .int fr.2.2.2.1, .int fr.2.2.2.2.1, .int fr.2.2.2.2.2.1, .int fr.2.2.2.2.2.2])), ((ad 14), .inr (5, [.ref (ad 15), .ref (ad 16), .ref (ad 17), .ref (ad 18)])), ((ad 15), .inl (cI, 3, .inl ca.1)), ((ad 16), .inl (cI, 3, .inl ca.2.1)), ((ad 17), .inl (cZ, 3, .inl ca.2.2.1)), ((ad 18), .inl (cI, 3, .inl ca.2.2.2)), ((ad 19), .inl (cI, 16, .inl (upd dv fr.2.1.toNatClampNeg (ca.2.1 fr.2.2.1.toNatClampNeg))))] H locs := hw
    exact kx_ret_v I rfl hw (mm, upd dv fr.2.1.toNatClampNeg (ca.2.1 fr.2.2.1.toNatClampNeg)) (by simp only [f_RD_moveBlock, if_neg h1]) [0, 1, 2, 3, 4, 5, 6, 7] (by decide) rfl d_RD_moveBlock_57
  · refine lv_aload_n hx hb d_RD_moveBlock_11 rfl (lv_at hl 0 rfl) ?_
    refine lv_aload_n hx hb d_RD_moveBlock_12 rfl (lv_at hl 0 rfl) ?_
    refine kx_get S hw fg_RD_52 0 rfl rfl d_RD_moveBlock_13 ?_
    refine lv_aload_n hx hb d_RD_moveBlock_16 rfl (lv_at hl 0 rfl) ?_
    refine kx_get S hw fg_RD_38 0 rfl rfl d_RD_moveBlock_17 ?_
    refine kx_get S hw fg_RD_165 1 rfl rfl d_RD_moveBlock_20 ?_
    refine kx_iald S hw 7 0 rfl rfl (j := fr.2.1.toNatClampNeg) rfl (hfr.1) d_RD_moveBlock_23 ?_
    refine kx_put S hw fp_RD_168 0 rfl rfl rfl (Nat.le_of_ble_eq_true rfl) d_RD_moveBlock_24 (fun H locs hw => ?_)
    have hw : kx_w D (kx_T cI cZ cO) A_ s_ [((ad 0), .inr (0, [.int mm.1, .ref (ad 1), .ref (ad 6), .ref (ad 8), .ref (ad 10), .ref (ad 11), .ref (ad 12), .ref (ad 13), .ref (ad 14), .ref (ad 19), .ref (ad 20), .int mm.2.1, .int (dv fr.2.1.toNatClampNeg), .int mm.2.2.2])), ((ad 12), .inr (4, [.int fr.1, .int fr.2.1, .int fr.2.2.1, .int fr.2.2.2.1, .int fr.2.2.2.2.1, .int fr.2.2.2.2.2.1, .int fr.2.2.2.2.2.2])), ((ad 14), .inr (5, [.ref (ad 15), .ref (ad 16), .ref (ad 17), .ref (ad 18)])), ((ad 15), .inl (cI, 3, .inl ca.1)), ((ad 16), .inl (cI, 3, .inl ca.2.1)), ((ad 17), .inl (cZ, 3, .inl ca.2.2.1)), ((ad 18), .inl (cI, 3, .inl ca.2.2.2)), ((ad 19), .inl (cI, 16, .inl dv))] H locs := hw
    refine lv_goto (tgt := 57) hx hb d_RD_moveBlock_27 (by decide) ?_
    exact kx_ret_v I rfl hw ((mm.1, mm.2.1, dv fr.2.1.toNatClampNeg, mm.2.2.2), dv) (by simp only [f_RD_moveBlock, if_pos h1]) [0, 1, 2, 3, 4, 5, 6, 7] (by decide) rfl d_RD_moveBlock_57
def f_RD_stepDisk (mm : kt_M) (dk : kt_Dr) (fr : kt_Rq) (ca : kt_Ca) (dv : (Nat → Int32)) : kt_M × kt_Dr × kt_Rq × (Nat → Int32) :=
  match f_Dr_takeStep dk with
  | (r1, d1) => if r1 = 1 then (match f_RD_moveBlock mm fr ca dv with
      | (mm4, dv4) => (mm4, d1, fr, dv4))
    else if r1 = 2 then (mm, d1, (fr.1, fr.2.1, fr.2.2.1, fr.2.2.2.1, fr.2.2.2.2.1, 1, fr.2.2.2.2.2.2), dv)
    else (mm, d1, fr, dv)
set_option maxHeartbeats 4000000 in
set_option maxRecDepth 100000 in
theorem c_RD_stepDisk (l : Launch) (D : va_G) (cI cZ cO : ClassId) (ad : Nat → Nat) (mm : kt_M) (dk : kt_Dr) (fr : kt_Rq) (ca : kt_Ca) (dv : (Nat → Int32)) (hfr : kv_fr fr) : kx_Cv (S := kt_M × kt_Dr × kt_Rq × (Nat → Int32)) l y_RD_stepDisk b_RD_stepDisk 2 3 0 0 D (kx_T cI cZ cO) [.ref (ad 0)] [((ad 0), .inr (0, [.int mm.1, .ref (ad 1), .ref (ad 6), .ref (ad 8), .ref (ad 10), .ref (ad 11), .ref (ad 12), .ref (ad 13), .ref (ad 14), .ref (ad 19), .ref (ad 20), .int mm.2.1, .int mm.2.2.1, .int mm.2.2.2])), ((ad 10), .inr (3, [.int dk.1, .int dk.2.1, .int dk.2.2.1, .int dk.2.2.2.1, .int dk.2.2.2.2.1, .int dk.2.2.2.2.2])), ((ad 12), .inr (4, [.int fr.1, .int fr.2.1, .int fr.2.2.1, .int fr.2.2.2.1, .int fr.2.2.2.2.1, .int fr.2.2.2.2.2.1, .int fr.2.2.2.2.2.2])), ((ad 14), .inr (5, [.ref (ad 15), .ref (ad 16), .ref (ad 17), .ref (ad 18)])), ((ad 15), .inl (cI, 3, .inl ca.1)), ((ad 16), .inl (cI, 3, .inl ca.2.1)), ((ad 17), .inl (cZ, 3, .inl ca.2.2.1)), ((ad 18), .inl (cI, 3, .inl ca.2.2.2)), ((ad 19), .inl (cI, 16, .inl dv))] (fun zz => zz = f_RD_stepDisk mm dk fr ca dv) (fun zz => [((ad 0), .inr (0, [.int zz.1.1, .ref (ad 1), .ref (ad 6), .ref (ad 8), .ref (ad 10), .ref (ad 11), .ref (ad 12), .ref (ad 13), .ref (ad 14), .ref (ad 19), .ref (ad 20), .int zz.1.2.1, .int zz.1.2.2.1, .int zz.1.2.2.2])), ((ad 10), .inr (3, [.int zz.2.1.1, .int zz.2.1.2.1, .int zz.2.1.2.2.1, .int zz.2.1.2.2.2.1, .int zz.2.1.2.2.2.2.1, .int zz.2.1.2.2.2.2.2])), ((ad 12), .inr (4, [.int zz.2.2.1.1, .int zz.2.2.1.2.1, .int zz.2.2.1.2.2.1, .int zz.2.2.1.2.2.2.1, .int zz.2.2.1.2.2.2.2.1, .int zz.2.2.1.2.2.2.2.2.1, .int zz.2.2.1.2.2.2.2.2.2])), ((ad 14), .inr (5, [.ref (ad 15), .ref (ad 16), .ref (ad 17), .ref (ad 18)])), ((ad 15), .inl (cI, 3, .inl ca.1)), ((ad 16), .inl (cI, 3, .inl ca.2.1)), ((ad 17), .inl (cZ, 3, .inl ca.2.2.1)), ((ad 18), .inl (cI, 3, .inl ca.2.2.2)), ((ad 19), .inl (cI, 16, .inl zz.2.2.2))]) := by
  refine kx_enter_v (by decide) (Nat.le_of_ble_eq_true rfl) ?_
  intro p_ e_ s_ m_ below_ meth_ c_ ls A_ H I hl hw
  have S := I.1
  have hx := S.1
  have hb := S.2.1
  have hl : lv_has ls 2 [(0, .ref (ad 0))] := hl
  refine lv_aload_n hx hb d_RD_stepDisk_0 rfl (lv_at hl 0 rfl) ?_
  refine kx_get S hw fg_RD_28 0 rfl rfl d_RD_stepDisk_1 ?_
  refine kx_call_i (wc := [((ad 10), .inr (3, [.int dk.1, .int dk.2.1, .int dk.2.2.1, .int dk.2.2.2.1, .int dk.2.2.2.2.1, .int dk.2.2.2.2.2]))]) (wr := [((ad 0), .inr (0, [.int mm.1, .ref (ad 1), .ref (ad 6), .ref (ad 8), .ref (ad 10), .ref (ad 11), .ref (ad 12), .ref (ad 13), .ref (ad 14), .ref (ad 19), .ref (ad 20), .int mm.2.1, .int mm.2.2.1, .int mm.2.2.2])), ((ad 12), .inr (4, [.int fr.1, .int fr.2.1, .int fr.2.2.1, .int fr.2.2.2.1, .int fr.2.2.2.2.1, .int fr.2.2.2.2.2.1, .int fr.2.2.2.2.2.2])), ((ad 14), .inr (5, [.ref (ad 15), .ref (ad 16), .ref (ad 17), .ref (ad 18)])), ((ad 15), .inl (cI, 3, .inl ca.1)), ((ad 16), .inl (cI, 3, .inl ca.2.1)), ((ad 17), .inl (cZ, 3, .inl ca.2.2.1)), ((ad 18), .inl (cI, 3, .inl ca.2.2.2)), ((ad 19), .inl (cI, 16, .inl dv))]) (rest := []) hw [1] [0, 2, 3, 4, 5, 6, 7, 8] rfl rfl (by decide) (by decide) (kx_runV S hw fc_RD_153 rfl 1 rfl [1] (by decide) rfl (c_Dr_takeStep l D cI cZ cO (ad 10) dk H.size) rfl hl.1 rfl (Nat.le_of_ble_eq_true rfl) d_RD_stepDisk_4 (by decide) (by decide)) (fun r1 u1 H locs hp1 hw => ?_)
  obtain ⟨d1, rfl⟩ : ∃ z, z = u1 := ⟨_, rfl⟩
  have hw : kx_w D (kx_T cI cZ cO) A_ s_ [((ad 0), .inr (0, [.int mm.1, .ref (ad 1), .ref (ad 6), .ref (ad 8), .ref (ad 10), .ref (ad 11), .ref (ad 12), .ref (ad 13), .ref (ad 14), .ref (ad 19), .ref (ad 20), .int mm.2.1, .int mm.2.2.1, .int mm.2.2.2])), ((ad 12), .inr (4, [.int fr.1, .int fr.2.1, .int fr.2.2.1, .int fr.2.2.2.1, .int fr.2.2.2.2.1, .int fr.2.2.2.2.2.1, .int fr.2.2.2.2.2.2])), ((ad 14), .inr (5, [.ref (ad 15), .ref (ad 16), .ref (ad 17), .ref (ad 18)])), ((ad 15), .inl (cI, 3, .inl ca.1)), ((ad 16), .inl (cI, 3, .inl ca.2.1)), ((ad 17), .inl (cZ, 3, .inl ca.2.2.1)), ((ad 18), .inl (cI, 3, .inl ca.2.2.2)), ((ad 19), .inl (cI, 16, .inl dv)), ((ad 10), .inr (3, [.int d1.1, .int d1.2.1, .int d1.2.2.1, .int d1.2.2.2.1, .int d1.2.2.2.2.1, .int d1.2.2.2.2.2]))] H locs := hw
  refine lv_istore_n (lv' := [(1, .int r1), (0, .ref (ad 0))]) hx hb d_RD_stepDisk_7 rfl hl (by decide) rfl (fun ls hl => ?_)
  refine lv_iload_n hx hb d_RD_stepDisk_8 rfl (lv_at hl 0 rfl) ?_
  refine lv_iconst (v := 1) hx hb d_RD_stepDisk_9 (by decide) ?_
  refine lv_icmp_ne (tgt := 20) hx hb d_RD_stepDisk_10 (by decide) (fun h2 => ?_) (fun h2 => ?_)
  · refine lv_iload_n hx hb d_RD_stepDisk_20 rfl (lv_at hl 0 rfl) ?_
    refine lv_iconst (v := 2) hx hb d_RD_stepDisk_21 (by decide) ?_
    refine lv_icmp_ne (tgt := 33) hx hb d_RD_stepDisk_22 (by decide) (fun h3 => ?_) (fun h3 => ?_)
    · exact kx_ret_v I rfl hw (mm, d1, fr, dv) (by simp only [f_RD_stepDisk, ← hp1, if_neg h2, if_neg h3]) [0, 8, 1, 2, 3, 4, 5, 6, 7] (by decide) rfl d_RD_stepDisk_33
    · refine lv_aload_n hx hb d_RD_stepDisk_25 rfl (lv_at hl 1 rfl) ?_
      refine kx_get S hw fg_RD_38 0 rfl rfl d_RD_stepDisk_26 ?_
      refine lv_iconst (v := 1) hx hb d_RD_stepDisk_29 (by decide) ?_
      refine kx_put S hw fp_RD_159 1 rfl rfl rfl (Nat.le_of_ble_eq_true rfl) d_RD_stepDisk_30 (fun H locs hw => ?_)
      have hw : kx_w D (kx_T cI cZ cO) A_ s_ [((ad 0), .inr (0, [.int mm.1, .ref (ad 1), .ref (ad 6), .ref (ad 8), .ref (ad 10), .ref (ad 11), .ref (ad 12), .ref (ad 13), .ref (ad 14), .ref (ad 19), .ref (ad 20), .int mm.2.1, .int mm.2.2.1, .int mm.2.2.2])), ((ad 12), .inr (4, [.int fr.1, .int fr.2.1, .int fr.2.2.1, .int fr.2.2.2.1, .int fr.2.2.2.2.1, .int 1, .int fr.2.2.2.2.2.2])), ((ad 14), .inr (5, [.ref (ad 15), .ref (ad 16), .ref (ad 17), .ref (ad 18)])), ((ad 15), .inl (cI, 3, .inl ca.1)), ((ad 16), .inl (cI, 3, .inl ca.2.1)), ((ad 17), .inl (cZ, 3, .inl ca.2.2.1)), ((ad 18), .inl (cI, 3, .inl ca.2.2.2)), ((ad 19), .inl (cI, 16, .inl dv)), ((ad 10), .inr (3, [.int d1.1, .int d1.2.1, .int d1.2.2.1, .int d1.2.2.2.1, .int d1.2.2.2.2.1, .int d1.2.2.2.2.2]))] H locs := hw
      exact kx_ret_v I rfl hw (mm, d1, (fr.1, fr.2.1, fr.2.2.1, fr.2.2.2.1, fr.2.2.2.2.1, 1, fr.2.2.2.2.2.2), dv) (by simp only [f_RD_stepDisk, ← hp1, if_neg h2, if_pos h3]) [0, 8, 1, 2, 3, 4, 5, 6, 7] (by decide) rfl d_RD_stepDisk_33
  · refine lv_aload_n hx hb d_RD_stepDisk_13 rfl (lv_at hl 1 rfl) ?_
    refine kx_call_v (wc := [((ad 0), .inr (0, [.int mm.1, .ref (ad 1), .ref (ad 6), .ref (ad 8), .ref (ad 10), .ref (ad 11), .ref (ad 12), .ref (ad 13), .ref (ad 14), .ref (ad 19), .ref (ad 20), .int mm.2.1, .int mm.2.2.1, .int mm.2.2.2])), ((ad 12), .inr (4, [.int fr.1, .int fr.2.1, .int fr.2.2.1, .int fr.2.2.2.1, .int fr.2.2.2.2.1, .int fr.2.2.2.2.2.1, .int fr.2.2.2.2.2.2])), ((ad 14), .inr (5, [.ref (ad 15), .ref (ad 16), .ref (ad 17), .ref (ad 18)])), ((ad 15), .inl (cI, 3, .inl ca.1)), ((ad 16), .inl (cI, 3, .inl ca.2.1)), ((ad 17), .inl (cZ, 3, .inl ca.2.2.1)), ((ad 18), .inl (cI, 3, .inl ca.2.2.2)), ((ad 19), .inl (cI, 16, .inl dv))]) (wr := [((ad 10), .inr (3, [.int d1.1, .int d1.2.1, .int d1.2.2.1, .int d1.2.2.2.1, .int d1.2.2.2.2.1, .int d1.2.2.2.2.2]))]) (rest := []) hw [0, 1, 2, 3, 4, 5, 6, 7] [8] rfl rfl (by decide) (by decide) (kx_runV S hw fc_RD_156 rfl 0 rfl [0, 1, 2, 3, 4, 5, 6, 7] (by decide) rfl (c_RD_moveBlock l D cI cZ cO ad mm fr ca dv (hfr) H.size) rfl hl.1 rfl (Nat.le_of_ble_eq_true rfl) d_RD_stepDisk_14 (by decide) (by decide)) (fun u4 H locs hp4 hw => ?_)
    obtain ⟨mm4, dv4⟩ := u4
    have hw : kx_w D (kx_T cI cZ cO) A_ s_ [((ad 10), .inr (3, [.int d1.1, .int d1.2.1, .int d1.2.2.1, .int d1.2.2.2.1, .int d1.2.2.2.2.1, .int d1.2.2.2.2.2])), ((ad 0), .inr (0, [.int mm4.1, .ref (ad 1), .ref (ad 6), .ref (ad 8), .ref (ad 10), .ref (ad 11), .ref (ad 12), .ref (ad 13), .ref (ad 14), .ref (ad 19), .ref (ad 20), .int mm4.2.1, .int mm4.2.2.1, .int mm4.2.2.2])), ((ad 12), .inr (4, [.int fr.1, .int fr.2.1, .int fr.2.2.1, .int fr.2.2.2.1, .int fr.2.2.2.2.1, .int fr.2.2.2.2.2.1, .int fr.2.2.2.2.2.2])), ((ad 14), .inr (5, [.ref (ad 15), .ref (ad 16), .ref (ad 17), .ref (ad 18)])), ((ad 15), .inl (cI, 3, .inl ca.1)), ((ad 16), .inl (cI, 3, .inl ca.2.1)), ((ad 17), .inl (cZ, 3, .inl ca.2.2.1)), ((ad 18), .inl (cI, 3, .inl ca.2.2.2)), ((ad 19), .inl (cI, 16, .inl dv4))] H locs := hw
    refine lv_goto (tgt := 33) hx hb d_RD_stepDisk_17 (by decide) ?_
    exact kx_ret_v I rfl hw (mm4, d1, fr, dv4) (by simp only [f_RD_stepDisk, ← hp1, if_pos h2, ← hp4]) [1, 0, 2, 3, 4, 5, 6, 7, 8] (by decide) rfl d_RD_stepDisk_33
def f_RD_putOutCharacter (mm : kt_M) (po : (Nat → Int32)) (c : Int32) : kt_M × (Nat → Int32) :=
  if 200 ≤ mm.2.1 then (mm, po)
  else ((mm.1, mm.2.1 + 1, mm.2.2.1, mm.2.2.2), upd po mm.2.1.toNatClampNeg c)
set_option maxHeartbeats 4000000 in
set_option maxRecDepth 100000 in
theorem c_RD_putOutCharacter (l : Launch) (D : va_G) (cI cZ cO : ClassId) (ad : Nat → Nat) (mm : kt_M) (po : (Nat → Int32)) (c : Int32) (hol : 0 ≤ mm.2.1) : kx_Cv (S := kt_M × (Nat → Int32)) l y_RD_putOutCharacter b_RD_putOutCharacter 2 0 0 0 D (kx_T cI cZ cO) [.ref (ad 0), .int c] [((ad 0), .inr (0, [.int mm.1, .ref (ad 1), .ref (ad 6), .ref (ad 8), .ref (ad 10), .ref (ad 11), .ref (ad 12), .ref (ad 13), .ref (ad 14), .ref (ad 19), .ref (ad 20), .int mm.2.1, .int mm.2.2.1, .int mm.2.2.2])), ((ad 20), .inl (cI, 200, .inl po))] (fun zz => zz = f_RD_putOutCharacter mm po c) (fun zz => [((ad 0), .inr (0, [.int zz.1.1, .ref (ad 1), .ref (ad 6), .ref (ad 8), .ref (ad 10), .ref (ad 11), .ref (ad 12), .ref (ad 13), .ref (ad 14), .ref (ad 19), .ref (ad 20), .int zz.1.2.1, .int zz.1.2.2.1, .int zz.1.2.2.2])), ((ad 20), .inl (cI, 200, .inl zz.2))]) := by
  refine kx_enter_v (by decide) (Nat.le_of_ble_eq_true rfl) ?_
  intro p_ e_ s_ m_ below_ meth_ c_ ls A_ H I hl hw
  have S := I.1
  have hx := S.1
  have hb := S.2.1
  have hl : lv_has ls 2 [(0, .ref (ad 0)), (1, .int c)] := hl
  refine lv_aload_n hx hb d_RD_putOutCharacter_0 rfl (lv_at hl 0 rfl) ?_
  refine kx_get S hw fg_RD_131 0 rfl rfl d_RD_putOutCharacter_1 ?_
  refine lv_sipush (v := 200) hx hb d_RD_putOutCharacter_4 (by decide) ?_
  refine lv_icmp_ge (tgt := 30) hx hb d_RD_putOutCharacter_7 (by decide) (fun h1 => ?_) (fun h1 => ?_)
  · exact kx_ret_v I rfl hw (mm, po) (by simp only [f_RD_putOutCharacter, if_pos h1]) [0, 1] (by decide) rfl d_RD_putOutCharacter_30
  · refine lv_aload_n hx hb d_RD_putOutCharacter_10 rfl (lv_at hl 0 rfl) ?_
    refine kx_get S hw fg_RD_56 0 rfl rfl d_RD_putOutCharacter_11 ?_
    refine lv_aload_n hx hb d_RD_putOutCharacter_14 rfl (lv_at hl 0 rfl) ?_
    refine kx_get S hw fg_RD_131 0 rfl rfl d_RD_putOutCharacter_15 ?_
    refine lv_iload_n hx hb d_RD_putOutCharacter_18 rfl (lv_at hl 1 rfl) ?_
    refine kx_iast S hw 1 0 rfl rfl (j := mm.2.1.toNatClampNeg) rfl (kx_i3 rfl hol h1) d_RD_putOutCharacter_19 (fun H locs hw => ?_)
    have hw : kx_w D (kx_T cI cZ cO) A_ s_ [((ad 0), .inr (0, [.int mm.1, .ref (ad 1), .ref (ad 6), .ref (ad 8), .ref (ad 10), .ref (ad 11), .ref (ad 12), .ref (ad 13), .ref (ad 14), .ref (ad 19), .ref (ad 20), .int mm.2.1, .int mm.2.2.1, .int mm.2.2.2])), ((ad 20), .inl (cI, 200, .inl (upd po mm.2.1.toNatClampNeg c)))] H locs := hw
    refine lv_aload_n hx hb d_RD_putOutCharacter_20 rfl (lv_at hl 0 rfl) ?_
    refine lv_dup hx hb d_RD_putOutCharacter_21 rfl ?_
    refine kx_get S hw fg_RD_131 0 rfl rfl d_RD_putOutCharacter_22 ?_
    refine lv_iconst (v := 1) hx hb d_RD_putOutCharacter_25 (by decide) ?_
    refine lv_iadd hx hb d_RD_putOutCharacter_26 ?_
    refine kx_put S hw fp_RD_131 0 rfl rfl rfl (Nat.le_of_ble_eq_true rfl) d_RD_putOutCharacter_27 (fun H locs hw => ?_)
    have hw : kx_w D (kx_T cI cZ cO) A_ s_ [((ad 0), .inr (0, [.int mm.1, .ref (ad 1), .ref (ad 6), .ref (ad 8), .ref (ad 10), .ref (ad 11), .ref (ad 12), .ref (ad 13), .ref (ad 14), .ref (ad 19), .ref (ad 20), .int (mm.2.1 + 1), .int mm.2.2.1, .int mm.2.2.2])), ((ad 20), .inl (cI, 200, .inl (upd po mm.2.1.toNatClampNeg c)))] H locs := hw
    exact kx_ret_v I rfl hw ((mm.1, mm.2.1 + 1, mm.2.2.1, mm.2.2.2), upd po mm.2.1.toNatClampNeg c) (by simp only [f_RD_putOutCharacter, if_neg h1]) [0, 1] (by decide) rfl d_RD_putOutCharacter_30
def f_RD_stepConsole (mm : kt_M) (co : kt_Dr) (tr : kt_Rq) (po : (Nat → Int32)) : kt_M × kt_Dr × kt_Rq × (Nat → Int32) :=
  match f_Dr_takeStep co with
  | (r1, d1) => if r1 = 1 then (match f_RD_putOutCharacter mm po tr.2.2.2.1 with
      | (mm4, po4) => (mm4, d1, tr, po4))
    else if r1 = 2 then (mm, d1, (tr.1, tr.2.1, tr.2.2.1, tr.2.2.2.1, tr.2.2.2.2.1, 1, tr.2.2.2.2.2.2), po)
    else (mm, d1, tr, po)
set_option maxHeartbeats 4000000 in
set_option maxRecDepth 100000 in
theorem c_RD_stepConsole (l : Launch) (D : va_G) (cI cZ cO : ClassId) (ad : Nat → Nat) (mm : kt_M) (co : kt_Dr) (tr : kt_Rq) (po : (Nat → Int32)) (hol : 0 ≤ mm.2.1) : kx_Cv (S := kt_M × kt_Dr × kt_Rq × (Nat → Int32)) l y_RD_stepConsole b_RD_stepConsole 2 3 0 0 D (kx_T cI cZ cO) [.ref (ad 0)] [((ad 0), .inr (0, [.int mm.1, .ref (ad 1), .ref (ad 6), .ref (ad 8), .ref (ad 10), .ref (ad 11), .ref (ad 12), .ref (ad 13), .ref (ad 14), .ref (ad 19), .ref (ad 20), .int mm.2.1, .int mm.2.2.1, .int mm.2.2.2])), ((ad 11), .inr (3, [.int co.1, .int co.2.1, .int co.2.2.1, .int co.2.2.2.1, .int co.2.2.2.2.1, .int co.2.2.2.2.2])), ((ad 13), .inr (4, [.int tr.1, .int tr.2.1, .int tr.2.2.1, .int tr.2.2.2.1, .int tr.2.2.2.2.1, .int tr.2.2.2.2.2.1, .int tr.2.2.2.2.2.2])), ((ad 20), .inl (cI, 200, .inl po))] (fun zz => zz = f_RD_stepConsole mm co tr po) (fun zz => [((ad 0), .inr (0, [.int zz.1.1, .ref (ad 1), .ref (ad 6), .ref (ad 8), .ref (ad 10), .ref (ad 11), .ref (ad 12), .ref (ad 13), .ref (ad 14), .ref (ad 19), .ref (ad 20), .int zz.1.2.1, .int zz.1.2.2.1, .int zz.1.2.2.2])), ((ad 11), .inr (3, [.int zz.2.1.1, .int zz.2.1.2.1, .int zz.2.1.2.2.1, .int zz.2.1.2.2.2.1, .int zz.2.1.2.2.2.2.1, .int zz.2.1.2.2.2.2.2])), ((ad 13), .inr (4, [.int zz.2.2.1.1, .int zz.2.2.1.2.1, .int zz.2.2.1.2.2.1, .int zz.2.2.1.2.2.2.1, .int zz.2.2.1.2.2.2.2.1, .int zz.2.2.1.2.2.2.2.2.1, .int zz.2.2.1.2.2.2.2.2.2])), ((ad 20), .inl (cI, 200, .inl zz.2.2.2))]) := by
  refine kx_enter_v (by decide) (Nat.le_of_ble_eq_true rfl) ?_
  intro p_ e_ s_ m_ below_ meth_ c_ ls A_ H I hl hw
  have S := I.1
  have hx := S.1
  have hb := S.2.1
  have hl : lv_has ls 2 [(0, .ref (ad 0))] := hl
  refine lv_aload_n hx hb d_RD_stepConsole_0 rfl (lv_at hl 0 rfl) ?_
  refine kx_get S hw fg_RD_32 0 rfl rfl d_RD_stepConsole_1 ?_
  refine kx_call_i (wc := [((ad 11), .inr (3, [.int co.1, .int co.2.1, .int co.2.2.1, .int co.2.2.2.1, .int co.2.2.2.2.1, .int co.2.2.2.2.2]))]) (wr := [((ad 0), .inr (0, [.int mm.1, .ref (ad 1), .ref (ad 6), .ref (ad 8), .ref (ad 10), .ref (ad 11), .ref (ad 12), .ref (ad 13), .ref (ad 14), .ref (ad 19), .ref (ad 20), .int mm.2.1, .int mm.2.2.1, .int mm.2.2.2])), ((ad 13), .inr (4, [.int tr.1, .int tr.2.1, .int tr.2.2.1, .int tr.2.2.2.1, .int tr.2.2.2.2.1, .int tr.2.2.2.2.2.1, .int tr.2.2.2.2.2.2])), ((ad 20), .inl (cI, 200, .inl po))]) (rest := []) hw [1] [0, 2, 3] rfl rfl (by decide) (by decide) (kx_runV S hw fc_RD_153 rfl 1 rfl [1] (by decide) rfl (c_Dr_takeStep l D cI cZ cO (ad 11) co H.size) rfl hl.1 rfl (Nat.le_of_ble_eq_true rfl) d_RD_stepConsole_4 (by decide) (by decide)) (fun r1 u1 H locs hp1 hw => ?_)
  obtain ⟨d1, rfl⟩ : ∃ z, z = u1 := ⟨_, rfl⟩
  have hw : kx_w D (kx_T cI cZ cO) A_ s_ [((ad 0), .inr (0, [.int mm.1, .ref (ad 1), .ref (ad 6), .ref (ad 8), .ref (ad 10), .ref (ad 11), .ref (ad 12), .ref (ad 13), .ref (ad 14), .ref (ad 19), .ref (ad 20), .int mm.2.1, .int mm.2.2.1, .int mm.2.2.2])), ((ad 13), .inr (4, [.int tr.1, .int tr.2.1, .int tr.2.2.1, .int tr.2.2.2.1, .int tr.2.2.2.2.1, .int tr.2.2.2.2.2.1, .int tr.2.2.2.2.2.2])), ((ad 20), .inl (cI, 200, .inl po)), ((ad 11), .inr (3, [.int d1.1, .int d1.2.1, .int d1.2.2.1, .int d1.2.2.2.1, .int d1.2.2.2.2.1, .int d1.2.2.2.2.2]))] H locs := hw
  refine lv_istore_n (lv' := [(1, .int r1), (0, .ref (ad 0))]) hx hb d_RD_stepConsole_7 rfl hl (by decide) rfl (fun ls hl => ?_)
  refine lv_iload_n hx hb d_RD_stepConsole_8 rfl (lv_at hl 0 rfl) ?_
  refine lv_iconst (v := 1) hx hb d_RD_stepConsole_9 (by decide) ?_
  refine lv_icmp_ne (tgt := 27) hx hb d_RD_stepConsole_10 (by decide) (fun h2 => ?_) (fun h2 => ?_)
  · refine lv_iload_n hx hb d_RD_stepConsole_27 rfl (lv_at hl 0 rfl) ?_
    refine lv_iconst (v := 2) hx hb d_RD_stepConsole_28 (by decide) ?_
    refine lv_icmp_ne (tgt := 40) hx hb d_RD_stepConsole_29 (by decide) (fun h3 => ?_) (fun h3 => ?_)
    · exact kx_ret_v I rfl hw (mm, d1, tr, po) (by simp only [f_RD_stepConsole, ← hp1, if_neg h2, if_neg h3]) [0, 3, 1, 2] (by decide) rfl d_RD_stepConsole_40
    · refine lv_aload_n hx hb d_RD_stepConsole_32 rfl (lv_at hl 1 rfl) ?_
      refine kx_get S hw fg_RD_42 0 rfl rfl d_RD_stepConsole_33 ?_
      refine lv_iconst (v := 1) hx hb d_RD_stepConsole_36 (by decide) ?_
      refine kx_put S hw fp_RD_159 1 rfl rfl rfl (Nat.le_of_ble_eq_true rfl) d_RD_stepConsole_37 (fun H locs hw => ?_)
      have hw : kx_w D (kx_T cI cZ cO) A_ s_ [((ad 0), .inr (0, [.int mm.1, .ref (ad 1), .ref (ad 6), .ref (ad 8), .ref (ad 10), .ref (ad 11), .ref (ad 12), .ref (ad 13), .ref (ad 14), .ref (ad 19), .ref (ad 20), .int mm.2.1, .int mm.2.2.1, .int mm.2.2.2])), ((ad 13), .inr (4, [.int tr.1, .int tr.2.1, .int tr.2.2.1, .int tr.2.2.2.1, .int tr.2.2.2.2.1, .int 1, .int tr.2.2.2.2.2.2])), ((ad 20), .inl (cI, 200, .inl po)), ((ad 11), .inr (3, [.int d1.1, .int d1.2.1, .int d1.2.2.1, .int d1.2.2.2.1, .int d1.2.2.2.2.1, .int d1.2.2.2.2.2]))] H locs := hw
      exact kx_ret_v I rfl hw (mm, d1, (tr.1, tr.2.1, tr.2.2.1, tr.2.2.2.1, tr.2.2.2.2.1, 1, tr.2.2.2.2.2.2), po) (by simp only [f_RD_stepConsole, ← hp1, if_neg h2, if_pos h3]) [0, 3, 1, 2] (by decide) rfl d_RD_stepConsole_40
  · refine lv_aload_n hx hb d_RD_stepConsole_13 rfl (lv_at hl 1 rfl) ?_
    refine lv_aload_n hx hb d_RD_stepConsole_14 rfl (lv_at hl 1 rfl) ?_
    refine kx_get S hw fg_RD_42 0 rfl rfl d_RD_stepConsole_15 ?_
    refine kx_get S hw fg_RD_174 1 rfl rfl d_RD_stepConsole_18 ?_
    refine kx_call_v (wc := [((ad 0), .inr (0, [.int mm.1, .ref (ad 1), .ref (ad 6), .ref (ad 8), .ref (ad 10), .ref (ad 11), .ref (ad 12), .ref (ad 13), .ref (ad 14), .ref (ad 19), .ref (ad 20), .int mm.2.1, .int mm.2.2.1, .int mm.2.2.2])), ((ad 20), .inl (cI, 200, .inl po))]) (wr := [((ad 13), .inr (4, [.int tr.1, .int tr.2.1, .int tr.2.2.1, .int tr.2.2.2.1, .int tr.2.2.2.2.1, .int tr.2.2.2.2.2.1, .int tr.2.2.2.2.2.2])), ((ad 11), .inr (3, [.int d1.1, .int d1.2.1, .int d1.2.2.1, .int d1.2.2.2.1, .int d1.2.2.2.2.1, .int d1.2.2.2.2.2]))]) (rest := []) hw [0, 2] [1, 3] rfl rfl (by decide) (by decide) (kx_runV S hw fc_RD_177 rfl 0 rfl [0, 2] (by decide) rfl (c_RD_putOutCharacter l D cI cZ cO ad mm po tr.2.2.2.1 (hol) H.size) rfl hl.1 rfl (Nat.le_of_ble_eq_true rfl) d_RD_stepConsole_21 (by decide) (by decide)) (fun u4 H locs hp4 hw => ?_)
    obtain ⟨mm4, po4⟩ := u4
    have hw : kx_w D (kx_T cI cZ cO) A_ s_ [((ad 13), .inr (4, [.int tr.1, .int tr.2.1, .int tr.2.2.1, .int tr.2.2.2.1, .int tr.2.2.2.2.1, .int tr.2.2.2.2.2.1, .int tr.2.2.2.2.2.2])), ((ad 11), .inr (3, [.int d1.1, .int d1.2.1, .int d1.2.2.1, .int d1.2.2.2.1, .int d1.2.2.2.2.1, .int d1.2.2.2.2.2])), ((ad 0), .inr (0, [.int mm4.1, .ref (ad 1), .ref (ad 6), .ref (ad 8), .ref (ad 10), .ref (ad 11), .ref (ad 12), .ref (ad 13), .ref (ad 14), .ref (ad 19), .ref (ad 20), .int mm4.2.1, .int mm4.2.2.1, .int mm4.2.2.2])), ((ad 20), .inl (cI, 200, .inl po4))] H locs := hw
    refine lv_goto (tgt := 40) hx hb d_RD_stepConsole_24 (by decide) ?_
    exact kx_ret_v I rfl hw (mm4, d1, tr, po4) (by simp only [f_RD_stepConsole, ← hp1, if_pos h2, ← hp4]) [2, 1, 0, 3] (by decide) rfl d_RD_stepConsole_40
def f_RD_takeDiskAnswer (mm : kt_M) (fr : kt_Rq) (ca : kt_Ca) : kt_Rq × kt_Ca :=
  if fr.1 = 1 then (match f_Ca_hold ca fr.2.2.1 fr.2.1 mm.2.2.1 0 with
    | c3 => match f_Rq_close fr with
      | q4 => (q4, c3))
  else match f_Rq_close fr with
  | q2 => (q2, (ca.1, ca.2.1, upd ca.2.2.1 fr.2.2.1.toNatClampNeg 0, ca.2.2.2))
set_option maxHeartbeats 4000000 in
set_option maxRecDepth 100000 in
theorem c_RD_takeDiskAnswer (l : Launch) (D : va_G) (cI cZ cO : ClassId) (ad : Nat → Nat) (mm : kt_M) (fr : kt_Rq) (ca : kt_Ca) (hs : vp_in fr.2.2.1 3) : kx_Cv (S := kt_Rq × kt_Ca) l y_RD_takeDiskAnswer b_RD_takeDiskAnswer 1 1 0 0 D (kx_T cI cZ cO) [.ref (ad 0)] [((ad 0), .inr (0, [.int mm.1, .ref (ad 1), .ref (ad 6), .ref (ad 8), .ref (ad 10), .ref (ad 11), .ref (ad 12), .ref (ad 13), .ref (ad 14), .ref (ad 19), .ref (ad 20), .int mm.2.1, .int mm.2.2.1, .int mm.2.2.2])), ((ad 12), .inr (4, [.int fr.1, .int fr.2.1, .int fr.2.2.1, .int fr.2.2.2.1, .int fr.2.2.2.2.1, .int fr.2.2.2.2.2.1, .int fr.2.2.2.2.2.2])), ((ad 14), .inr (5, [.ref (ad 15), .ref (ad 16), .ref (ad 17), .ref (ad 18)])), ((ad 15), .inl (cI, 3, .inl ca.1)), ((ad 16), .inl (cI, 3, .inl ca.2.1)), ((ad 17), .inl (cZ, 3, .inl ca.2.2.1)), ((ad 18), .inl (cI, 3, .inl ca.2.2.2))] (fun zz => zz = f_RD_takeDiskAnswer mm fr ca) (fun zz => [((ad 0), .inr (0, [.int mm.1, .ref (ad 1), .ref (ad 6), .ref (ad 8), .ref (ad 10), .ref (ad 11), .ref (ad 12), .ref (ad 13), .ref (ad 14), .ref (ad 19), .ref (ad 20), .int mm.2.1, .int mm.2.2.1, .int mm.2.2.2])), ((ad 12), .inr (4, [.int zz.1.1, .int zz.1.2.1, .int zz.1.2.2.1, .int zz.1.2.2.2.1, .int zz.1.2.2.2.2.1, .int zz.1.2.2.2.2.2.1, .int zz.1.2.2.2.2.2.2])), ((ad 14), .inr (5, [.ref (ad 15), .ref (ad 16), .ref (ad 17), .ref (ad 18)])), ((ad 15), .inl (cI, 3, .inl zz.2.1)), ((ad 16), .inl (cI, 3, .inl zz.2.2.1)), ((ad 17), .inl (cZ, 3, .inl zz.2.2.2.1)), ((ad 18), .inl (cI, 3, .inl zz.2.2.2.2))]) := by
  refine kx_enter_v (by decide) (Nat.le_of_ble_eq_true rfl) ?_
  intro p_ e_ s_ m_ below_ meth_ c_ ls A_ H I hl hw
  have S := I.1
  have hx := S.1
  have hb := S.2.1
  have hl : lv_has ls 1 [(0, .ref (ad 0))] := hl
  refine lv_aload_n hx hb d_RD_takeDiskAnswer_0 rfl (lv_at hl 0 rfl) ?_
  refine kx_get S hw fg_RD_38 0 rfl rfl d_RD_takeDiskAnswer_1 ?_
  refine kx_get S hw fg_RD_162 1 rfl rfl d_RD_takeDiskAnswer_4 ?_
  refine lv_iconst (v := 1) hx hb d_RD_takeDiskAnswer_7 (by decide) ?_
  refine lv_icmp_ne (tgt := 40) hx hb d_RD_takeDiskAnswer_8 (by decide) (fun h1 => ?_) (fun h1 => ?_)
  · refine lv_aload_n hx hb d_RD_takeDiskAnswer_40 rfl (lv_at hl 0 rfl) ?_
    refine kx_get S hw fg_RD_48 0 rfl rfl d_RD_takeDiskAnswer_41 ?_
    refine kx_get S hw fg_RD_127 2 rfl rfl d_RD_takeDiskAnswer_44 ?_
    refine lv_aload_n hx hb d_RD_takeDiskAnswer_47 rfl (lv_at hl 0 rfl) ?_
    refine kx_get S hw fg_RD_38 0 rfl rfl d_RD_takeDiskAnswer_48 ?_
    refine kx_get S hw fg_RD_171 1 rfl rfl d_RD_takeDiskAnswer_51 ?_
    refine lv_iconst (v := 0) hx hb d_RD_takeDiskAnswer_54 (by decide) ?_
    refine kx_zast S hw 5 1 rfl rfl (j := fr.2.2.1.toNatClampNeg) rfl (by decide) (hs) d_RD_takeDiskAnswer_55 (fun H locs hw => ?_)
    have hw : kx_w D (kx_T cI cZ cO) A_ s_ [((ad 0), .inr (0, [.int mm.1, .ref (ad 1), .ref (ad 6), .ref (ad 8), .ref (ad 10), .ref (ad 11), .ref (ad 12), .ref (ad 13), .ref (ad 14), .ref (ad 19), .ref (ad 20), .int mm.2.1, .int mm.2.2.1, .int mm.2.2.2])), ((ad 12), .inr (4, [.int fr.1, .int fr.2.1, .int fr.2.2.1, .int fr.2.2.2.1, .int fr.2.2.2.2.1, .int fr.2.2.2.2.2.1, .int fr.2.2.2.2.2.2])), ((ad 14), .inr (5, [.ref (ad 15), .ref (ad 16), .ref (ad 17), .ref (ad 18)])), ((ad 15), .inl (cI, 3, .inl ca.1)), ((ad 16), .inl (cI, 3, .inl ca.2.1)), ((ad 17), .inl (cZ, 3, .inl (upd ca.2.2.1 fr.2.2.1.toNatClampNeg 0))), ((ad 18), .inl (cI, 3, .inl ca.2.2.2))] H locs := hw
    refine lv_aload_n hx hb d_RD_takeDiskAnswer_56 rfl (lv_at hl 0 rfl) ?_
    refine kx_get S hw fg_RD_38 0 rfl rfl d_RD_takeDiskAnswer_57 ?_
    refine kx_call_v (wc := [((ad 12), .inr (4, [.int fr.1, .int fr.2.1, .int fr.2.2.1, .int fr.2.2.2.1, .int fr.2.2.2.2.1, .int fr.2.2.2.2.2.1, .int fr.2.2.2.2.2.2]))]) (wr := [((ad 0), .inr (0, [.int mm.1, .ref (ad 1), .ref (ad 6), .ref (ad 8), .ref (ad 10), .ref (ad 11), .ref (ad 12), .ref (ad 13), .ref (ad 14), .ref (ad 19), .ref (ad 20), .int mm.2.1, .int mm.2.2.1, .int mm.2.2.2])), ((ad 14), .inr (5, [.ref (ad 15), .ref (ad 16), .ref (ad 17), .ref (ad 18)])), ((ad 15), .inl (cI, 3, .inl ca.1)), ((ad 16), .inl (cI, 3, .inl ca.2.1)), ((ad 17), .inl (cZ, 3, .inl (upd ca.2.2.1 fr.2.2.1.toNatClampNeg 0))), ((ad 18), .inl (cI, 3, .inl ca.2.2.2))]) (rest := []) hw [1] [0, 2, 3, 4, 5, 6] rfl rfl (by decide) (by decide) (kx_runV S hw fc_RD_215 rfl 1 rfl [1] (by decide) rfl (c_Rq_close l D cI cZ cO (ad 12) fr H.size) rfl hl.1 rfl (Nat.le_of_ble_eq_true rfl) d_RD_takeDiskAnswer_60 (by decide) (by decide)) (fun u2 H locs hp2 hw => ?_)
    obtain ⟨q2, rfl⟩ : ∃ z, z = u2 := ⟨_, rfl⟩
    have hw : kx_w D (kx_T cI cZ cO) A_ s_ [((ad 0), .inr (0, [.int mm.1, .ref (ad 1), .ref (ad 6), .ref (ad 8), .ref (ad 10), .ref (ad 11), .ref (ad 12), .ref (ad 13), .ref (ad 14), .ref (ad 19), .ref (ad 20), .int mm.2.1, .int mm.2.2.1, .int mm.2.2.2])), ((ad 14), .inr (5, [.ref (ad 15), .ref (ad 16), .ref (ad 17), .ref (ad 18)])), ((ad 15), .inl (cI, 3, .inl ca.1)), ((ad 16), .inl (cI, 3, .inl ca.2.1)), ((ad 17), .inl (cZ, 3, .inl (upd ca.2.2.1 fr.2.2.1.toNatClampNeg 0))), ((ad 18), .inl (cI, 3, .inl ca.2.2.2)), ((ad 12), .inr (4, [.int q2.1, .int q2.2.1, .int q2.2.2.1, .int q2.2.2.2.1, .int q2.2.2.2.2.1, .int q2.2.2.2.2.2.1, .int q2.2.2.2.2.2.2]))] H locs := hw
    exact kx_ret_v I rfl hw (q2, (ca.1, ca.2.1, upd ca.2.2.1 fr.2.2.1.toNatClampNeg 0, ca.2.2.2)) (by simp only [f_RD_takeDiskAnswer, if_neg h1, ← hp2]) [0, 6, 1, 2, 3, 4, 5] (by decide) rfl d_RD_takeDiskAnswer_63
  · refine lv_aload_n hx hb d_RD_takeDiskAnswer_11 rfl (lv_at hl 0 rfl) ?_
    refine kx_get S hw fg_RD_48 0 rfl rfl d_RD_takeDiskAnswer_12 ?_
    refine lv_aload_n hx hb d_RD_takeDiskAnswer_15 rfl (lv_at hl 0 rfl) ?_
    refine kx_get S hw fg_RD_38 0 rfl rfl d_RD_takeDiskAnswer_16 ?_
    refine kx_get S hw fg_RD_171 1 rfl rfl d_RD_takeDiskAnswer_19 ?_
    refine lv_aload_n hx hb d_RD_takeDiskAnswer_22 rfl (lv_at hl 0 rfl) ?_
    refine kx_get S hw fg_RD_38 0 rfl rfl d_RD_takeDiskAnswer_23 ?_
    refine kx_get S hw fg_RD_165 1 rfl rfl d_RD_takeDiskAnswer_26 ?_
    refine lv_aload_n hx hb d_RD_takeDiskAnswer_29 rfl (lv_at hl 0 rfl) ?_
    refine kx_get S hw fg_RD_168 0 rfl rfl d_RD_takeDiskAnswer_30 ?_
    refine lv_iconst (v := 0) hx hb d_RD_takeDiskAnswer_33 (by decide) ?_
    refine kx_call_v (wc := [((ad 14), .inr (5, [.ref (ad 15), .ref (ad 16), .ref (ad 17), .ref (ad 18)])), ((ad 15), .inl (cI, 3, .inl ca.1)), ((ad 16), .inl (cI, 3, .inl ca.2.1)), ((ad 17), .inl (cZ, 3, .inl ca.2.2.1)), ((ad 18), .inl (cI, 3, .inl ca.2.2.2))]) (wr := [((ad 0), .inr (0, [.int mm.1, .ref (ad 1), .ref (ad 6), .ref (ad 8), .ref (ad 10), .ref (ad 11), .ref (ad 12), .ref (ad 13), .ref (ad 14), .ref (ad 19), .ref (ad 20), .int mm.2.1, .int mm.2.2.1, .int mm.2.2.2])), ((ad 12), .inr (4, [.int fr.1, .int fr.2.1, .int fr.2.2.1, .int fr.2.2.2.1, .int fr.2.2.2.2.1, .int fr.2.2.2.2.2.1, .int fr.2.2.2.2.2.2]))]) (rest := []) hw [2, 3, 4, 5, 6] [0, 1] rfl rfl (by decide) (by decide) (kx_runV S hw fc_RD_211 rfl 2 rfl [2, 3, 4, 5, 6] (by decide) rfl (c_Ca_hold l D cI cZ cO (ad 14) (ad 15) (ad 16) (ad 17) (ad 18) ca fr.2.2.1 fr.2.1 mm.2.2.1 0 (hs) (Or.inl rfl) H.size) rfl hl.1 rfl (Nat.le_of_ble_eq_true rfl) d_RD_takeDiskAnswer_34 (by decide) (by decide)) (fun u3 H locs hp3 hw => ?_)
    obtain ⟨c3, rfl⟩ : ∃ z, z = u3 := ⟨_, rfl⟩
    have hw : kx_w D (kx_T cI cZ cO) A_ s_ [((ad 0), .inr (0, [.int mm.1, .ref (ad 1), .ref (ad 6), .ref (ad 8), .ref (ad 10), .ref (ad 11), .ref (ad 12), .ref (ad 13), .ref (ad 14), .ref (ad 19), .ref (ad 20), .int mm.2.1, .int mm.2.2.1, .int mm.2.2.2])), ((ad 12), .inr (4, [.int fr.1, .int fr.2.1, .int fr.2.2.1, .int fr.2.2.2.1, .int fr.2.2.2.2.1, .int fr.2.2.2.2.2.1, .int fr.2.2.2.2.2.2])), ((ad 14), .inr (5, [.ref (ad 15), .ref (ad 16), .ref (ad 17), .ref (ad 18)])), ((ad 15), .inl (cI, 3, .inl c3.1)), ((ad 16), .inl (cI, 3, .inl c3.2.1)), ((ad 17), .inl (cZ, 3, .inl c3.2.2.1)), ((ad 18), .inl (cI, 3, .inl c3.2.2.2))] H locs := hw
    refine lv_goto (tgt := 56) hx hb d_RD_takeDiskAnswer_37 (by decide) ?_
    refine lv_aload_n hx hb d_RD_takeDiskAnswer_56 rfl (lv_at hl 0 rfl) ?_
    refine kx_get S hw fg_RD_38 0 rfl rfl d_RD_takeDiskAnswer_57 ?_
    refine kx_call_v (wc := [((ad 12), .inr (4, [.int fr.1, .int fr.2.1, .int fr.2.2.1, .int fr.2.2.2.1, .int fr.2.2.2.2.1, .int fr.2.2.2.2.2.1, .int fr.2.2.2.2.2.2]))]) (wr := [((ad 0), .inr (0, [.int mm.1, .ref (ad 1), .ref (ad 6), .ref (ad 8), .ref (ad 10), .ref (ad 11), .ref (ad 12), .ref (ad 13), .ref (ad 14), .ref (ad 19), .ref (ad 20), .int mm.2.1, .int mm.2.2.1, .int mm.2.2.2])), ((ad 14), .inr (5, [.ref (ad 15), .ref (ad 16), .ref (ad 17), .ref (ad 18)])), ((ad 15), .inl (cI, 3, .inl c3.1)), ((ad 16), .inl (cI, 3, .inl c3.2.1)), ((ad 17), .inl (cZ, 3, .inl c3.2.2.1)), ((ad 18), .inl (cI, 3, .inl c3.2.2.2))]) (rest := []) hw [1] [0, 2, 3, 4, 5, 6] rfl rfl (by decide) (by decide) (kx_runV S hw fc_RD_215 rfl 1 rfl [1] (by decide) rfl (c_Rq_close l D cI cZ cO (ad 12) fr H.size) rfl hl.1 rfl (Nat.le_of_ble_eq_true rfl) d_RD_takeDiskAnswer_60 (by decide) (by decide)) (fun u4 H locs hp4 hw => ?_)
    obtain ⟨q4, rfl⟩ : ∃ z, z = u4 := ⟨_, rfl⟩
    have hw : kx_w D (kx_T cI cZ cO) A_ s_ [((ad 0), .inr (0, [.int mm.1, .ref (ad 1), .ref (ad 6), .ref (ad 8), .ref (ad 10), .ref (ad 11), .ref (ad 12), .ref (ad 13), .ref (ad 14), .ref (ad 19), .ref (ad 20), .int mm.2.1, .int mm.2.2.1, .int mm.2.2.2])), ((ad 14), .inr (5, [.ref (ad 15), .ref (ad 16), .ref (ad 17), .ref (ad 18)])), ((ad 15), .inl (cI, 3, .inl c3.1)), ((ad 16), .inl (cI, 3, .inl c3.2.1)), ((ad 17), .inl (cZ, 3, .inl c3.2.2.1)), ((ad 18), .inl (cI, 3, .inl c3.2.2.2)), ((ad 12), .inr (4, [.int q4.1, .int q4.2.1, .int q4.2.2.1, .int q4.2.2.2.1, .int q4.2.2.2.2.1, .int q4.2.2.2.2.2.1, .int q4.2.2.2.2.2.2]))] H locs := hw
    exact kx_ret_v I rfl hw (q4, c3) (by simp only [f_RD_takeDiskAnswer, if_pos h1, ← hp3, ← hp4]) [0, 6, 1, 2, 3, 4, 5] (by decide) rfl d_RD_takeDiskAnswer_63
def f_RD_askToWriteOut (mm : kt_M) (dk : kt_Dr) (fr : kt_Rq) (ca : kt_Ca) (s : Int32) : kt_Dr × kt_Rq :=
  match f_Rq_open fr 2 with
  | q1 => match f_Rq_giveTo (q1.1, ca.1 s.toNatClampNeg, s, q1.2.2.2.1, q1.2.2.2.2.1, q1.2.2.2.2.2.1, q1.2.2.2.2.2.2) dk with
    | (q2, d2) => (d2, q2)
set_option maxHeartbeats 4000000 in
set_option maxRecDepth 100000 in
theorem c_RD_askToWriteOut (l : Launch) (D : va_G) (cI cZ cO : ClassId) (ad : Nat → Nat) (mm : kt_M) (dk : kt_Dr) (fr : kt_Rq) (ca : kt_Ca) (s : Int32) (hs : vp_in s 3) : kx_Cv (S := kt_Dr × kt_Rq) l y_RD_askToWriteOut b_RD_askToWriteOut 2 1 0 0 D (kx_T cI cZ cO) [.ref (ad 0), .int s] [((ad 0), .inr (0, [.int mm.1, .ref (ad 1), .ref (ad 6), .ref (ad 8), .ref (ad 10), .ref (ad 11), .ref (ad 12), .ref (ad 13), .ref (ad 14), .ref (ad 19), .ref (ad 20), .int mm.2.1, .int mm.2.2.1, .int mm.2.2.2])), ((ad 10), .inr (3, [.int dk.1, .int dk.2.1, .int dk.2.2.1, .int dk.2.2.2.1, .int dk.2.2.2.2.1, .int dk.2.2.2.2.2])), ((ad 12), .inr (4, [.int fr.1, .int fr.2.1, .int fr.2.2.1, .int fr.2.2.2.1, .int fr.2.2.2.2.1, .int fr.2.2.2.2.2.1, .int fr.2.2.2.2.2.2])), ((ad 14), .inr (5, [.ref (ad 15), .ref (ad 16), .ref (ad 17), .ref (ad 18)])), ((ad 15), .inl (cI, 3, .inl ca.1)), ((ad 16), .inl (cI, 3, .inl ca.2.1)), ((ad 17), .inl (cZ, 3, .inl ca.2.2.1)), ((ad 18), .inl (cI, 3, .inl ca.2.2.2))] (fun zz => zz = f_RD_askToWriteOut mm dk fr ca s) (fun zz => [((ad 0), .inr (0, [.int mm.1, .ref (ad 1), .ref (ad 6), .ref (ad 8), .ref (ad 10), .ref (ad 11), .ref (ad 12), .ref (ad 13), .ref (ad 14), .ref (ad 19), .ref (ad 20), .int mm.2.1, .int mm.2.2.1, .int mm.2.2.2])), ((ad 10), .inr (3, [.int zz.1.1, .int zz.1.2.1, .int zz.1.2.2.1, .int zz.1.2.2.2.1, .int zz.1.2.2.2.2.1, .int zz.1.2.2.2.2.2])), ((ad 12), .inr (4, [.int zz.2.1, .int zz.2.2.1, .int zz.2.2.2.1, .int zz.2.2.2.2.1, .int zz.2.2.2.2.2.1, .int zz.2.2.2.2.2.2.1, .int zz.2.2.2.2.2.2.2])), ((ad 14), .inr (5, [.ref (ad 15), .ref (ad 16), .ref (ad 17), .ref (ad 18)])), ((ad 15), .inl (cI, 3, .inl ca.1)), ((ad 16), .inl (cI, 3, .inl ca.2.1)), ((ad 17), .inl (cZ, 3, .inl ca.2.2.1)), ((ad 18), .inl (cI, 3, .inl ca.2.2.2))]) := by
  refine kx_enter_v (by decide) (Nat.le_of_ble_eq_true rfl) ?_
  intro p_ e_ s_ m_ below_ meth_ c_ ls A_ H I hl hw
  have S := I.1
  have hx := S.1
  have hb := S.2.1
  have hl : lv_has ls 2 [(0, .ref (ad 0)), (1, .int s)] := hl
  refine lv_aload_n hx hb d_RD_askToWriteOut_0 rfl (lv_at hl 0 rfl) ?_
  refine kx_get S hw fg_RD_38 0 rfl rfl d_RD_askToWriteOut_1 ?_
  refine lv_iconst (v := 2) hx hb d_RD_askToWriteOut_4 (by decide) ?_
  refine kx_call_v (wc := [((ad 12), .inr (4, [.int fr.1, .int fr.2.1, .int fr.2.2.1, .int fr.2.2.2.1, .int fr.2.2.2.2.1, .int fr.2.2.2.2.2.1, .int fr.2.2.2.2.2.2]))]) (wr := [((ad 0), .inr (0, [.int mm.1, .ref (ad 1), .ref (ad 6), .ref (ad 8), .ref (ad 10), .ref (ad 11), .ref (ad 12), .ref (ad 13), .ref (ad 14), .ref (ad 19), .ref (ad 20), .int mm.2.1, .int mm.2.2.1, .int mm.2.2.2])), ((ad 10), .inr (3, [.int dk.1, .int dk.2.1, .int dk.2.2.1, .int dk.2.2.2.1, .int dk.2.2.2.2.1, .int dk.2.2.2.2.2])), ((ad 14), .inr (5, [.ref (ad 15), .ref (ad 16), .ref (ad 17), .ref (ad 18)])), ((ad 15), .inl (cI, 3, .inl ca.1)), ((ad 16), .inl (cI, 3, .inl ca.2.1)), ((ad 17), .inl (cZ, 3, .inl ca.2.2.1)), ((ad 18), .inl (cI, 3, .inl ca.2.2.2))]) (rest := []) hw [2] [0, 1, 3, 4, 5, 6, 7] rfl rfl (by decide) (by decide) (kx_runV S hw fc_RD_258 rfl 2 rfl [2] (by decide) rfl (c_Rq_open l D cI cZ cO (ad 12) fr 2 H.size) rfl hl.1 rfl (Nat.le_of_ble_eq_true rfl) d_RD_askToWriteOut_5 (by decide) (by decide)) (fun u1 H locs hp1 hw => ?_)
  obtain ⟨q1, rfl⟩ : ∃ z, z = u1 := ⟨_, rfl⟩
  have hw : kx_w D (kx_T cI cZ cO) A_ s_ [((ad 0), .inr (0, [.int mm.1, .ref (ad 1), .ref (ad 6), .ref (ad 8), .ref (ad 10), .ref (ad 11), .ref (ad 12), .ref (ad 13), .ref (ad 14), .ref (ad 19), .ref (ad 20), .int mm.2.1, .int mm.2.2.1, .int mm.2.2.2])), ((ad 10), .inr (3, [.int dk.1, .int dk.2.1, .int dk.2.2.1, .int dk.2.2.2.1, .int dk.2.2.2.2.1, .int dk.2.2.2.2.2])), ((ad 14), .inr (5, [.ref (ad 15), .ref (ad 16), .ref (ad 17), .ref (ad 18)])), ((ad 15), .inl (cI, 3, .inl ca.1)), ((ad 16), .inl (cI, 3, .inl ca.2.1)), ((ad 17), .inl (cZ, 3, .inl ca.2.2.1)), ((ad 18), .inl (cI, 3, .inl ca.2.2.2)), ((ad 12), .inr (4, [.int q1.1, .int q1.2.1, .int q1.2.2.1, .int q1.2.2.2.1, .int q1.2.2.2.2.1, .int q1.2.2.2.2.2.1, .int q1.2.2.2.2.2.2]))] H locs := hw
  refine lv_aload_n hx hb d_RD_askToWriteOut_8 rfl (lv_at hl 0 rfl) ?_
  refine kx_get S hw fg_RD_38 0 rfl rfl d_RD_askToWriteOut_9 ?_
  refine lv_aload_n hx hb d_RD_askToWriteOut_12 rfl (lv_at hl 0 rfl) ?_
  refine kx_get S hw fg_RD_48 0 rfl rfl d_RD_askToWriteOut_13 ?_
  refine kx_get S hw fg_RD_121 2 rfl rfl d_RD_askToWriteOut_16 ?_
  refine lv_iload_n hx hb d_RD_askToWriteOut_19 rfl (lv_at hl 1 rfl) ?_
  refine kx_iald S hw 3 0 rfl rfl (j := s.toNatClampNeg) rfl (hs) d_RD_askToWriteOut_20 ?_
  refine kx_put S hw fp_RD_165 7 rfl rfl rfl (Nat.le_of_ble_eq_true rfl) d_RD_askToWriteOut_21 (fun H locs hw => ?_)
  have hw : kx_w D (kx_T cI cZ cO) A_ s_ [((ad 0), .inr (0, [.int mm.1, .ref (ad 1), .ref (ad 6), .ref (ad 8), .ref (ad 10), .ref (ad 11), .ref (ad 12), .ref (ad 13), .ref (ad 14), .ref (ad 19), .ref (ad 20), .int mm.2.1, .int mm.2.2.1, .int mm.2.2.2])), ((ad 10), .inr (3, [.int dk.1, .int dk.2.1, .int dk.2.2.1, .int dk.2.2.2.1, .int dk.2.2.2.2.1, .int dk.2.2.2.2.2])), ((ad 14), .inr (5, [.ref (ad 15), .ref (ad 16), .ref (ad 17), .ref (ad 18)])), ((ad 15), .inl (cI, 3, .inl ca.1)), ((ad 16), .inl (cI, 3, .inl ca.2.1)), ((ad 17), .inl (cZ, 3, .inl ca.2.2.1)), ((ad 18), .inl (cI, 3, .inl ca.2.2.2)), ((ad 12), .inr (4, [.int q1.1, .int (ca.1 s.toNatClampNeg), .int q1.2.2.1, .int q1.2.2.2.1, .int q1.2.2.2.2.1, .int q1.2.2.2.2.2.1, .int q1.2.2.2.2.2.2]))] H locs := hw
  refine lv_aload_n hx hb d_RD_askToWriteOut_24 rfl (lv_at hl 0 rfl) ?_
  refine kx_get S hw fg_RD_38 0 rfl rfl d_RD_askToWriteOut_25 ?_
  refine lv_iload_n hx hb d_RD_askToWriteOut_28 rfl (lv_at hl 1 rfl) ?_
  refine kx_put S hw fp_RD_171 7 rfl rfl rfl (Nat.le_of_ble_eq_true rfl) d_RD_askToWriteOut_29 (fun H locs hw => ?_)
  have hw : kx_w D (kx_T cI cZ cO) A_ s_ [((ad 0), .inr (0, [.int mm.1, .ref (ad 1), .ref (ad 6), .ref (ad 8), .ref (ad 10), .ref (ad 11), .ref (ad 12), .ref (ad 13), .ref (ad 14), .ref (ad 19), .ref (ad 20), .int mm.2.1, .int mm.2.2.1, .int mm.2.2.2])), ((ad 10), .inr (3, [.int dk.1, .int dk.2.1, .int dk.2.2.1, .int dk.2.2.2.1, .int dk.2.2.2.2.1, .int dk.2.2.2.2.2])), ((ad 14), .inr (5, [.ref (ad 15), .ref (ad 16), .ref (ad 17), .ref (ad 18)])), ((ad 15), .inl (cI, 3, .inl ca.1)), ((ad 16), .inl (cI, 3, .inl ca.2.1)), ((ad 17), .inl (cZ, 3, .inl ca.2.2.1)), ((ad 18), .inl (cI, 3, .inl ca.2.2.2)), ((ad 12), .inr (4, [.int q1.1, .int (ca.1 s.toNatClampNeg), .int s, .int q1.2.2.2.1, .int q1.2.2.2.2.1, .int q1.2.2.2.2.2.1, .int q1.2.2.2.2.2.2]))] H locs := hw
  refine lv_aload_n hx hb d_RD_askToWriteOut_32 rfl (lv_at hl 0 rfl) ?_
  refine kx_get S hw fg_RD_38 0 rfl rfl d_RD_askToWriteOut_33 ?_
  refine lv_aload_n hx hb d_RD_askToWriteOut_36 rfl (lv_at hl 0 rfl) ?_
  refine kx_get S hw fg_RD_28 0 rfl rfl d_RD_askToWriteOut_37 ?_
  refine kx_call_v (wc := [((ad 12), .inr (4, [.int q1.1, .int (ca.1 s.toNatClampNeg), .int s, .int q1.2.2.2.1, .int q1.2.2.2.2.1, .int q1.2.2.2.2.2.1, .int q1.2.2.2.2.2.2])), ((ad 10), .inr (3, [.int dk.1, .int dk.2.1, .int dk.2.2.1, .int dk.2.2.2.1, .int dk.2.2.2.2.1, .int dk.2.2.2.2.2]))]) (wr := [((ad 0), .inr (0, [.int mm.1, .ref (ad 1), .ref (ad 6), .ref (ad 8), .ref (ad 10), .ref (ad 11), .ref (ad 12), .ref (ad 13), .ref (ad 14), .ref (ad 19), .ref (ad 20), .int mm.2.1, .int mm.2.2.1, .int mm.2.2.2])), ((ad 14), .inr (5, [.ref (ad 15), .ref (ad 16), .ref (ad 17), .ref (ad 18)])), ((ad 15), .inl (cI, 3, .inl ca.1)), ((ad 16), .inl (cI, 3, .inl ca.2.1)), ((ad 17), .inl (cZ, 3, .inl ca.2.2.1)), ((ad 18), .inl (cI, 3, .inl ca.2.2.2))]) (rest := []) hw [7, 1] [0, 2, 3, 4, 5, 6] rfl rfl (by decide) (by decide) (kx_runV S hw fc_RD_191 rfl 7 rfl [7, 1] (by decide) rfl (c_Rq_giveTo l D cI cZ cO (ad 12) (ad 10) (q1.1, ca.1 s.toNatClampNeg, s, q1.2.2.2.1, q1.2.2.2.2.1, q1.2.2.2.2.2.1, q1.2.2.2.2.2.2) dk H.size) rfl hl.1 rfl (Nat.le_of_ble_eq_true rfl) d_RD_askToWriteOut_40 (by decide) (by decide)) (fun u2 H locs hp2 hw => ?_)
  obtain ⟨q2, d2⟩ := u2
  have hw : kx_w D (kx_T cI cZ cO) A_ s_ [((ad 0), .inr (0, [.int mm.1, .ref (ad 1), .ref (ad 6), .ref (ad 8), .ref (ad 10), .ref (ad 11), .ref (ad 12), .ref (ad 13), .ref (ad 14), .ref (ad 19), .ref (ad 20), .int mm.2.1, .int mm.2.2.1, .int mm.2.2.2])), ((ad 14), .inr (5, [.ref (ad 15), .ref (ad 16), .ref (ad 17), .ref (ad 18)])), ((ad 15), .inl (cI, 3, .inl ca.1)), ((ad 16), .inl (cI, 3, .inl ca.2.1)), ((ad 17), .inl (cZ, 3, .inl ca.2.2.1)), ((ad 18), .inl (cI, 3, .inl ca.2.2.2)), ((ad 12), .inr (4, [.int q2.1, .int q2.2.1, .int q2.2.2.1, .int q2.2.2.2.1, .int q2.2.2.2.2.1, .int q2.2.2.2.2.2.1, .int q2.2.2.2.2.2.2])), ((ad 10), .inr (3, [.int d2.1, .int d2.2.1, .int d2.2.2.1, .int d2.2.2.2.1, .int d2.2.2.2.2.1, .int d2.2.2.2.2.2]))] H locs := hw
  exact kx_ret_v I rfl hw (d2, q2) (by simp only [f_RD_askToWriteOut, ← hp1, ← hp2]) [0, 7, 6, 1, 2, 3, 4, 5] (by decide) rfl d_RD_askToWriteOut_43
def f_RD_askToReadIn (mm : kt_M) (dk : kt_Dr) (fr : kt_Rq) (b : Int32) (s : Int32) : kt_Dr × kt_Rq :=
  match f_Rq_open fr 1 with
  | q1 => match f_Rq_giveTo (q1.1, b, s, q1.2.2.2.1, q1.2.2.2.2.1, q1.2.2.2.2.2.1, q1.2.2.2.2.2.2) dk with
    | (q2, d2) => (d2, q2)
set_option maxHeartbeats 4000000 in
set_option maxRecDepth 100000 in
theorem c_RD_askToReadIn (l : Launch) (D : va_G) (cI cZ cO : ClassId) (ad : Nat → Nat) (mm : kt_M) (dk : kt_Dr) (fr : kt_Rq) (b : Int32) (s : Int32) : kx_Cv (S := kt_Dr × kt_Rq) l y_RD_askToReadIn b_RD_askToReadIn 3 1 0 0 D (kx_T cI cZ cO) [.ref (ad 0), .int b, .int s] [((ad 0), .inr (0, [.int mm.1, .ref (ad 1), .ref (ad 6), .ref (ad 8), .ref (ad 10), .ref (ad 11), .ref (ad 12), .ref (ad 13), .ref (ad 14), .ref (ad 19), .ref (ad 20), .int mm.2.1, .int mm.2.2.1, .int mm.2.2.2])), ((ad 10), .inr (3, [.int dk.1, .int dk.2.1, .int dk.2.2.1, .int dk.2.2.2.1, .int dk.2.2.2.2.1, .int dk.2.2.2.2.2])), ((ad 12), .inr (4, [.int fr.1, .int fr.2.1, .int fr.2.2.1, .int fr.2.2.2.1, .int fr.2.2.2.2.1, .int fr.2.2.2.2.2.1, .int fr.2.2.2.2.2.2]))] (fun zz => zz = f_RD_askToReadIn mm dk fr b s) (fun zz => [((ad 0), .inr (0, [.int mm.1, .ref (ad 1), .ref (ad 6), .ref (ad 8), .ref (ad 10), .ref (ad 11), .ref (ad 12), .ref (ad 13), .ref (ad 14), .ref (ad 19), .ref (ad 20), .int mm.2.1, .int mm.2.2.1, .int mm.2.2.2])), ((ad 10), .inr (3, [.int zz.1.1, .int zz.1.2.1, .int zz.1.2.2.1, .int zz.1.2.2.2.1, .int zz.1.2.2.2.2.1, .int zz.1.2.2.2.2.2])), ((ad 12), .inr (4, [.int zz.2.1, .int zz.2.2.1, .int zz.2.2.2.1, .int zz.2.2.2.2.1, .int zz.2.2.2.2.2.1, .int zz.2.2.2.2.2.2.1, .int zz.2.2.2.2.2.2.2]))]) := by
  refine kx_enter_v (by decide) (Nat.le_of_ble_eq_true rfl) ?_
  intro p_ e_ s_ m_ below_ meth_ c_ ls A_ H I hl hw
  have S := I.1
  have hx := S.1
  have hb := S.2.1
  have hl : lv_has ls 3 [(0, .ref (ad 0)), (1, .int b), (2, .int s)] := hl
  refine lv_aload_n hx hb d_RD_askToReadIn_0 rfl (lv_at hl 0 rfl) ?_
  refine kx_get S hw fg_RD_38 0 rfl rfl d_RD_askToReadIn_1 ?_
  refine lv_iconst (v := 1) hx hb d_RD_askToReadIn_4 (by decide) ?_
  refine kx_call_v (wc := [((ad 12), .inr (4, [.int fr.1, .int fr.2.1, .int fr.2.2.1, .int fr.2.2.2.1, .int fr.2.2.2.2.1, .int fr.2.2.2.2.2.1, .int fr.2.2.2.2.2.2]))]) (wr := [((ad 0), .inr (0, [.int mm.1, .ref (ad 1), .ref (ad 6), .ref (ad 8), .ref (ad 10), .ref (ad 11), .ref (ad 12), .ref (ad 13), .ref (ad 14), .ref (ad 19), .ref (ad 20), .int mm.2.1, .int mm.2.2.1, .int mm.2.2.2])), ((ad 10), .inr (3, [.int dk.1, .int dk.2.1, .int dk.2.2.1, .int dk.2.2.2.1, .int dk.2.2.2.2.1, .int dk.2.2.2.2.2]))]) (rest := []) hw [2] [0, 1] rfl rfl (by decide) (by decide) (kx_runV S hw fc_RD_258 rfl 2 rfl [2] (by decide) rfl (c_Rq_open l D cI cZ cO (ad 12) fr 1 H.size) rfl hl.1 rfl (Nat.le_of_ble_eq_true rfl) d_RD_askToReadIn_5 (by decide) (by decide)) (fun u1 H locs hp1 hw => ?_)
  obtain ⟨q1, rfl⟩ : ∃ z, z = u1 := ⟨_, rfl⟩
  have hw : kx_w D (kx_T cI cZ cO) A_ s_ [((ad 0), .inr (0, [.int mm.1, .ref (ad 1), .ref (ad 6), .ref (ad 8), .ref (ad 10), .ref (ad 11), .ref (ad 12), .ref (ad 13), .ref (ad 14), .ref (ad 19), .ref (ad 20), .int mm.2.1, .int mm.2.2.1, .int mm.2.2.2])), ((ad 10), .inr (3, [.int dk.1, .int dk.2.1, .int dk.2.2.1, .int dk.2.2.2.1, .int dk.2.2.2.2.1, .int dk.2.2.2.2.2])), ((ad 12), .inr (4, [.int q1.1, .int q1.2.1, .int q1.2.2.1, .int q1.2.2.2.1, .int q1.2.2.2.2.1, .int q1.2.2.2.2.2.1, .int q1.2.2.2.2.2.2]))] H locs := hw
  refine lv_aload_n hx hb d_RD_askToReadIn_8 rfl (lv_at hl 0 rfl) ?_
  refine kx_get S hw fg_RD_38 0 rfl rfl d_RD_askToReadIn_9 ?_
  refine lv_iload_n hx hb d_RD_askToReadIn_12 rfl (lv_at hl 1 rfl) ?_
  refine kx_put S hw fp_RD_165 2 rfl rfl rfl (Nat.le_of_ble_eq_true rfl) d_RD_askToReadIn_13 (fun H locs hw => ?_)
  have hw : kx_w D (kx_T cI cZ cO) A_ s_ [((ad 0), .inr (0, [.int mm.1, .ref (ad 1), .ref (ad 6), .ref (ad 8), .ref (ad 10), .ref (ad 11), .ref (ad 12), .ref (ad 13), .ref (ad 14), .ref (ad 19), .ref (ad 20), .int mm.2.1, .int mm.2.2.1, .int mm.2.2.2])), ((ad 10), .inr (3, [.int dk.1, .int dk.2.1, .int dk.2.2.1, .int dk.2.2.2.1, .int dk.2.2.2.2.1, .int dk.2.2.2.2.2])), ((ad 12), .inr (4, [.int q1.1, .int b, .int q1.2.2.1, .int q1.2.2.2.1, .int q1.2.2.2.2.1, .int q1.2.2.2.2.2.1, .int q1.2.2.2.2.2.2]))] H locs := hw
  refine lv_aload_n hx hb d_RD_askToReadIn_16 rfl (lv_at hl 0 rfl) ?_
  refine kx_get S hw fg_RD_38 0 rfl rfl d_RD_askToReadIn_17 ?_
  refine lv_iload_n hx hb d_RD_askToReadIn_20 rfl (lv_at hl 2 rfl) ?_
  refine kx_put S hw fp_RD_171 2 rfl rfl rfl (Nat.le_of_ble_eq_true rfl) d_RD_askToReadIn_21 (fun H locs hw => ?_)
  have hw : kx_w D (kx_T cI cZ cO) A_ s_ [((ad 0), .inr (0, [.int mm.1, .ref (ad 1), .ref (ad 6), .ref (ad 8), .ref (ad 10), .ref (ad 11), .ref (ad 12), .ref (ad 13), .ref (ad 14), .ref (ad 19), .ref (ad 20), .int mm.2.1, .int mm.2.2.1, .int mm.2.2.2])), ((ad 10), .inr (3, [.int dk.1, .int dk.2.1, .int dk.2.2.1, .int dk.2.2.2.1, .int dk.2.2.2.2.1, .int dk.2.2.2.2.2])), ((ad 12), .inr (4, [.int q1.1, .int b, .int s, .int q1.2.2.2.1, .int q1.2.2.2.2.1, .int q1.2.2.2.2.2.1, .int q1.2.2.2.2.2.2]))] H locs := hw
  refine lv_aload_n hx hb d_RD_askToReadIn_24 rfl (lv_at hl 0 rfl) ?_
  refine kx_get S hw fg_RD_38 0 rfl rfl d_RD_askToReadIn_25 ?_
  refine lv_aload_n hx hb d_RD_askToReadIn_28 rfl (lv_at hl 0 rfl) ?_
  refine kx_get S hw fg_RD_28 0 rfl rfl d_RD_askToReadIn_29 ?_
  refine kx_call_v (wc := [((ad 12), .inr (4, [.int q1.1, .int b, .int s, .int q1.2.2.2.1, .int q1.2.2.2.2.1, .int q1.2.2.2.2.2.1, .int q1.2.2.2.2.2.2])), ((ad 10), .inr (3, [.int dk.1, .int dk.2.1, .int dk.2.2.1, .int dk.2.2.2.1, .int dk.2.2.2.2.1, .int dk.2.2.2.2.2]))]) (wr := [((ad 0), .inr (0, [.int mm.1, .ref (ad 1), .ref (ad 6), .ref (ad 8), .ref (ad 10), .ref (ad 11), .ref (ad 12), .ref (ad 13), .ref (ad 14), .ref (ad 19), .ref (ad 20), .int mm.2.1, .int mm.2.2.1, .int mm.2.2.2]))]) (rest := []) hw [2, 1] [0] rfl rfl (by decide) (by decide) (kx_runV S hw fc_RD_191 rfl 2 rfl [2, 1] (by decide) rfl (c_Rq_giveTo l D cI cZ cO (ad 12) (ad 10) (q1.1, b, s, q1.2.2.2.1, q1.2.2.2.2.1, q1.2.2.2.2.2.1, q1.2.2.2.2.2.2) dk H.size) rfl hl.1 rfl (Nat.le_of_ble_eq_true rfl) d_RD_askToReadIn_32 (by decide) (by decide)) (fun u2 H locs hp2 hw => ?_)
  obtain ⟨q2, d2⟩ := u2
  have hw : kx_w D (kx_T cI cZ cO) A_ s_ [((ad 0), .inr (0, [.int mm.1, .ref (ad 1), .ref (ad 6), .ref (ad 8), .ref (ad 10), .ref (ad 11), .ref (ad 12), .ref (ad 13), .ref (ad 14), .ref (ad 19), .ref (ad 20), .int mm.2.1, .int mm.2.2.1, .int mm.2.2.2])), ((ad 12), .inr (4, [.int q2.1, .int q2.2.1, .int q2.2.2.1, .int q2.2.2.2.1, .int q2.2.2.2.2.1, .int q2.2.2.2.2.2.1, .int q2.2.2.2.2.2.2])), ((ad 10), .inr (3, [.int d2.1, .int d2.2.1, .int d2.2.2.1, .int d2.2.2.2.1, .int d2.2.2.2.2.1, .int d2.2.2.2.2.2]))] H locs := hw
  exact kx_ret_v I rfl hw (d2, q2) (by simp only [f_RD_askToReadIn, ← hp1, ← hp2]) [0, 2, 1] (by decide) rfl d_RD_askToReadIn_35
def f_RD_askToPutOut (mm : kt_M) (co : kt_Dr) (tr : kt_Rq) (c : Int32) : kt_Dr × kt_Rq :=
  match f_Rq_open tr 3 with
  | q1 => match f_Rq_giveTo (q1.1, q1.2.1, q1.2.2.1, c, q1.2.2.2.2.1, q1.2.2.2.2.2.1, q1.2.2.2.2.2.2) co with
    | (q2, d2) => (d2, q2)
set_option maxHeartbeats 4000000 in
set_option maxRecDepth 100000 in
theorem c_RD_askToPutOut (l : Launch) (D : va_G) (cI cZ cO : ClassId) (ad : Nat → Nat) (mm : kt_M) (co : kt_Dr) (tr : kt_Rq) (c : Int32) : kx_Cv (S := kt_Dr × kt_Rq) l y_RD_askToPutOut b_RD_askToPutOut 2 1 0 0 D (kx_T cI cZ cO) [.ref (ad 0), .int c] [((ad 0), .inr (0, [.int mm.1, .ref (ad 1), .ref (ad 6), .ref (ad 8), .ref (ad 10), .ref (ad 11), .ref (ad 12), .ref (ad 13), .ref (ad 14), .ref (ad 19), .ref (ad 20), .int mm.2.1, .int mm.2.2.1, .int mm.2.2.2])), ((ad 11), .inr (3, [.int co.1, .int co.2.1, .int co.2.2.1, .int co.2.2.2.1, .int co.2.2.2.2.1, .int co.2.2.2.2.2])), ((ad 13), .inr (4, [.int tr.1, .int tr.2.1, .int tr.2.2.1, .int tr.2.2.2.1, .int tr.2.2.2.2.1, .int tr.2.2.2.2.2.1, .int tr.2.2.2.2.2.2]))] (fun zz => zz = f_RD_askToPutOut mm co tr c) (fun zz => [((ad 0), .inr (0, [.int mm.1, .ref (ad 1), .ref (ad 6), .ref (ad 8), .ref (ad 10), .ref (ad 11), .ref (ad 12), .ref (ad 13), .ref (ad 14), .ref (ad 19), .ref (ad 20), .int mm.2.1, .int mm.2.2.1, .int mm.2.2.2])), ((ad 11), .inr (3, [.int zz.1.1, .int zz.1.2.1, .int zz.1.2.2.1, .int zz.1.2.2.2.1, .int zz.1.2.2.2.2.1, .int zz.1.2.2.2.2.2])), ((ad 13), .inr (4, [.int zz.2.1, .int zz.2.2.1, .int zz.2.2.2.1, .int zz.2.2.2.2.1, .int zz.2.2.2.2.2.1, .int zz.2.2.2.2.2.2.1, .int zz.2.2.2.2.2.2.2]))]) := by
  refine kx_enter_v (by decide) (Nat.le_of_ble_eq_true rfl) ?_
  intro p_ e_ s_ m_ below_ meth_ c_ ls A_ H I hl hw
  have S := I.1
  have hx := S.1
  have hb := S.2.1
  have hl : lv_has ls 2 [(0, .ref (ad 0)), (1, .int c)] := hl
  refine lv_aload_n hx hb d_RD_askToPutOut_0 rfl (lv_at hl 0 rfl) ?_
  refine kx_get S hw fg_RD_42 0 rfl rfl d_RD_askToPutOut_1 ?_
  refine lv_iconst (v := 3) hx hb d_RD_askToPutOut_4 (by decide) ?_
  refine kx_call_v (wc := [((ad 13), .inr (4, [.int tr.1, .int tr.2.1, .int tr.2.2.1, .int tr.2.2.2.1, .int tr.2.2.2.2.1, .int tr.2.2.2.2.2.1, .int tr.2.2.2.2.2.2]))]) (wr := [((ad 0), .inr (0, [.int mm.1, .ref (ad 1), .ref (ad 6), .ref (ad 8), .ref (ad 10), .ref (ad 11), .ref (ad 12), .ref (ad 13), .ref (ad 14), .ref (ad 19), .ref (ad 20), .int mm.2.1, .int mm.2.2.1, .int mm.2.2.2])), ((ad 11), .inr (3, [.int co.1, .int co.2.1, .int co.2.2.1, .int co.2.2.2.1, .int co.2.2.2.2.1, .int co.2.2.2.2.2]))]) (rest := []) hw [2] [0, 1] rfl rfl (by decide) (by decide) (kx_runV S hw fc_RD_258 rfl 2 rfl [2] (by decide) rfl (c_Rq_open l D cI cZ cO (ad 13) tr 3 H.size) rfl hl.1 rfl (Nat.le_of_ble_eq_true rfl) d_RD_askToPutOut_5 (by decide) (by decide)) (fun u1 H locs hp1 hw => ?_)
  obtain ⟨q1, rfl⟩ : ∃ z, z = u1 := ⟨_, rfl⟩
  have hw : kx_w D (kx_T cI cZ cO) A_ s_ [((ad 0), .inr (0, [.int mm.1, .ref (ad 1), .ref (ad 6), .ref (ad 8), .ref (ad 10), .ref (ad 11), .ref (ad 12), .ref (ad 13), .ref (ad 14), .ref (ad 19), .ref (ad 20), .int mm.2.1, .int mm.2.2.1, .int mm.2.2.2])), ((ad 11), .inr (3, [.int co.1, .int co.2.1, .int co.2.2.1, .int co.2.2.2.1, .int co.2.2.2.2.1, .int co.2.2.2.2.2])), ((ad 13), .inr (4, [.int q1.1, .int q1.2.1, .int q1.2.2.1, .int q1.2.2.2.1, .int q1.2.2.2.2.1, .int q1.2.2.2.2.2.1, .int q1.2.2.2.2.2.2]))] H locs := hw
  refine lv_aload_n hx hb d_RD_askToPutOut_8 rfl (lv_at hl 0 rfl) ?_
  refine kx_get S hw fg_RD_42 0 rfl rfl d_RD_askToPutOut_9 ?_
  refine lv_iload_n hx hb d_RD_askToPutOut_12 rfl (lv_at hl 1 rfl) ?_
  refine kx_put S hw fp_RD_174 2 rfl rfl rfl (Nat.le_of_ble_eq_true rfl) d_RD_askToPutOut_13 (fun H locs hw => ?_)
  have hw : kx_w D (kx_T cI cZ cO) A_ s_ [((ad 0), .inr (0, [.int mm.1, .ref (ad 1), .ref (ad 6), .ref (ad 8), .ref (ad 10), .ref (ad 11), .ref (ad 12), .ref (ad 13), .ref (ad 14), .ref (ad 19), .ref (ad 20), .int mm.2.1, .int mm.2.2.1, .int mm.2.2.2])), ((ad 11), .inr (3, [.int co.1, .int co.2.1, .int co.2.2.1, .int co.2.2.2.1, .int co.2.2.2.2.1, .int co.2.2.2.2.2])), ((ad 13), .inr (4, [.int q1.1, .int q1.2.1, .int q1.2.2.1, .int c, .int q1.2.2.2.2.1, .int q1.2.2.2.2.2.1, .int q1.2.2.2.2.2.2]))] H locs := hw
  refine lv_aload_n hx hb d_RD_askToPutOut_16 rfl (lv_at hl 0 rfl) ?_
  refine kx_get S hw fg_RD_42 0 rfl rfl d_RD_askToPutOut_17 ?_
  refine lv_aload_n hx hb d_RD_askToPutOut_20 rfl (lv_at hl 0 rfl) ?_
  refine kx_get S hw fg_RD_32 0 rfl rfl d_RD_askToPutOut_21 ?_
  refine kx_call_v (wc := [((ad 13), .inr (4, [.int q1.1, .int q1.2.1, .int q1.2.2.1, .int c, .int q1.2.2.2.2.1, .int q1.2.2.2.2.2.1, .int q1.2.2.2.2.2.2])), ((ad 11), .inr (3, [.int co.1, .int co.2.1, .int co.2.2.1, .int co.2.2.2.1, .int co.2.2.2.2.1, .int co.2.2.2.2.2]))]) (wr := [((ad 0), .inr (0, [.int mm.1, .ref (ad 1), .ref (ad 6), .ref (ad 8), .ref (ad 10), .ref (ad 11), .ref (ad 12), .ref (ad 13), .ref (ad 14), .ref (ad 19), .ref (ad 20), .int mm.2.1, .int mm.2.2.1, .int mm.2.2.2]))]) (rest := []) hw [2, 1] [0] rfl rfl (by decide) (by decide) (kx_runV S hw fc_RD_191 rfl 2 rfl [2, 1] (by decide) rfl (c_Rq_giveTo l D cI cZ cO (ad 13) (ad 11) (q1.1, q1.2.1, q1.2.2.1, c, q1.2.2.2.2.1, q1.2.2.2.2.2.1, q1.2.2.2.2.2.2) co H.size) rfl hl.1 rfl (Nat.le_of_ble_eq_true rfl) d_RD_askToPutOut_24 (by decide) (by decide)) (fun u2 H locs hp2 hw => ?_)
  obtain ⟨q2, d2⟩ := u2
  have hw : kx_w D (kx_T cI cZ cO) A_ s_ [((ad 0), .inr (0, [.int mm.1, .ref (ad 1), .ref (ad 6), .ref (ad 8), .ref (ad 10), .ref (ad 11), .ref (ad 12), .ref (ad 13), .ref (ad 14), .ref (ad 19), .ref (ad 20), .int mm.2.1, .int mm.2.2.1, .int mm.2.2.2])), ((ad 13), .inr (4, [.int q2.1, .int q2.2.1, .int q2.2.2.1, .int q2.2.2.2.1, .int q2.2.2.2.2.1, .int q2.2.2.2.2.2.1, .int q2.2.2.2.2.2.2])), ((ad 11), .inr (3, [.int d2.1, .int d2.2.1, .int d2.2.2.1, .int d2.2.2.2.1, .int d2.2.2.2.2.1, .int d2.2.2.2.2.2]))] H locs := hw
  exact kx_ret_v I rfl hw (d2, q2) (by simp only [f_RD_askToPutOut, ← hp1, ← hp2]) [0, 2, 1] (by decide) rfl d_RD_askToPutOut_27
