theorem mm_439 : Cond.fieldLink "RebornDriversModel" 74 "RebornDriversModel" "period" "I" ∈ kx_tbl := List.mem_filter.mpr ⟨List.mem_append_right _ (List.mem_of_getElem? (i := 439) (by decide +kernel)), by decide +kernel⟩
theorem mm_459 : Cond.fieldLink "RebornDriversModel" 59 "RebornDriversModel" "given" "[I" ∈ kx_tbl := List.mem_filter.mpr ⟨List.mem_append_right _ (List.mem_of_getElem? (i := 459) (by decide +kernel)), by decide +kernel⟩
theorem mm_461 : Cond.fieldLink "RebornDriversModel" 98 "RebornDriversModel" "bringing" "Z" ∈ kx_tbl := List.mem_filter.mpr ⟨List.mem_append_right _ (List.mem_of_getElem? (i := 461) (by decide +kernel)), by decide +kernel⟩
theorem mm_460 : Cond.fieldLink "RebornDriversModel" 108 "RebornDriversModel" "slotOf" "I" ∈ kx_tbl := List.mem_filter.mpr ⟨List.mem_append_right _ (List.mem_of_getElem? (i := 460) (by decide +kernel)), by decide +kernel⟩
theorem mm_462 : Cond.fieldLink "RebornDriversModel" 102 "RebornDriversModel" "wanted" "I" ∈ kx_tbl := List.mem_filter.mpr ⟨List.mem_append_right _ (List.mem_of_getElem? (i := 462) (by decide +kernel)), by decide +kernel⟩
theorem mm_463 : Cond.fieldLink "RebornDriversModel" 105 "RebornDriversModel" "buffer" "I" ∈ kx_tbl := List.mem_filter.mpr ⟨List.mem_append_right _ (List.mem_of_getElem? (i := 463) (by decide +kernel)), by decide +kernel⟩
theorem mm_577 : Cond.code ⟨"RebornDriversModel", "head", "(I)I"⟩ prog_8_method_8_code 4 (some .int) ∈ kx_tbl := List.mem_filter.mpr ⟨List.mem_append_right _ (List.mem_of_getElem? (i := 577) (by decide +kernel)), by decide +kernel⟩
theorem mm_574 : Cond.methodLink "RebornDriversModel" 114 ⟨"RebornDriversModel", "head", "(I)I"⟩ ∈ kx_tbl := List.mem_filter.mpr ⟨List.mem_append_right _ (List.mem_of_getElem? (i := 574) (by decide +kernel)), by decide +kernel⟩
theorem mm_576 : Cond.instanceMethod ⟨"RebornDriversModel", "head", "(I)I"⟩ ∈ kx_tbl := List.mem_filter.mpr ⟨List.mem_append_right _ (List.mem_of_getElem? (i := 576) (by decide +kernel)), by decide +kernel⟩
theorem mm_589 : Cond.code ⟨"RebornDriversModel", "give", "(I)V"⟩ prog_8_method_15_code 2 none ∈ kx_tbl := List.mem_filter.mpr ⟨List.mem_append_right _ (List.mem_of_getElem? (i := 589) (by decide +kernel)), by decide +kernel⟩
theorem mm_586 : Cond.methodLink "RebornDriversModel" 118 ⟨"RebornDriversModel", "give", "(I)V"⟩ ∈ kx_tbl := List.mem_filter.mpr ⟨List.mem_append_right _ (List.mem_of_getElem? (i := 586) (by decide +kernel)), by decide +kernel⟩
theorem mm_588 : Cond.instanceMethod ⟨"RebornDriversModel", "give", "(I)V"⟩ ∈ kx_tbl := List.mem_filter.mpr ⟨List.mem_append_right _ (List.mem_of_getElem? (i := 588) (by decide +kernel)), by decide +kernel⟩
theorem mm_467 : Cond.fieldLink "RebornDriversModel" 71 "RebornDriversModel" "used" "[I" ∈ kx_tbl := List.mem_filter.mpr ⟨List.mem_append_right _ (List.mem_of_getElem? (i := 467) (by decide +kernel)), by decide +kernel⟩
theorem mm_468 : Cond.fieldLink "RebornDriversModel" 122 "RebornDriversModel" "uses" "I" ∈ kx_tbl := List.mem_filter.mpr ⟨List.mem_append_right _ (List.mem_of_getElem? (i := 468) (by decide +kernel)), by decide +kernel⟩
theorem mm_613 : Cond.code ⟨"RebornDriversModel", "use", "(I)V"⟩ prog_8_method_19_code 2 none ∈ kx_tbl := List.mem_filter.mpr ⟨List.mem_append_right _ (List.mem_of_getElem? (i := 613) (by decide +kernel)), by decide +kernel⟩
theorem mm_610 : Cond.methodLink "RebornDriversModel" 125 ⟨"RebornDriversModel", "use", "(I)V"⟩ ∈ kx_tbl := List.mem_filter.mpr ⟨List.mem_append_right _ (List.mem_of_getElem? (i := 610) (by decide +kernel)), by decide +kernel⟩
theorem mm_612 : Cond.instanceMethod ⟨"RebornDriversModel", "use", "(I)V"⟩ ∈ kx_tbl := List.mem_filter.mpr ⟨List.mem_append_right _ (List.mem_of_getElem? (i := 612) (by decide +kernel)), by decide +kernel⟩
theorem mm_597 : Cond.code ⟨"RebornDriversModel", "end", "(III)V"⟩ prog_8_method_9_code 4 none ∈ kx_tbl := List.mem_filter.mpr ⟨List.mem_append_right _ (List.mem_of_getElem? (i := 597) (by decide +kernel)), by decide +kernel⟩
theorem mm_594 : Cond.methodLink "RebornDriversModel" 128 ⟨"RebornDriversModel", "end", "(III)V"⟩ ∈ kx_tbl := List.mem_filter.mpr ⟨List.mem_append_right _ (List.mem_of_getElem? (i := 594) (by decide +kernel)), by decide +kernel⟩
theorem mm_596 : Cond.instanceMethod ⟨"RebornDriversModel", "end", "(III)V"⟩ ∈ kx_tbl := List.mem_filter.mpr ⟨List.mem_append_right _ (List.mem_of_getElem? (i := 596) (by decide +kernel)), by decide +kernel⟩
theorem fg_Md_74 : kx_f "RebornDriversModel" 74 6 0 := ⟨R_Md, F_Md, 30, rfl, by decide, in_Md, Or.inl mm_439⟩
theorem fg_Md_59 : kx_f "RebornDriversModel" 59 6 20 := ⟨R_Md, F_Md, 30, rfl, by decide, in_Md, Or.inl mm_459⟩
theorem fg_Md_98 : kx_f "RebornDriversModel" 98 6 22 := ⟨R_Md, F_Md, 30, rfl, by decide, in_Md, Or.inl mm_461⟩
theorem fg_Md_108 : kx_f "RebornDriversModel" 108 6 21 := ⟨R_Md, F_Md, 30, rfl, by decide, in_Md, Or.inl mm_460⟩
theorem fg_Md_102 : kx_f "RebornDriversModel" 102 6 23 := ⟨R_Md, F_Md, 30, rfl, by decide, in_Md, Or.inl mm_462⟩
theorem fp_Md_105 : kx_q "RebornDriversModel" 105 6 24 (.int) := ⟨R_Md, F_Md, 30, t_Md, rfl, by decide, in_Md, Or.inl mm_463, t_Md_ok, n_Md, rfl, by decide +kernel⟩
theorem sel_Md_head : Cond.selects "RebornDriversModel" y_Md_head y_Md_head ∈ kx_tbl := List.mem_filter.mpr ⟨List.mem_append_left _ (by decide +kernel), by decide +kernel⟩
theorem fc_Md_114 : kx_m "RebornDriversModel" 114 y_Md_head b_Md_head 4 (some .int) 1 ∧ Cond.instanceMethod y_Md_head ∈ kx_tbl ∧ Cond.selects "RebornDriversModel" y_Md_head y_Md_head ∈ kx_tbl := ⟨⟨mm_577, mm_8, by decide +kernel, Or.inl mm_574⟩, mm_576, sel_Md_head⟩
theorem fp_Md_111 : kx_q "RebornDriversModel" 111 6 12 (.int) := ⟨R_Md, F_Md, 30, t_Md, rfl, by decide, in_Md, Or.inl mm_451, t_Md_ok, n_Md, rfl, by decide +kernel⟩
theorem fp_Md_108 : kx_q "RebornDriversModel" 108 6 21 (.int) := ⟨R_Md, F_Md, 30, t_Md, rfl, by decide, in_Md, Or.inl mm_460, t_Md_ok, n_Md, rfl, by decide +kernel⟩
theorem fp_Md_98 : kx_q "RebornDriversModel" 98 6 22 (.boolean) := ⟨R_Md, F_Md, 30, t_Md, rfl, by decide, in_Md, Or.inl mm_461, t_Md_ok, n_Md, rfl, by decide +kernel⟩
theorem fp_Md_102 : kx_q "RebornDriversModel" 102 6 23 (.int) := ⟨R_Md, F_Md, 30, t_Md, rfl, by decide, in_Md, Or.inl mm_462, t_Md_ok, n_Md, rfl, by decide +kernel⟩
theorem sel_Md_give : Cond.selects "RebornDriversModel" y_Md_give y_Md_give ∈ kx_tbl := List.mem_filter.mpr ⟨List.mem_append_left _ (by decide +kernel), by decide +kernel⟩
theorem fc_Md_118 : kx_m "RebornDriversModel" 118 y_Md_give b_Md_give 2 none 1 ∧ Cond.instanceMethod y_Md_give ∈ kx_tbl ∧ Cond.selects "RebornDriversModel" y_Md_give y_Md_give ∈ kx_tbl := ⟨⟨mm_589, mm_8, by decide +kernel, Or.inl mm_586⟩, mm_588, sel_Md_give⟩
theorem fg_Md_71 : kx_f "RebornDriversModel" 71 6 28 := ⟨R_Md, F_Md, 30, rfl, by decide, in_Md, Or.inl mm_467⟩
theorem fg_Md_122 : kx_f "RebornDriversModel" 122 6 29 := ⟨R_Md, F_Md, 30, rfl, by decide, in_Md, Or.inl mm_468⟩
theorem fp_Md_122 : kx_q "RebornDriversModel" 122 6 29 (.int) := ⟨R_Md, F_Md, 30, t_Md, rfl, by decide, in_Md, Or.inl mm_468, t_Md_ok, n_Md, rfl, by decide +kernel⟩
theorem sel_Md_use : Cond.selects "RebornDriversModel" y_Md_use y_Md_use ∈ kx_tbl := List.mem_filter.mpr ⟨List.mem_append_left _ (by decide +kernel), by decide +kernel⟩
theorem fc_Md_125 : kx_m "RebornDriversModel" 125 y_Md_use b_Md_use 2 none 1 ∧ Cond.instanceMethod y_Md_use ∈ kx_tbl ∧ Cond.selects "RebornDriversModel" y_Md_use y_Md_use ∈ kx_tbl := ⟨⟨mm_613, mm_8, by decide +kernel, Or.inl mm_610⟩, mm_612, sel_Md_use⟩
theorem sel_Md_end : Cond.selects "RebornDriversModel" y_Md_end y_Md_end ∈ kx_tbl := List.mem_filter.mpr ⟨List.mem_append_left _ (by decide +kernel), by decide +kernel⟩
theorem fc_Md_128 : kx_m "RebornDriversModel" 128 y_Md_end b_Md_end 4 none 3 ∧ Cond.instanceMethod y_Md_end ∈ kx_tbl ∧ Cond.selects "RebornDriversModel" y_Md_end y_Md_end ∈ kx_tbl := ⟨⟨mm_597, mm_8, by decide +kernel, Or.inl mm_594⟩, mm_596, sel_Md_end⟩

def f_Md_reincarnate_0 (mi : kt_I) (e : kt_E) : kt_E :=
  if (mi.2.1 - mi.2.1 / mi.1 * mi.1) = 0 then (if (e.2.1 0) = 2 then (upd e.1 0 ((e.1 0) + 1), upd e.2.1 0 0, upd e.2.2.1 0 0, upd e.2.2.2.1 0 (-1), e.2.2.2.2.1, upd e.2.2.2.2.2.1 0 0, e.2.2.2.2.2.2.1, e.2.2.2.2.2.2.2)
    else if (e.2.2.2.2.2.1 0) = 0 then (e.1, e.2.1, e.2.2.1, e.2.2.2.1, e.2.2.2.2.1, upd e.2.2.2.2.2.1 0 1, e.2.2.2.2.2.2.1, e.2.2.2.2.2.2.2)
    else (upd e.1 0 ((e.1 0) + 1), upd e.2.1 0 0, upd e.2.2.1 0 0, upd e.2.2.2.1 0 (-1), e.2.2.2.2.1, upd e.2.2.2.2.2.1 0 0, e.2.2.2.2.2.2.1, e.2.2.2.2.2.2.2))
  else if (e.2.1 0) = 2 then (upd e.1 0 ((e.1 0) + 1), upd e.2.1 0 0, upd e.2.2.1 0 0, upd e.2.2.2.1 0 (-1), e.2.2.2.2.1, upd e.2.2.2.2.2.1 0 0, e.2.2.2.2.2.2.1, e.2.2.2.2.2.2.2)
  else e
set_option maxHeartbeats 4000000 in
set_option maxRecDepth 100000 in
theorem c_Md_reincarnate_0 (l : Launch) (D : va_G) (cI cZ cO : ClassId) (bm : Nat → Nat) (mi : kt_I) (e : kt_E) (hpp : ¬ mi.1 = 0) : kx_Cv (S := kt_E) l y_Md_reincarnate b_Md_reincarnate 3 0 0 0 D (kx_T cI cZ cO) [.ref (bm 0), .int 0] [((bm 0), .inr (6, [.int mi.1, .int mi.2.1, .int mi.2.2.1, .ref (bm 1), .ref (bm 2), .ref (bm 3), .ref (bm 4), .ref (bm 5), .ref (bm 6), .ref (bm 7), .ref (bm 8), .ref (bm 9), .int mi.2.2.2.1, .ref (bm 10), .ref (bm 11), .ref (bm 12), .ref (bm 13), .ref (bm 14), .ref (bm 15), .ref (bm 16), .ref (bm 17), .int mi.2.2.2.2.1, .int mi.2.2.2.2.2.1, .int mi.2.2.2.2.2.2.1, .int mi.2.2.2.2.2.2.2.1, .ref (bm 18), .ref (bm 19), .ref (bm 20), .ref (bm 21), .int mi.2.2.2.2.2.2.2.2])), ((bm 10), .inl (cI, 2, .inl e.1)), ((bm 11), .inl (cI, 2, .inl e.2.1)), ((bm 12), .inl (cI, 2, .inl e.2.2.1)), ((bm 13), .inl (cI, 2, .inl e.2.2.2.1)), ((bm 14), .inl (cI, 2, .inl e.2.2.2.2.1)), ((bm 15), .inl (cZ, 2, .inl e.2.2.2.2.2.1)), ((bm 16), .inl (cI, 2, .inl e.2.2.2.2.2.2.1)), ((bm 17), .inl (cI, 2, .inl e.2.2.2.2.2.2.2))] (fun zz => zz = f_Md_reincarnate_0 mi e) (fun zz => [((bm 0), .inr (6, [.int mi.1, .int mi.2.1, .int mi.2.2.1, .ref (bm 1), .ref (bm 2), .ref (bm 3), .ref (bm 4), .ref (bm 5), .ref (bm 6), .ref (bm 7), .ref (bm 8), .ref (bm 9), .int mi.2.2.2.1, .ref (bm 10), .ref (bm 11), .ref (bm 12), .ref (bm 13), .ref (bm 14), .ref (bm 15), .ref (bm 16), .ref (bm 17), .int mi.2.2.2.2.1, .int mi.2.2.2.2.2.1, .int mi.2.2.2.2.2.2.1, .int mi.2.2.2.2.2.2.2.1, .ref (bm 18), .ref (bm 19), .ref (bm 20), .ref (bm 21), .int mi.2.2.2.2.2.2.2.2])), ((bm 10), .inl (cI, 2, .inl zz.1)), ((bm 11), .inl (cI, 2, .inl zz.2.1)), ((bm 12), .inl (cI, 2, .inl zz.2.2.1)), ((bm 13), .inl (cI, 2, .inl zz.2.2.2.1)), ((bm 14), .inl (cI, 2, .inl zz.2.2.2.2.1)), ((bm 15), .inl (cZ, 2, .inl zz.2.2.2.2.2.1)), ((bm 16), .inl (cI, 2, .inl zz.2.2.2.2.2.2.1)), ((bm 17), .inl (cI, 2, .inl zz.2.2.2.2.2.2.2))]) := by
  refine kx_enter_v (by decide) (Nat.le_of_ble_eq_true rfl) ?_
  intro p_ e_ s_ m_ below_ meth_ c_ ls A_ H I hl hw
  have S := I.1
  have hx := S.1
  have hb := S.2.1
  have hl : lv_has ls 3 [(0, .ref (bm 0)), (1, .int 0)] := hl
  refine lv_aload_n hx hb d_Md_reincarnate_0 rfl (lv_at hl 0 rfl) ?_
  refine kx_get S hw fg_Md_89 0 rfl rfl d_Md_reincarnate_1 ?_
  refine lv_aload_n hx hb d_Md_reincarnate_4 rfl (lv_at hl 0 rfl) ?_
  refine kx_get S hw fg_Md_74 0 rfl rfl d_Md_reincarnate_5 ?_
  refine lv_irem hx hb d_Md_reincarnate_8 hpp ?_
  refine lv_if_ne (tgt := 16) hx hb d_Md_reincarnate_9 (by decide) (fun h1 => ?_) (fun h1 => ?_)
  · refine lv_iconst (v := 0) hx hb d_Md_reincarnate_16 (by decide) ?_
    refine lv_istore_n (lv' := [(2, .int 0), (0, .ref (bm 0)), (1, .int 0)]) hx hb d_Md_reincarnate_17 rfl hl (by decide) rfl (fun ls hl => ?_)
    refine lv_aload_n hx hb d_Md_reincarnate_18 rfl (lv_at hl 1 rfl) ?_
    refine kx_get S hw fg_Md_40 0 rfl rfl d_Md_reincarnate_19 ?_
    refine lv_iload_n hx hb d_Md_reincarnate_22 rfl (lv_at hl 2 rfl) ?_
    refine kx_iald S hw 2 0 rfl rfl (j := 0) (by decide) (by unfold vp_in; decide) d_Md_reincarnate_23 ?_
    refine lv_iconst (v := 2) hx hb d_Md_reincarnate_24 (by decide) ?_
    refine lv_icmp_eq (tgt := 41) hx hb d_Md_reincarnate_25 (by decide) (fun h2 => ?_) (fun h2 => ?_)
    · refine lv_aload_n hx hb d_Md_reincarnate_41 rfl (lv_at hl 1 rfl) ?_
      refine kx_get S hw fg_Md_37 0 rfl rfl d_Md_reincarnate_42 ?_
      refine lv_iload_n hx hb d_Md_reincarnate_45 rfl (lv_at hl 2 rfl) ?_
      refine lv_dup2_11 hx hb d_Md_reincarnate_46 rfl rfl ?_
      refine kx_iald S hw 1 0 rfl rfl (j := 0) (by decide) (by unfold vp_in; decide) d_Md_reincarnate_47 ?_
      refine lv_iconst (v := 1) hx hb d_Md_reincarnate_48 (by decide) ?_
      refine lv_iadd hx hb d_Md_reincarnate_49 ?_
      refine kx_iast S hw 1 0 rfl rfl (j := 0) (by decide) (by unfold vp_in; decide) d_Md_reincarnate_50 (fun H locs hw => ?_)
      have hw : kx_w D (kx_T cI cZ cO) A_ s_ [((bm 0), .inr (6, [.int mi.1, .int mi.2.1, .int mi.2.2.1, .ref (bm 1), .ref (bm 2), .ref (bm 3), .ref (bm 4), .ref (bm 5), .ref (bm 6), .ref (bm 7), .ref (bm 8), .ref (bm 9), .int mi.2.2.2.1, .ref (bm 10), .ref (bm 11), .ref (bm 12), .ref (bm 13), .ref (bm 14), .ref (bm 15), .ref (bm 16), .ref (bm 17), .int mi.2.2.2.2.1, .int mi.2.2.2.2.2.1, .int mi.2.2.2.2.2.2.1, .int mi.2.2.2.2.2.2.2.1, .ref (bm 18), .ref (bm 19), .ref (bm 20), .ref (bm 21), .int mi.2.2.2.2.2.2.2.2])), ((bm 10), .inl (cI, 2, .inl (upd e.1 0 ((e.1 0) + 1)))), ((bm 11), .inl (cI, 2, .inl e.2.1)), ((bm 12), .inl (cI, 2, .inl e.2.2.1)), ((bm 13), .inl (cI, 2, .inl e.2.2.2.1)), ((bm 14), .inl (cI, 2, .inl e.2.2.2.2.1)), ((bm 15), .inl (cZ, 2, .inl e.2.2.2.2.2.1)), ((bm 16), .inl (cI, 2, .inl e.2.2.2.2.2.2.1)), ((bm 17), .inl (cI, 2, .inl e.2.2.2.2.2.2.2))] H locs := hw
      refine lv_aload_n hx hb d_Md_reincarnate_51 rfl (lv_at hl 1 rfl) ?_
      refine kx_get S hw fg_Md_40 0 rfl rfl d_Md_reincarnate_52 ?_
      refine lv_iload_n hx hb d_Md_reincarnate_55 rfl (lv_at hl 2 rfl) ?_
      refine lv_iconst (v := 0) hx hb d_Md_reincarnate_56 (by decide) ?_
      refine kx_iast S hw 2 0 rfl rfl (j := 0) (by decide) (by unfold vp_in; decide) d_Md_reincarnate_57 (fun H locs hw => ?_)
      have hw : kx_w D (kx_T cI cZ cO) A_ s_ [((bm 0), .inr (6, [.int mi.1, .int mi.2.1, .int mi.2.2.1, .ref (bm 1), .ref (bm 2), .ref (bm 3), .ref (bm 4), .ref (bm 5), .ref (bm 6), .ref (bm 7), .ref (bm 8), .ref (bm 9), .int mi.2.2.2.1, .ref (bm 10), .ref (bm 11), .ref (bm 12), .ref (bm 13), .ref (bm 14), .ref (bm 15), .ref (bm 16), .ref (bm 17), .int mi.2.2.2.2.1, .int mi.2.2.2.2.2.1, .int mi.2.2.2.2.2.2.1, .int mi.2.2.2.2.2.2.2.1, .ref (bm 18), .ref (bm 19), .ref (bm 20), .ref (bm 21), .int mi.2.2.2.2.2.2.2.2])), ((bm 10), .inl (cI, 2, .inl (upd e.1 0 ((e.1 0) + 1)))), ((bm 11), .inl (cI, 2, .inl (upd e.2.1 0 0))), ((bm 12), .inl (cI, 2, .inl e.2.2.1)), ((bm 13), .inl (cI, 2, .inl e.2.2.2.1)), ((bm 14), .inl (cI, 2, .inl e.2.2.2.2.1)), ((bm 15), .inl (cZ, 2, .inl e.2.2.2.2.2.1)), ((bm 16), .inl (cI, 2, .inl e.2.2.2.2.2.2.1)), ((bm 17), .inl (cI, 2, .inl e.2.2.2.2.2.2.2))] H locs := hw
      refine lv_aload_n hx hb d_Md_reincarnate_58 rfl (lv_at hl 1 rfl) ?_
      refine kx_get S hw fg_Md_43 0 rfl rfl d_Md_reincarnate_59 ?_
      refine lv_iload_n hx hb d_Md_reincarnate_62 rfl (lv_at hl 2 rfl) ?_
      refine lv_iconst (v := 0) hx hb d_Md_reincarnate_63 (by decide) ?_
      refine kx_iast S hw 3 0 rfl rfl (j := 0) (by decide) (by unfold vp_in; decide) d_Md_reincarnate_64 (fun H locs hw => ?_)
      have hw : kx_w D (kx_T cI cZ cO) A_ s_ [((bm 0), .inr (6, [.int mi.1, .int mi.2.1, .int mi.2.2.1, .ref (bm 1), .ref (bm 2), .ref (bm 3), .ref (bm 4), .ref (bm 5), .ref (bm 6), .ref (bm 7), .ref (bm 8), .ref (bm 9), .int mi.2.2.2.1, .ref (bm 10), .ref (bm 11), .ref (bm 12), .ref (bm 13), .ref (bm 14), .ref (bm 15), .ref (bm 16), .ref (bm 17), .int mi.2.2.2.2.1, .int mi.2.2.2.2.2.1, .int mi.2.2.2.2.2.2.1, .int mi.2.2.2.2.2.2.2.1, .ref (bm 18), .ref (bm 19), .ref (bm 20), .ref (bm 21), .int mi.2.2.2.2.2.2.2.2])), ((bm 10), .inl (cI, 2, .inl (upd e.1 0 ((e.1 0) + 1)))), ((bm 11), .inl (cI, 2, .inl (upd e.2.1 0 0))), ((bm 12), .inl (cI, 2, .inl (upd e.2.2.1 0 0))), ((bm 13), .inl (cI, 2, .inl e.2.2.2.1)), ((bm 14), .inl (cI, 2, .inl e.2.2.2.2.1)), ((bm 15), .inl (cZ, 2, .inl e.2.2.2.2.2.1)), ((bm 16), .inl (cI, 2, .inl e.2.2.2.2.2.2.1)), ((bm 17), .inl (cI, 2, .inl e.2.2.2.2.2.2.2))] H locs := hw
      refine lv_aload_n hx hb d_Md_reincarnate_65 rfl (lv_at hl 1 rfl) ?_
      refine kx_get S hw fg_Md_46 0 rfl rfl d_Md_reincarnate_66 ?_
      refine lv_iload_n hx hb d_Md_reincarnate_69 rfl (lv_at hl 2 rfl) ?_
      refine lv_iconst (v := (-1)) hx hb d_Md_reincarnate_70 (by decide) ?_
      refine kx_iast S hw 4 0 rfl rfl (j := 0) (by decide) (by unfold vp_in; decide) d_Md_reincarnate_71 (fun H locs hw => ?_)
      have hw : kx_w D (kx_T cI cZ cO) A_ s_ [((bm 0), .inr (6, [.int mi.1, .int mi.2.1, .int mi.2.2.1, .ref (bm 1), .ref (bm 2), .ref (bm 3), .ref (bm 4), .ref (bm 5), .ref (bm 6), .ref (bm 7), .ref (bm 8), .ref (bm 9), .int mi.2.2.2.1, .ref (bm 10), .ref (bm 11), .ref (bm 12), .ref (bm 13), .ref (bm 14), .ref (bm 15), .ref (bm 16), .ref (bm 17), .int mi.2.2.2.2.1, .int mi.2.2.2.2.2.1, .int mi.2.2.2.2.2.2.1, .int mi.2.2.2.2.2.2.2.1, .ref (bm 18), .ref (bm 19), .ref (bm 20), .ref (bm 21), .int mi.2.2.2.2.2.2.2.2])), ((bm 10), .inl (cI, 2, .inl (upd e.1 0 ((e.1 0) + 1)))), ((bm 11), .inl (cI, 2, .inl (upd e.2.1 0 0))), ((bm 12), .inl (cI, 2, .inl (upd e.2.2.1 0 0))), ((bm 13), .inl (cI, 2, .inl (upd e.2.2.2.1 0 (-1)))), ((bm 14), .inl (cI, 2, .inl e.2.2.2.2.1)), ((bm 15), .inl (cZ, 2, .inl e.2.2.2.2.2.1)), ((bm 16), .inl (cI, 2, .inl e.2.2.2.2.2.2.1)), ((bm 17), .inl (cI, 2, .inl e.2.2.2.2.2.2.2))] H locs := hw
      refine lv_aload_n hx hb d_Md_reincarnate_72 rfl (lv_at hl 1 rfl) ?_
      refine kx_get S hw fg_Md_52 0 rfl rfl d_Md_reincarnate_73 ?_
      refine lv_iload_n hx hb d_Md_reincarnate_76 rfl (lv_at hl 2 rfl) ?_
      refine lv_iconst (v := 0) hx hb d_Md_reincarnate_77 (by decide) ?_
      refine kx_zast S hw 6 1 rfl rfl (j := 0) (by decide) (by decide) (by unfold vp_in; decide) d_Md_reincarnate_78 (fun H locs hw => ?_)
      have hw : kx_w D (kx_T cI cZ cO) A_ s_ [((bm 0), .inr (6, [.int mi.1, .int mi.2.1, .int mi.2.2.1, .ref (bm 1), .ref (bm 2), .ref (bm 3), .ref (bm 4), .ref (bm 5), .ref (bm 6), .ref (bm 7), .ref (bm 8), .ref (bm 9), .int mi.2.2.2.1, .ref (bm 10), .ref (bm 11), .ref (bm 12), .ref (bm 13), .ref (bm 14), .ref (bm 15), .ref (bm 16), .ref (bm 17), .int mi.2.2.2.2.1, .int mi.2.2.2.2.2.1, .int mi.2.2.2.2.2.2.1, .int mi.2.2.2.2.2.2.2.1, .ref (bm 18), .ref (bm 19), .ref (bm 20), .ref (bm 21), .int mi.2.2.2.2.2.2.2.2])), ((bm 10), .inl (cI, 2, .inl (upd e.1 0 ((e.1 0) + 1)))), ((bm 11), .inl (cI, 2, .inl (upd e.2.1 0 0))), ((bm 12), .inl (cI, 2, .inl (upd e.2.2.1 0 0))), ((bm 13), .inl (cI, 2, .inl (upd e.2.2.2.1 0 (-1)))), ((bm 14), .inl (cI, 2, .inl e.2.2.2.2.1)), ((bm 15), .inl (cZ, 2, .inl (upd e.2.2.2.2.2.1 0 0))), ((bm 16), .inl (cI, 2, .inl e.2.2.2.2.2.2.1)), ((bm 17), .inl (cI, 2, .inl e.2.2.2.2.2.2.2))] H locs := hw
      refine lv_goto (tgt := 93) hx hb d_Md_reincarnate_79 (by decide) ?_
      exact kx_ret_v I rfl hw (upd e.1 0 ((e.1 0) + 1), upd e.2.1 0 0, upd e.2.2.1 0 0, upd e.2.2.2.1 0 (-1), e.2.2.2.2.1, upd e.2.2.2.2.2.1 0 0, e.2.2.2.2.2.2.1, e.2.2.2.2.2.2.2) (by simp only [f_Md_reincarnate_0, if_neg h1, if_pos h2]) [0, 1, 2, 3, 4, 5, 6, 7, 8] (by decide) rfl d_Md_reincarnate_93
    · refine lv_iload_n hx hb d_Md_reincarnate_28 rfl (lv_at hl 0 rfl) ?_
      refine lv_if_eq (tgt := 82) hx hb d_Md_reincarnate_29 (by decide) (fun _ => ?_) (fun h => absurd h (by decide))
      refine lv_iload_n hx hb d_Md_reincarnate_82 rfl (lv_at hl 0 rfl) ?_
      refine lv_if_eq (tgt := 93) hx hb d_Md_reincarnate_83 (by decide) (fun _ => ?_) (fun h => absurd h (by decide))
      exact kx_ret_v I rfl hw e (by simp only [f_Md_reincarnate_0, if_neg h1, if_neg h2]) [0, 1, 2, 3, 4, 5, 6, 7, 8] (by decide) rfl d_Md_reincarnate_93
  · refine lv_iconst (v := 1) hx hb d_Md_reincarnate_12 (by decide) ?_
    refine lv_goto (tgt := 17) hx hb d_Md_reincarnate_13 (by decide) ?_
    refine lv_istore_n (lv' := [(2, .int 1), (0, .ref (bm 0)), (1, .int 0)]) hx hb d_Md_reincarnate_17 rfl hl (by decide) rfl (fun ls hl => ?_)
    refine lv_aload_n hx hb d_Md_reincarnate_18 rfl (lv_at hl 1 rfl) ?_
    refine kx_get S hw fg_Md_40 0 rfl rfl d_Md_reincarnate_19 ?_
    refine lv_iload_n hx hb d_Md_reincarnate_22 rfl (lv_at hl 2 rfl) ?_
    refine kx_iald S hw 2 0 rfl rfl (j := 0) (by decide) (by unfold vp_in; decide) d_Md_reincarnate_23 ?_
    refine lv_iconst (v := 2) hx hb d_Md_reincarnate_24 (by decide) ?_
    refine lv_icmp_eq (tgt := 41) hx hb d_Md_reincarnate_25 (by decide) (fun h3 => ?_) (fun h3 => ?_)
    · refine lv_aload_n hx hb d_Md_reincarnate_41 rfl (lv_at hl 1 rfl) ?_
      refine kx_get S hw fg_Md_37 0 rfl rfl d_Md_reincarnate_42 ?_
      refine lv_iload_n hx hb d_Md_reincarnate_45 rfl (lv_at hl 2 rfl) ?_
      refine lv_dup2_11 hx hb d_Md_reincarnate_46 rfl rfl ?_
      refine kx_iald S hw 1 0 rfl rfl (j := 0) (by decide) (by unfold vp_in; decide) d_Md_reincarnate_47 ?_
      refine lv_iconst (v := 1) hx hb d_Md_reincarnate_48 (by decide) ?_
      refine lv_iadd hx hb d_Md_reincarnate_49 ?_
      refine kx_iast S hw 1 0 rfl rfl (j := 0) (by decide) (by unfold vp_in; decide) d_Md_reincarnate_50 (fun H locs hw => ?_)
      have hw : kx_w D (kx_T cI cZ cO) A_ s_ [((bm 0), .inr (6, [.int mi.1, .int mi.2.1, .int mi.2.2.1, .ref (bm 1), .ref (bm 2), .ref (bm 3), .ref (bm 4), .ref (bm 5), .ref (bm 6), .ref (bm 7), .ref (bm 8), .ref (bm 9), .int mi.2.2.2.1, .ref (bm 10), .ref (bm 11), .ref (bm 12), .ref (bm 13), .ref (bm 14), .ref (bm 15), .ref (bm 16), .ref (bm 17), .int mi.2.2.2.2.1, .int mi.2.2.2.2.2.1, .int mi.2.2.2.2.2.2.1, .int mi.2.2.2.2.2.2.2.1, .ref (bm 18), .ref (bm 19), .ref (bm 20), .ref (bm 21), .int mi.2.2.2.2.2.2.2.2])), ((bm 10), .inl (cI, 2, .inl (upd e.1 0 ((e.1 0) + 1)))), ((bm 11), .inl (cI, 2, .inl e.2.1)), ((bm 12), .inl (cI, 2, .inl e.2.2.1)), ((bm 13), .inl (cI, 2, .inl e.2.2.2.1)), ((bm 14), .inl (cI, 2, .inl e.2.2.2.2.1)), ((bm 15), .inl (cZ, 2, .inl e.2.2.2.2.2.1)), ((bm 16), .inl (cI, 2, .inl e.2.2.2.2.2.2.1)), ((bm 17), .inl (cI, 2, .inl e.2.2.2.2.2.2.2))] H locs := hw
      refine lv_aload_n hx hb d_Md_reincarnate_51 rfl (lv_at hl 1 rfl) ?_
      refine kx_get S hw fg_Md_40 0 rfl rfl d_Md_reincarnate_52 ?_
      refine lv_iload_n hx hb d_Md_reincarnate_55 rfl (lv_at hl 2 rfl) ?_
      refine lv_iconst (v := 0) hx hb d_Md_reincarnate_56 (by decide) ?_
      refine kx_iast S hw 2 0 rfl rfl (j := 0) (by decide) (by unfold vp_in; decide) d_Md_reincarnate_57 (fun H locs hw => ?_)
      have hw : kx_w D (kx_T cI cZ cO) A_ s_ [((bm 0), .inr (6, [.int mi.1, .int mi.2.1, .int mi.2.2.1, .ref (bm 1), .ref (bm 2), .ref (bm 3), .ref (bm 4), .ref (bm 5), .ref (bm 6), .ref (bm 7), .ref (bm 8), .ref (bm 9), .int mi.2.2.2.1, .ref (bm 10), .ref (bm 11), .ref (bm 12), .ref (bm 13), .ref (bm 14), .ref (bm 15), .ref (bm 16), .ref (bm 17), .int mi.2.2.2.2.1, .int mi.2.2.2.2.2.1, .int mi.2.2.2.2.2.2.1, .int mi.2.2.2.2.2.2.2.1, .ref (bm 18), .ref (bm 19), .ref (bm 20), .ref (bm 21), .int mi.2.2.2.2.2.2.2.2])), ((bm 10), .inl (cI, 2, .inl (upd e.1 0 ((e.1 0) + 1)))), ((bm 11), .inl (cI, 2, .inl (upd e.2.1 0 0))), ((bm 12), .inl (cI, 2, .inl e.2.2.1)), ((bm 13), .inl (cI, 2, .inl e.2.2.2.1)), ((bm 14), .inl (cI, 2, .inl e.2.2.2.2.1)), ((bm 15), .inl (cZ, 2, .inl e.2.2.2.2.2.1)), ((bm 16), .inl (cI, 2, .inl e.2.2.2.2.2.2.1)), ((bm 17), .inl (cI, 2, .inl e.2.2.2.2.2.2.2))] H locs := hw
      refine lv_aload_n hx hb d_Md_reincarnate_58 rfl (lv_at hl 1 rfl) ?_
      refine kx_get S hw fg_Md_43 0 rfl rfl d_Md_reincarnate_59 ?_
      refine lv_iload_n hx hb d_Md_reincarnate_62 rfl (lv_at hl 2 rfl) ?_
      refine lv_iconst (v := 0) hx hb d_Md_reincarnate_63 (by decide) ?_
      refine kx_iast S hw 3 0 rfl rfl (j := 0) (by decide) (by unfold vp_in; decide) d_Md_reincarnate_64 (fun H locs hw => ?_)
      have hw : kx_w D (kx_T cI cZ cO) A_ s_ [((bm 0), .inr (6, [.int mi.1, .int mi.2.1, .int mi.2.2.1, .ref (bm 1), .ref (bm 2), .ref (bm 3), .ref (bm 4), .ref (bm 5), .ref (bm 6), .ref (bm 7), .ref (bm 8), .ref (bm 9), .int mi.2.2.2.1, .ref (bm 10), .ref (bm 11), .ref (bm 12), .ref (bm 13), .ref (bm 14), .ref (bm 15), .ref (bm 16), .ref (bm 17), .int mi.2.2.2.2.1, .int mi.2.2.2.2.2.1, .int mi.2.2.2.2.2.2.1, .int mi.2.2.2.2.2.2.2.1, .ref (bm 18), .ref (bm 19), .ref (bm 20), .ref (bm 21), .int mi.2.2.2.2.2.2.2.2])), ((bm 10), .inl (cI, 2, .inl (upd e.1 0 ((e.1 0) + 1)))), ((bm 11), .inl (cI, 2, .inl (upd e.2.1 0 0))), ((bm 12), .inl (cI, 2, .inl (upd e.2.2.1 0 0))), ((bm 13), .inl (cI, 2, .inl e.2.2.2.1)), ((bm 14), .inl (cI, 2, .inl e.2.2.2.2.1)), ((bm 15), .inl (cZ, 2, .inl e.2.2.2.2.2.1)), ((bm 16), .inl (cI, 2, .inl e.2.2.2.2.2.2.1)), ((bm 17), .inl (cI, 2, .inl e.2.2.2.2.2.2.2))] H locs := hw
      refine lv_aload_n hx hb d_Md_reincarnate_65 rfl (lv_at hl 1 rfl) ?_
      refine kx_get S hw fg_Md_46 0 rfl rfl d_Md_reincarnate_66 ?_
      refine lv_iload_n hx hb d_Md_reincarnate_69 rfl (lv_at hl 2 rfl) ?_
      refine lv_iconst (v := (-1)) hx hb d_Md_reincarnate_70 (by decide) ?_
      refine kx_iast S hw 4 0 rfl rfl (j := 0) (by decide) (by unfold vp_in; decide) d_Md_reincarnate_71 (fun H locs hw => ?_)
      have hw : kx_w D (kx_T cI cZ cO) A_ s_ [((bm 0), .inr (6, [.int mi.1, .int mi.2.1, .int mi.2.2.1, .ref (bm 1), .ref (bm 2), .ref (bm 3), .ref (bm 4), .ref (bm 5), .ref (bm 6), .ref (bm 7), .ref (bm 8), .ref (bm 9), .int mi.2.2.2.1, .ref (bm 10), .ref (bm 11), .ref (bm 12), .ref (bm 13), .ref (bm 14), .ref (bm 15), .ref (bm 16), .ref (bm 17), .int mi.2.2.2.2.1, .int mi.2.2.2.2.2.1, .int mi.2.2.2.2.2.2.1, .int mi.2.2.2.2.2.2.2.1, .ref (bm 18), .ref (bm 19), .ref (bm 20), .ref (bm 21), .int mi.2.2.2.2.2.2.2.2])), ((bm 10), .inl (cI, 2, .inl (upd e.1 0 ((e.1 0) + 1)))), ((bm 11), .inl (cI, 2, .inl (upd e.2.1 0 0))), ((bm 12), .inl (cI, 2, .inl (upd e.2.2.1 0 0))), ((bm 13), .inl (cI, 2, .inl (upd e.2.2.2.1 0 (-1)))), ((bm 14), .inl (cI, 2, .inl e.2.2.2.2.1)), ((bm 15), .inl (cZ, 2, .inl e.2.2.2.2.2.1)), ((bm 16), .inl (cI, 2, .inl e.2.2.2.2.2.2.1)), ((bm 17), .inl (cI, 2, .inl e.2.2.2.2.2.2.2))] H locs := hw
      refine lv_aload_n hx hb d_Md_reincarnate_72 rfl (lv_at hl 1 rfl) ?_
      refine kx_get S hw fg_Md_52 0 rfl rfl d_Md_reincarnate_73 ?_
      refine lv_iload_n hx hb d_Md_reincarnate_76 rfl (lv_at hl 2 rfl) ?_
      refine lv_iconst (v := 0) hx hb d_Md_reincarnate_77 (by decide) ?_
      refine kx_zast S hw 6 1 rfl rfl (j := 0) (by decide) (by decide) (by unfold vp_in; decide) d_Md_reincarnate_78 (fun H locs hw => ?_)
      have hw : kx_w D (kx_T cI cZ cO) A_ s_ [((bm 0), .inr (6, [.int mi.1, .int mi.2.1, .int mi.2.2.1, .ref (bm 1), .ref (bm 2), .ref (bm 3), .ref (bm 4), .ref (bm 5), .ref (bm 6), .ref (bm 7), .ref (bm 8), .ref (bm 9), .int mi.2.2.2.1, .ref (bm 10), .ref (bm 11), .ref (bm 12), .ref (bm 13), .ref (bm 14), .ref (bm 15), .ref (bm 16), .ref (bm 17), .int mi.2.2.2.2.1, .int mi.2.2.2.2.2.1, .int mi.2.2.2.2.2.2.1, .int mi.2.2.2.2.2.2.2.1, .ref (bm 18), .ref (bm 19), .ref (bm 20), .ref (bm 21), .int mi.2.2.2.2.2.2.2.2])), ((bm 10), .inl (cI, 2, .inl (upd e.1 0 ((e.1 0) + 1)))), ((bm 11), .inl (cI, 2, .inl (upd e.2.1 0 0))), ((bm 12), .inl (cI, 2, .inl (upd e.2.2.1 0 0))), ((bm 13), .inl (cI, 2, .inl (upd e.2.2.2.1 0 (-1)))), ((bm 14), .inl (cI, 2, .inl e.2.2.2.2.1)), ((bm 15), .inl (cZ, 2, .inl (upd e.2.2.2.2.2.1 0 0))), ((bm 16), .inl (cI, 2, .inl e.2.2.2.2.2.2.1)), ((bm 17), .inl (cI, 2, .inl e.2.2.2.2.2.2.2))] H locs := hw
      refine lv_goto (tgt := 93) hx hb d_Md_reincarnate_79 (by decide) ?_
      exact kx_ret_v I rfl hw (upd e.1 0 ((e.1 0) + 1), upd e.2.1 0 0, upd e.2.2.1 0 0, upd e.2.2.2.1 0 (-1), e.2.2.2.2.1, upd e.2.2.2.2.2.1 0 0, e.2.2.2.2.2.2.1, e.2.2.2.2.2.2.2) (by simp only [f_Md_reincarnate_0, if_pos h1, if_pos h3]) [0, 1, 2, 3, 4, 5, 6, 7, 8] (by decide) rfl d_Md_reincarnate_93
    · refine lv_iload_n hx hb d_Md_reincarnate_28 rfl (lv_at hl 0 rfl) ?_
      refine lv_if_eq (tgt := 82) hx hb d_Md_reincarnate_29 (by decide) (fun h => absurd h (by decide)) (fun _ => ?_)
      refine lv_aload_n hx hb d_Md_reincarnate_32 rfl (lv_at hl 1 rfl) ?_
      refine kx_get S hw fg_Md_52 0 rfl rfl d_Md_reincarnate_33 ?_
      refine lv_iload_n hx hb d_Md_reincarnate_36 rfl (lv_at hl 2 rfl) ?_
      refine kx_zald S hw 6 1 rfl rfl (j := 0) (by decide) (by unfold vp_in; decide) d_Md_reincarnate_37 ?_
      refine lv_if_eq (tgt := 82) hx hb d_Md_reincarnate_38 (by decide) (fun h4 => ?_) (fun h4 => ?_)
      · refine lv_iload_n hx hb d_Md_reincarnate_82 rfl (lv_at hl 0 rfl) ?_
        refine lv_if_eq (tgt := 93) hx hb d_Md_reincarnate_83 (by decide) (fun h => absurd h (by decide)) (fun _ => ?_)
        refine lv_aload_n hx hb d_Md_reincarnate_86 rfl (lv_at hl 1 rfl) ?_
        refine kx_get S hw fg_Md_52 0 rfl rfl d_Md_reincarnate_87 ?_
        refine lv_iload_n hx hb d_Md_reincarnate_90 rfl (lv_at hl 2 rfl) ?_
        refine lv_iconst (v := 1) hx hb d_Md_reincarnate_91 (by decide) ?_
        refine kx_zast S hw 6 1 rfl rfl (j := 0) (by decide) (by decide) (by unfold vp_in; decide) d_Md_reincarnate_92 (fun H locs hw => ?_)
        have hw : kx_w D (kx_T cI cZ cO) A_ s_ [((bm 0), .inr (6, [.int mi.1, .int mi.2.1, .int mi.2.2.1, .ref (bm 1), .ref (bm 2), .ref (bm 3), .ref (bm 4), .ref (bm 5), .ref (bm 6), .ref (bm 7), .ref (bm 8), .ref (bm 9), .int mi.2.2.2.1, .ref (bm 10), .ref (bm 11), .ref (bm 12), .ref (bm 13), .ref (bm 14), .ref (bm 15), .ref (bm 16), .ref (bm 17), .int mi.2.2.2.2.1, .int mi.2.2.2.2.2.1, .int mi.2.2.2.2.2.2.1, .int mi.2.2.2.2.2.2.2.1, .ref (bm 18), .ref (bm 19), .ref (bm 20), .ref (bm 21), .int mi.2.2.2.2.2.2.2.2])), ((bm 10), .inl (cI, 2, .inl e.1)), ((bm 11), .inl (cI, 2, .inl e.2.1)), ((bm 12), .inl (cI, 2, .inl e.2.2.1)), ((bm 13), .inl (cI, 2, .inl e.2.2.2.1)), ((bm 14), .inl (cI, 2, .inl e.2.2.2.2.1)), ((bm 15), .inl (cZ, 2, .inl (upd e.2.2.2.2.2.1 0 1))), ((bm 16), .inl (cI, 2, .inl e.2.2.2.2.2.2.1)), ((bm 17), .inl (cI, 2, .inl e.2.2.2.2.2.2.2))] H locs := hw
        exact kx_ret_v I rfl hw (e.1, e.2.1, e.2.2.1, e.2.2.2.1, e.2.2.2.2.1, upd e.2.2.2.2.2.1 0 1, e.2.2.2.2.2.2.1, e.2.2.2.2.2.2.2) (by simp only [f_Md_reincarnate_0, if_pos h1, if_neg h3, if_pos h4]) [0, 1, 2, 3, 4, 5, 6, 7, 8] (by decide) rfl d_Md_reincarnate_93
      · refine lv_aload_n hx hb d_Md_reincarnate_41 rfl (lv_at hl 1 rfl) ?_
        refine kx_get S hw fg_Md_37 0 rfl rfl d_Md_reincarnate_42 ?_
        refine lv_iload_n hx hb d_Md_reincarnate_45 rfl (lv_at hl 2 rfl) ?_
        refine lv_dup2_11 hx hb d_Md_reincarnate_46 rfl rfl ?_
        refine kx_iald S hw 1 0 rfl rfl (j := 0) (by decide) (by unfold vp_in; decide) d_Md_reincarnate_47 ?_
        refine lv_iconst (v := 1) hx hb d_Md_reincarnate_48 (by decide) ?_
        refine lv_iadd hx hb d_Md_reincarnate_49 ?_
        refine kx_iast S hw 1 0 rfl rfl (j := 0) (by decide) (by unfold vp_in; decide) d_Md_reincarnate_50 (fun H locs hw => ?_)
        have hw : kx_w D (kx_T cI cZ cO) A_ s_ [((bm 0), .inr (6, [.int mi.1, .int mi.2.1, .int mi.2.2.1, .ref (bm 1), .ref (bm 2), .ref (bm 3), .ref (bm 4), .ref (bm 5), .ref (bm 6), .ref (bm 7), .ref (bm 8), .ref (bm 9), .int mi.2.2.2.1, .ref (bm 10), .ref (bm 11), .ref (bm 12), .ref (bm 13), .ref (bm 14), .ref (bm 15), .ref (bm 16), .ref (bm 17), .int mi.2.2.2.2.1, .int mi.2.2.2.2.2.1, .int mi.2.2.2.2.2.2.1, .int mi.2.2.2.2.2.2.2.1, .ref (bm 18), .ref (bm 19), .ref (bm 20), .ref (bm 21), .int mi.2.2.2.2.2.2.2.2])), ((bm 10), .inl (cI, 2, .inl (upd e.1 0 ((e.1 0) + 1)))), ((bm 11), .inl (cI, 2, .inl e.2.1)), ((bm 12), .inl (cI, 2, .inl e.2.2.1)), ((bm 13), .inl (cI, 2, .inl e.2.2.2.1)), ((bm 14), .inl (cI, 2, .inl e.2.2.2.2.1)), ((bm 15), .inl (cZ, 2, .inl e.2.2.2.2.2.1)), ((bm 16), .inl (cI, 2, .inl e.2.2.2.2.2.2.1)), ((bm 17), .inl (cI, 2, .inl e.2.2.2.2.2.2.2))] H locs := hw
        refine lv_aload_n hx hb d_Md_reincarnate_51 rfl (lv_at hl 1 rfl) ?_
        refine kx_get S hw fg_Md_40 0 rfl rfl d_Md_reincarnate_52 ?_
        refine lv_iload_n hx hb d_Md_reincarnate_55 rfl (lv_at hl 2 rfl) ?_
        refine lv_iconst (v := 0) hx hb d_Md_reincarnate_56 (by decide) ?_
        refine kx_iast S hw 2 0 rfl rfl (j := 0) (by decide) (by unfold vp_in; decide) d_Md_reincarnate_57 (fun H locs hw => ?_)
        have hw : kx_w D (kx_T cI cZ cO) A_ s_ [((bm 0), .inr (6, [.int mi.1, .int mi.2.1, .int mi.2.2.1, .ref (bm 1), .ref (bm 2), .ref (bm 3), .ref (bm 4), .ref (bm 5), .ref (bm 6), .ref (bm 7), .ref (bm 8), .ref (bm 9), .int mi.2.2.2.1, .ref (bm 10), .ref (bm 11), .ref (bm 12), .ref (bm 13), .ref (bm 14), .ref (bm 15), .ref (bm 16), .ref (bm 17), .int mi.2.2.2.2.1, .int mi.2.2.2.2.2.1, .int mi.2.2.2.2.2.2.1, .int mi.2.2.2.2.2.2.2.1, .ref (bm 18), .ref (bm 19), .ref (bm 20), .ref (bm 21), .int mi.2.2.2.2.2.2.2.2])), ((bm 10), .inl (cI, 2, .inl (upd e.1 0 ((e.1 0) + 1)))), ((bm 11), .inl (cI, 2, .inl (upd e.2.1 0 0))), ((bm 12), .inl (cI, 2, .inl e.2.2.1)), ((bm 13), .inl (cI, 2, .inl e.2.2.2.1)), ((bm 14), .inl (cI, 2, .inl e.2.2.2.2.1)), ((bm 15), .inl (cZ, 2, .inl e.2.2.2.2.2.1)), ((bm 16), .inl (cI, 2, .inl e.2.2.2.2.2.2.1)), ((bm 17), .inl (cI, 2, .inl e.2.2.2.2.2.2.2))] H locs := hw
        refine lv_aload_n hx hb d_Md_reincarnate_58 rfl (lv_at hl 1 rfl) ?_
        refine kx_get S hw fg_Md_43 0 rfl rfl d_Md_reincarnate_59 ?_
        refine lv_iload_n hx hb d_Md_reincarnate_62 rfl (lv_at hl 2 rfl) ?_
        refine lv_iconst (v := 0) hx hb d_Md_reincarnate_63 (by decide) ?_
        refine kx_iast S hw 3 0 rfl rfl (j := 0) (by decide) (by unfold vp_in; decide) d_Md_reincarnate_64 (fun H locs hw => ?_)
        have hw : kx_w D (kx_T cI cZ cO) A_ s_ [((bm 0), .inr (6, [.int mi.1, .int mi.2.1, .int mi.2.2.1, .ref (bm 1), .ref (bm 2), .ref (bm 3), .ref (bm 4), .ref (bm 5), .ref (bm 6), .ref (bm 7), .ref (bm 8), .ref (bm 9), .int mi.2.2.2.1, .ref (bm 10), .ref (bm 11), .ref (bm 12), .ref (bm 13), .ref (bm 14), .ref (bm 15), .ref (bm 16), .ref (bm 17), .int mi.2.2.2.2.1, .int mi.2.2.2.2.2.1, .int mi.2.2.2.2.2.2.1, .int mi.2.2.2.2.2.2.2.1, .ref (bm 18), .ref (bm 19), .ref (bm 20), .ref (bm 21), .int mi.2.2.2.2.2.2.2.2])), ((bm 10), .inl (cI, 2, .inl (upd e.1 0 ((e.1 0) + 1)))), ((bm 11), .inl (cI, 2, .inl (upd e.2.1 0 0))), ((bm 12), .inl (cI, 2, .inl (upd e.2.2.1 0 0))), ((bm 13), .inl (cI, 2, .inl e.2.2.2.1)), ((bm 14), .inl (cI, 2, .inl e.2.2.2.2.1)), ((bm 15), .inl (cZ, 2, .inl e.2.2.2.2.2.1)), ((bm 16), .inl (cI, 2, .inl e.2.2.2.2.2.2.1)), ((bm 17), .inl (cI, 2, .inl e.2.2.2.2.2.2.2))] H locs := hw
        refine lv_aload_n hx hb d_Md_reincarnate_65 rfl (lv_at hl 1 rfl) ?_
        refine kx_get S hw fg_Md_46 0 rfl rfl d_Md_reincarnate_66 ?_
        refine lv_iload_n hx hb d_Md_reincarnate_69 rfl (lv_at hl 2 rfl) ?_
        refine lv_iconst (v := (-1)) hx hb d_Md_reincarnate_70 (by decide) ?_
        refine kx_iast S hw 4 0 rfl rfl (j := 0) (by decide) (by unfold vp_in; decide) d_Md_reincarnate_71 (fun H locs hw => ?_)
        have hw : kx_w D (kx_T cI cZ cO) A_ s_ [((bm 0), .inr (6, [.int mi.1, .int mi.2.1, .int mi.2.2.1, .ref (bm 1), .ref (bm 2), .ref (bm 3), .ref (bm 4), .ref (bm 5), .ref (bm 6), .ref (bm 7), .ref (bm 8), .ref (bm 9), .int mi.2.2.2.1, .ref (bm 10), .ref (bm 11), .ref (bm 12), .ref (bm 13), .ref (bm 14), .ref (bm 15), .ref (bm 16), .ref (bm 17), .int mi.2.2.2.2.1, .int mi.2.2.2.2.2.1, .int mi.2.2.2.2.2.2.1, .int mi.2.2.2.2.2.2.2.1, .ref (bm 18), .ref (bm 19), .ref (bm 20), .ref (bm 21), .int mi.2.2.2.2.2.2.2.2])), ((bm 10), .inl (cI, 2, .inl (upd e.1 0 ((e.1 0) + 1)))), ((bm 11), .inl (cI, 2, .inl (upd e.2.1 0 0))), ((bm 12), .inl (cI, 2, .inl (upd e.2.2.1 0 0))), ((bm 13), .inl (cI, 2, .inl (upd e.2.2.2.1 0 (-1)))), ((bm 14), .inl (cI, 2, .inl e.2.2.2.2.1)), ((bm 15), .inl (cZ, 2, .inl e.2.2.2.2.2.1)), ((bm 16), .inl (cI, 2, .inl e.2.2.2.2.2.2.1)), ((bm 17), .inl (cI, 2, .inl e.2.2.2.2.2.2.2))] H locs := hw
        refine lv_aload_n hx hb d_Md_reincarnate_72 rfl (lv_at hl 1 rfl) ?_
        refine kx_get S hw fg_Md_52 0 rfl rfl d_Md_reincarnate_73 ?_
        refine lv_iload_n hx hb d_Md_reincarnate_76 rfl (lv_at hl 2 rfl) ?_
        refine lv_iconst (v := 0) hx hb d_Md_reincarnate_77 (by decide) ?_
        refine kx_zast S hw 6 1 rfl rfl (j := 0) (by decide) (by decide) (by unfold vp_in; decide) d_Md_reincarnate_78 (fun H locs hw => ?_)
        have hw : kx_w D (kx_T cI cZ cO) A_ s_ [((bm 0), .inr (6, [.int mi.1, .int mi.2.1, .int mi.2.2.1, .ref (bm 1), .ref (bm 2), .ref (bm 3), .ref (bm 4), .ref (bm 5), .ref (bm 6), .ref (bm 7), .ref (bm 8), .ref (bm 9), .int mi.2.2.2.1, .ref (bm 10), .ref (bm 11), .ref (bm 12), .ref (bm 13), .ref (bm 14), .ref (bm 15), .ref (bm 16), .ref (bm 17), .int mi.2.2.2.2.1, .int mi.2.2.2.2.2.1, .int mi.2.2.2.2.2.2.1, .int mi.2.2.2.2.2.2.2.1, .ref (bm 18), .ref (bm 19), .ref (bm 20), .ref (bm 21), .int mi.2.2.2.2.2.2.2.2])), ((bm 10), .inl (cI, 2, .inl (upd e.1 0 ((e.1 0) + 1)))), ((bm 11), .inl (cI, 2, .inl (upd e.2.1 0 0))), ((bm 12), .inl (cI, 2, .inl (upd e.2.2.1 0 0))), ((bm 13), .inl (cI, 2, .inl (upd e.2.2.2.1 0 (-1)))), ((bm 14), .inl (cI, 2, .inl e.2.2.2.2.1)), ((bm 15), .inl (cZ, 2, .inl (upd e.2.2.2.2.2.1 0 0))), ((bm 16), .inl (cI, 2, .inl e.2.2.2.2.2.2.1)), ((bm 17), .inl (cI, 2, .inl e.2.2.2.2.2.2.2))] H locs := hw
        refine lv_goto (tgt := 93) hx hb d_Md_reincarnate_79 (by decide) ?_
        exact kx_ret_v I rfl hw (upd e.1 0 ((e.1 0) + 1), upd e.2.1 0 0, upd e.2.2.1 0 0, upd e.2.2.2.1 0 (-1), e.2.2.2.2.1, upd e.2.2.2.2.2.1 0 0, e.2.2.2.2.2.2.1, e.2.2.2.2.2.2.2) (by simp only [f_Md_reincarnate_0, if_pos h1, if_neg h3, if_neg h4]) [0, 1, 2, 3, 4, 5, 6, 7, 8] (by decide) rfl d_Md_reincarnate_93
def f_Md_give_0 (mi : kt_I) (e : kt_E) : kt_E :=
  if (e.2.1 0) = 2 then (e.1, e.2.1, e.2.2.1, e.2.2.2.1, e.2.2.2.2.1, e.2.2.2.2.2.1, upd e.2.2.2.2.2.2.1 0 1, e.2.2.2.2.2.2.2)
  else (e.1, e.2.1, e.2.2.1, upd e.2.2.2.1 0 0, e.2.2.2.2.1, e.2.2.2.2.2.1, upd e.2.2.2.2.2.2.1 0 2, upd e.2.2.2.2.2.2.2 0 (e.1 0))
set_option maxHeartbeats 4000000 in
set_option maxRecDepth 100000 in
theorem c_Md_give_0 (l : Launch) (D : va_G) (cI cZ cO : ClassId) (bm : Nat → Nat) (mi : kt_I) (e : kt_E) : kx_Cv (S := kt_E) l y_Md_give b_Md_give 2 0 0 0 D (kx_T cI cZ cO) [.ref (bm 0), .int 0] [((bm 0), .inr (6, [.int mi.1, .int mi.2.1, .int mi.2.2.1, .ref (bm 1), .ref (bm 2), .ref (bm 3), .ref (bm 4), .ref (bm 5), .ref (bm 6), .ref (bm 7), .ref (bm 8), .ref (bm 9), .int mi.2.2.2.1, .ref (bm 10), .ref (bm 11), .ref (bm 12), .ref (bm 13), .ref (bm 14), .ref (bm 15), .ref (bm 16), .ref (bm 17), .int mi.2.2.2.2.1, .int mi.2.2.2.2.2.1, .int mi.2.2.2.2.2.2.1, .int mi.2.2.2.2.2.2.2.1, .ref (bm 18), .ref (bm 19), .ref (bm 20), .ref (bm 21), .int mi.2.2.2.2.2.2.2.2])), ((bm 10), .inl (cI, 2, .inl e.1)), ((bm 11), .inl (cI, 2, .inl e.2.1)), ((bm 12), .inl (cI, 2, .inl e.2.2.1)), ((bm 13), .inl (cI, 2, .inl e.2.2.2.1)), ((bm 14), .inl (cI, 2, .inl e.2.2.2.2.1)), ((bm 15), .inl (cZ, 2, .inl e.2.2.2.2.2.1)), ((bm 16), .inl (cI, 2, .inl e.2.2.2.2.2.2.1)), ((bm 17), .inl (cI, 2, .inl e.2.2.2.2.2.2.2))] (fun zz => zz = f_Md_give_0 mi e) (fun zz => [((bm 0), .inr (6, [.int mi.1, .int mi.2.1, .int mi.2.2.1, .ref (bm 1), .ref (bm 2), .ref (bm 3), .ref (bm 4), .ref (bm 5), .ref (bm 6), .ref (bm 7), .ref (bm 8), .ref (bm 9), .int mi.2.2.2.1, .ref (bm 10), .ref (bm 11), .ref (bm 12), .ref (bm 13), .ref (bm 14), .ref (bm 15), .ref (bm 16), .ref (bm 17), .int mi.2.2.2.2.1, .int mi.2.2.2.2.2.1, .int mi.2.2.2.2.2.2.1, .int mi.2.2.2.2.2.2.2.1, .ref (bm 18), .ref (bm 19), .ref (bm 20), .ref (bm 21), .int mi.2.2.2.2.2.2.2.2])), ((bm 10), .inl (cI, 2, .inl zz.1)), ((bm 11), .inl (cI, 2, .inl zz.2.1)), ((bm 12), .inl (cI, 2, .inl zz.2.2.1)), ((bm 13), .inl (cI, 2, .inl zz.2.2.2.1)), ((bm 14), .inl (cI, 2, .inl zz.2.2.2.2.1)), ((bm 15), .inl (cZ, 2, .inl zz.2.2.2.2.2.1)), ((bm 16), .inl (cI, 2, .inl zz.2.2.2.2.2.2.1)), ((bm 17), .inl (cI, 2, .inl zz.2.2.2.2.2.2.2))]) := by
  refine kx_enter_v (by decide) (Nat.le_of_ble_eq_true rfl) ?_
  intro p_ e_ s_ m_ below_ meth_ c_ ls A_ H I hl hw
  have S := I.1
  have hx := S.1
  have hb := S.2.1
  have hl : lv_has ls 2 [(0, .ref (bm 0)), (1, .int 0)] := hl
  refine lv_aload_n hx hb d_Md_give_0 rfl (lv_at hl 0 rfl) ?_
  refine kx_get S hw fg_Md_56 0 rfl rfl d_Md_give_1 ?_
  refine lv_iload_n hx hb d_Md_give_4 rfl (lv_at hl 1 rfl) ?_
  refine lv_aload_n hx hb d_Md_give_5 rfl (lv_at hl 0 rfl) ?_
  refine kx_get S hw fg_Md_40 0 rfl rfl d_Md_give_6 ?_
  refine lv_iload_n hx hb d_Md_give_9 rfl (lv_at hl 1 rfl) ?_
  refine kx_iald S hw 2 0 rfl rfl (j := 0) (by decide) (by unfold vp_in; decide) d_Md_give_10 ?_
  refine lv_iconst (v := 2) hx hb d_Md_give_11 (by decide) ?_
  refine lv_icmp_ne (tgt := 19) hx hb d_Md_give_12 (by decide) (fun h1 => ?_) (fun h1 => ?_)
  · refine lv_iconst (v := 2) hx hb d_Md_give_19 (by decide) ?_
    refine kx_iast S hw 7 0 rfl rfl (j := 0) (by decide) (by unfold vp_in; decide) d_Md_give_20 (fun H locs hw => ?_)
    have hw : kx_w D (kx_T cI cZ cO) A_ s_ [((bm 0), .inr (6, [.int mi.1, .int mi.2.1, .int mi.2.2.1, .ref (bm 1), .ref (bm 2), .ref (bm 3), .ref (bm 4), .ref (bm 5), .ref (bm 6), .ref (bm 7), .ref (bm 8), .ref (bm 9), .int mi.2.2.2.1, .ref (bm 10), .ref (bm 11), .ref (bm 12), .ref (bm 13), .ref (bm 14), .ref (bm 15), .ref (bm 16), .ref (bm 17), .int mi.2.2.2.2.1, .int mi.2.2.2.2.2.1, .int mi.2.2.2.2.2.2.1, .int mi.2.2.2.2.2.2.2.1, .ref (bm 18), .ref (bm 19), .ref (bm 20), .ref (bm 21), .int mi.2.2.2.2.2.2.2.2])), ((bm 10), .inl (cI, 2, .inl e.1)), ((bm 11), .inl (cI, 2, .inl e.2.1)), ((bm 12), .inl (cI, 2, .inl e.2.2.1)), ((bm 13), .inl (cI, 2, .inl e.2.2.2.1)), ((bm 14), .inl (cI, 2, .inl e.2.2.2.2.1)), ((bm 15), .inl (cZ, 2, .inl e.2.2.2.2.2.1)), ((bm 16), .inl (cI, 2, .inl (upd e.2.2.2.2.2.2.1 0 2))), ((bm 17), .inl (cI, 2, .inl e.2.2.2.2.2.2.2))] H locs := hw
    refine lv_aload_n hx hb d_Md_give_21 rfl (lv_at hl 0 rfl) ?_
    refine kx_get S hw fg_Md_40 0 rfl rfl d_Md_give_22 ?_
    refine lv_iload_n hx hb d_Md_give_25 rfl (lv_at hl 1 rfl) ?_
    refine kx_iald S hw 2 0 rfl rfl (j := 0) (by decide) (by unfold vp_in; decide) d_Md_give_26 ?_
    refine lv_iconst (v := 2) hx hb d_Md_give_27 (by decide) ?_
    refine lv_icmp_eq (tgt := 50) hx hb d_Md_give_28 (by decide) (fun h => absurd h h1) (fun _ => ?_)
    refine lv_aload_n hx hb d_Md_give_31 rfl (lv_at hl 0 rfl) ?_
    refine kx_get S hw fg_Md_59 0 rfl rfl d_Md_give_32 ?_
    refine lv_iload_n hx hb d_Md_give_35 rfl (lv_at hl 1 rfl) ?_
    refine lv_aload_n hx hb d_Md_give_36 rfl (lv_at hl 0 rfl) ?_
    refine kx_get S hw fg_Md_37 0 rfl rfl d_Md_give_37 ?_
    refine lv_iload_n hx hb d_Md_give_40 rfl (lv_at hl 1 rfl) ?_
    refine kx_iald S hw 1 0 rfl rfl (j := 0) (by decide) (by unfold vp_in; decide) d_Md_give_41 ?_
    refine kx_iast S hw 8 0 rfl rfl (j := 0) (by decide) (by unfold vp_in; decide) d_Md_give_42 (fun H locs hw => ?_)
    have hw : kx_w D (kx_T cI cZ cO) A_ s_ [((bm 0), .inr (6, [.int mi.1, .int mi.2.1, .int mi.2.2.1, .ref (bm 1), .ref (bm 2), .ref (bm 3), .ref (bm 4), .ref (bm 5), .ref (bm 6), .ref (bm 7), .ref (bm 8), .ref (bm 9), .int mi.2.2.2.1, .ref (bm 10), .ref (bm 11), .ref (bm 12), .ref (bm 13), .ref (bm 14), .ref (bm 15), .ref (bm 16), .ref (bm 17), .int mi.2.2.2.2.1, .int mi.2.2.2.2.2.1, .int mi.2.2.2.2.2.2.1, .int mi.2.2.2.2.2.2.2.1, .ref (bm 18), .ref (bm 19), .ref (bm 20), .ref (bm 21), .int mi.2.2.2.2.2.2.2.2])), ((bm 10), .inl (cI, 2, .inl e.1)), ((bm 11), .inl (cI, 2, .inl e.2.1)), ((bm 12), .inl (cI, 2, .inl e.2.2.1)), ((bm 13), .inl (cI, 2, .inl e.2.2.2.1)), ((bm 14), .inl (cI, 2, .inl e.2.2.2.2.1)), ((bm 15), .inl (cZ, 2, .inl e.2.2.2.2.2.1)), ((bm 16), .inl (cI, 2, .inl (upd e.2.2.2.2.2.2.1 0 2))), ((bm 17), .inl (cI, 2, .inl (upd e.2.2.2.2.2.2.2 0 (e.1 0))))] H locs := hw
    refine lv_aload_n hx hb d_Md_give_43 rfl (lv_at hl 0 rfl) ?_
    refine kx_get S hw fg_Md_46 0 rfl rfl d_Md_give_44 ?_
    refine lv_iload_n hx hb d_Md_give_47 rfl (lv_at hl 1 rfl) ?_
    refine lv_iconst (v := 0) hx hb d_Md_give_48 (by decide) ?_
    refine kx_iast S hw 4 0 rfl rfl (j := 0) (by decide) (by unfold vp_in; decide) d_Md_give_49 (fun H locs hw => ?_)
    have hw : kx_w D (kx_T cI cZ cO) A_ s_ [((bm 0), .inr (6, [.int mi.1, .int mi.2.1, .int mi.2.2.1, .ref (bm 1), .ref (bm 2), .ref (bm 3), .ref (bm 4), .ref (bm 5), .ref (bm 6), .ref (bm 7), .ref (bm 8), .ref (bm 9), .int mi.2.2.2.1, .ref (bm 10), .ref (bm 11), .ref (bm 12), .ref (bm 13), .ref (bm 14), .ref (bm 15), .ref (bm 16), .ref (bm 17), .int mi.2.2.2.2.1, .int mi.2.2.2.2.2.1, .int mi.2.2.2.2.2.2.1, .int mi.2.2.2.2.2.2.2.1, .ref (bm 18), .ref (bm 19), .ref (bm 20), .ref (bm 21), .int mi.2.2.2.2.2.2.2.2])), ((bm 10), .inl (cI, 2, .inl e.1)), ((bm 11), .inl (cI, 2, .inl e.2.1)), ((bm 12), .inl (cI, 2, .inl e.2.2.1)), ((bm 13), .inl (cI, 2, .inl (upd e.2.2.2.1 0 0))), ((bm 14), .inl (cI, 2, .inl e.2.2.2.2.1)), ((bm 15), .inl (cZ, 2, .inl e.2.2.2.2.2.1)), ((bm 16), .inl (cI, 2, .inl (upd e.2.2.2.2.2.2.1 0 2))), ((bm 17), .inl (cI, 2, .inl (upd e.2.2.2.2.2.2.2 0 (e.1 0))))] H locs := hw
    exact kx_ret_v I rfl hw (e.1, e.2.1, e.2.2.1, upd e.2.2.2.1 0 0, e.2.2.2.2.1, e.2.2.2.2.2.1, upd e.2.2.2.2.2.2.1 0 2, upd e.2.2.2.2.2.2.2 0 (e.1 0)) (by simp only [f_Md_give_0, if_neg h1]) [0, 1, 2, 3, 4, 5, 6, 7, 8] (by decide) rfl d_Md_give_50
  · refine lv_iconst (v := 1) hx hb d_Md_give_15 (by decide) ?_
    refine lv_goto (tgt := 20) hx hb d_Md_give_16 (by decide) ?_
    refine kx_iast S hw 7 0 rfl rfl (j := 0) (by decide) (by unfold vp_in; decide) d_Md_give_20 (fun H locs hw => ?_)
    have hw : kx_w D (kx_T cI cZ cO) A_ s_ [((bm 0), .inr (6, [.int mi.1, .int mi.2.1, .int mi.2.2.1, .ref (bm 1), .ref (bm 2), .ref (bm 3), .ref (bm 4), .ref (bm 5), .ref (bm 6), .ref (bm 7), .ref (bm 8), .ref (bm 9), .int mi.2.2.2.1, .ref (bm 10), .ref (bm 11), .ref (bm 12), .ref (bm 13), .ref (bm 14), .ref (bm 15), .ref (bm 16), .ref (bm 17), .int mi.2.2.2.2.1, .int mi.2.2.2.2.2.1, .int mi.2.2.2.2.2.2.1, .int mi.2.2.2.2.2.2.2.1, .ref (bm 18), .ref (bm 19), .ref (bm 20), .ref (bm 21), .int mi.2.2.2.2.2.2.2.2])), ((bm 10), .inl (cI, 2, .inl e.1)), ((bm 11), .inl (cI, 2, .inl e.2.1)), ((bm 12), .inl (cI, 2, .inl e.2.2.1)), ((bm 13), .inl (cI, 2, .inl e.2.2.2.1)), ((bm 14), .inl (cI, 2, .inl e.2.2.2.2.1)), ((bm 15), .inl (cZ, 2, .inl e.2.2.2.2.2.1)), ((bm 16), .inl (cI, 2, .inl (upd e.2.2.2.2.2.2.1 0 1))), ((bm 17), .inl (cI, 2, .inl e.2.2.2.2.2.2.2))] H locs := hw
    refine lv_aload_n hx hb d_Md_give_21 rfl (lv_at hl 0 rfl) ?_
    refine kx_get S hw fg_Md_40 0 rfl rfl d_Md_give_22 ?_
    refine lv_iload_n hx hb d_Md_give_25 rfl (lv_at hl 1 rfl) ?_
    refine kx_iald S hw 2 0 rfl rfl (j := 0) (by decide) (by unfold vp_in; decide) d_Md_give_26 ?_
    refine lv_iconst (v := 2) hx hb d_Md_give_27 (by decide) ?_
    refine lv_icmp_eq (tgt := 50) hx hb d_Md_give_28 (by decide) (fun _ => ?_) (fun h => absurd h1 h)
    exact kx_ret_v I rfl hw (e.1, e.2.1, e.2.2.1, e.2.2.2.1, e.2.2.2.2.1, e.2.2.2.2.2.1, upd e.2.2.2.2.2.2.1 0 1, e.2.2.2.2.2.2.2) (by simp only [f_Md_give_0, if_pos h1]) [0, 1, 2, 3, 4, 5, 6, 7, 8] (by decide) rfl d_Md_give_50
def f_Md_reincarnate_1 (mi : kt_I) (e : kt_E) : kt_E :=
  if (mi.2.1 - mi.2.1 / mi.1 * mi.1) = 0 then (if (e.2.1 1) = 2 then (upd e.1 1 ((e.1 1) + 1), upd e.2.1 1 0, upd e.2.2.1 1 0, upd e.2.2.2.1 1 (-1), e.2.2.2.2.1, upd e.2.2.2.2.2.1 1 0, e.2.2.2.2.2.2.1, e.2.2.2.2.2.2.2)
    else if (e.2.2.2.2.2.1 1) = 0 then (e.1, e.2.1, e.2.2.1, e.2.2.2.1, e.2.2.2.2.1, upd e.2.2.2.2.2.1 1 1, e.2.2.2.2.2.2.1, e.2.2.2.2.2.2.2)
    else (upd e.1 1 ((e.1 1) + 1), upd e.2.1 1 0, upd e.2.2.1 1 0, upd e.2.2.2.1 1 (-1), e.2.2.2.2.1, upd e.2.2.2.2.2.1 1 0, e.2.2.2.2.2.2.1, e.2.2.2.2.2.2.2))
  else if (e.2.1 1) = 2 then (upd e.1 1 ((e.1 1) + 1), upd e.2.1 1 0, upd e.2.2.1 1 0, upd e.2.2.2.1 1 (-1), e.2.2.2.2.1, upd e.2.2.2.2.2.1 1 0, e.2.2.2.2.2.2.1, e.2.2.2.2.2.2.2)
  else e
set_option maxHeartbeats 4000000 in
set_option maxRecDepth 100000 in
theorem c_Md_reincarnate_1 (l : Launch) (D : va_G) (cI cZ cO : ClassId) (bm : Nat → Nat) (mi : kt_I) (e : kt_E) (hpp : ¬ mi.1 = 0) : kx_Cv (S := kt_E) l y_Md_reincarnate b_Md_reincarnate 3 0 0 0 D (kx_T cI cZ cO) [.ref (bm 0), .int 1] [((bm 0), .inr (6, [.int mi.1, .int mi.2.1, .int mi.2.2.1, .ref (bm 1), .ref (bm 2), .ref (bm 3), .ref (bm 4), .ref (bm 5), .ref (bm 6), .ref (bm 7), .ref (bm 8), .ref (bm 9), .int mi.2.2.2.1, .ref (bm 10), .ref (bm 11), .ref (bm 12), .ref (bm 13), .ref (bm 14), .ref (bm 15), .ref (bm 16), .ref (bm 17), .int mi.2.2.2.2.1, .int mi.2.2.2.2.2.1, .int mi.2.2.2.2.2.2.1, .int mi.2.2.2.2.2.2.2.1, .ref (bm 18), .ref (bm 19), .ref (bm 20), .ref (bm 21), .int mi.2.2.2.2.2.2.2.2])), ((bm 10), .inl (cI, 2, .inl e.1)), ((bm 11), .inl (cI, 2, .inl e.2.1)), ((bm 12), .inl (cI, 2, .inl e.2.2.1)), ((bm 13), .inl (cI, 2, .inl e.2.2.2.1)), ((bm 14), .inl (cI, 2, .inl e.2.2.2.2.1)), ((bm 15), .inl (cZ, 2, .inl e.2.2.2.2.2.1)), ((bm 16), .inl (cI, 2, .inl e.2.2.2.2.2.2.1)), ((bm 17), .inl (cI, 2, .inl e.2.2.2.2.2.2.2))] (fun zz => zz = f_Md_reincarnate_1 mi e) (fun zz => [((bm 0), .inr (6, [.int mi.1, .int mi.2.1, .int mi.2.2.1, .ref (bm 1), .ref (bm 2), .ref (bm 3), .ref (bm 4), .ref (bm 5), .ref (bm 6), .ref (bm 7), .ref (bm 8), .ref (bm 9), .int mi.2.2.2.1, .ref (bm 10), .ref (bm 11), .ref (bm 12), .ref (bm 13), .ref (bm 14), .ref (bm 15), .ref (bm 16), .ref (bm 17), .int mi.2.2.2.2.1, .int mi.2.2.2.2.2.1, .int mi.2.2.2.2.2.2.1, .int mi.2.2.2.2.2.2.2.1, .ref (bm 18), .ref (bm 19), .ref (bm 20), .ref (bm 21), .int mi.2.2.2.2.2.2.2.2])), ((bm 10), .inl (cI, 2, .inl zz.1)), ((bm 11), .inl (cI, 2, .inl zz.2.1)), ((bm 12), .inl (cI, 2, .inl zz.2.2.1)), ((bm 13), .inl (cI, 2, .inl zz.2.2.2.1)), ((bm 14), .inl (cI, 2, .inl zz.2.2.2.2.1)), ((bm 15), .inl (cZ, 2, .inl zz.2.2.2.2.2.1)), ((bm 16), .inl (cI, 2, .inl zz.2.2.2.2.2.2.1)), ((bm 17), .inl (cI, 2, .inl zz.2.2.2.2.2.2.2))]) := by
  refine kx_enter_v (by decide) (Nat.le_of_ble_eq_true rfl) ?_
  intro p_ e_ s_ m_ below_ meth_ c_ ls A_ H I hl hw
  have S := I.1
  have hx := S.1
  have hb := S.2.1
  have hl : lv_has ls 3 [(0, .ref (bm 0)), (1, .int 1)] := hl
  refine lv_aload_n hx hb d_Md_reincarnate_0 rfl (lv_at hl 0 rfl) ?_
  refine kx_get S hw fg_Md_89 0 rfl rfl d_Md_reincarnate_1 ?_
  refine lv_aload_n hx hb d_Md_reincarnate_4 rfl (lv_at hl 0 rfl) ?_
  refine kx_get S hw fg_Md_74 0 rfl rfl d_Md_reincarnate_5 ?_
  refine lv_irem hx hb d_Md_reincarnate_8 hpp ?_
  refine lv_if_ne (tgt := 16) hx hb d_Md_reincarnate_9 (by decide) (fun h1 => ?_) (fun h1 => ?_)
  · refine lv_iconst (v := 0) hx hb d_Md_reincarnate_16 (by decide) ?_
    refine lv_istore_n (lv' := [(2, .int 0), (0, .ref (bm 0)), (1, .int 1)]) hx hb d_Md_reincarnate_17 rfl hl (by decide) rfl (fun ls hl => ?_)
    refine lv_aload_n hx hb d_Md_reincarnate_18 rfl (lv_at hl 1 rfl) ?_
    refine kx_get S hw fg_Md_40 0 rfl rfl d_Md_reincarnate_19 ?_
    refine lv_iload_n hx hb d_Md_reincarnate_22 rfl (lv_at hl 2 rfl) ?_
    refine kx_iald S hw 2 0 rfl rfl (j := 1) (by decide) (by unfold vp_in; decide) d_Md_reincarnate_23 ?_
    refine lv_iconst (v := 2) hx hb d_Md_reincarnate_24 (by decide) ?_
    refine lv_icmp_eq (tgt := 41) hx hb d_Md_reincarnate_25 (by decide) (fun h2 => ?_) (fun h2 => ?_)
    · refine lv_aload_n hx hb d_Md_reincarnate_41 rfl (lv_at hl 1 rfl) ?_
      refine kx_get S hw fg_Md_37 0 rfl rfl d_Md_reincarnate_42 ?_
      refine lv_iload_n hx hb d_Md_reincarnate_45 rfl (lv_at hl 2 rfl) ?_
      refine lv_dup2_11 hx hb d_Md_reincarnate_46 rfl rfl ?_
      refine kx_iald S hw 1 0 rfl rfl (j := 1) (by decide) (by unfold vp_in; decide) d_Md_reincarnate_47 ?_
      refine lv_iconst (v := 1) hx hb d_Md_reincarnate_48 (by decide) ?_
      refine lv_iadd hx hb d_Md_reincarnate_49 ?_
      refine kx_iast S hw 1 0 rfl rfl (j := 1) (by decide) (by unfold vp_in; decide) d_Md_reincarnate_50 (fun H locs hw => ?_)
      have hw : kx_w D (kx_T cI cZ cO) A_ s_ [((bm 0), .inr (6, [.int mi.1, .int mi.2.1, .int mi.2.2.1, .ref (bm 1), .ref (bm 2), .ref (bm 3), .ref (bm 4), .ref (bm 5), .ref (bm 6), .ref (bm 7), .ref (bm 8), .ref (bm 9), .int mi.2.2.2.1, .ref (bm 10), .ref (bm 11), .ref (bm 12), .ref (bm 13), .ref (bm 14), .ref (bm 15), .ref (bm 16), .ref (bm 17), .int mi.2.2.2.2.1, .int mi.2.2.2.2.2.1, .int mi.2.2.2.2.2.2.1, .int mi.2.2.2.2.2.2.2.1, .ref (bm 18), .ref (bm 19), .ref (bm 20), .ref (bm 21), .int mi.2.2.2.2.2.2.2.2])), ((bm 10), .inl (cI, 2, .inl (upd e.1 1 ((e.1 1) + 1)))), ((bm 11), .inl (cI, 2, .inl e.2.1)), ((bm 12), .inl (cI, 2, .inl e.2.2.1)), ((bm 13), .inl (cI, 2, .inl e.2.2.2.1)), ((bm 14), .inl (cI, 2, .inl e.2.2.2.2.1)), ((bm 15), .inl (cZ, 2, .inl e.2.2.2.2.2.1)), ((bm 16), .inl (cI, 2, .inl e.2.2.2.2.2.2.1)), ((bm 17), .inl (cI, 2, .inl e.2.2.2.2.2.2.2))] H locs := hw
      refine lv_aload_n hx hb d_Md_reincarnate_51 rfl (lv_at hl 1 rfl) ?_
      refine kx_get S hw fg_Md_40 0 rfl rfl d_Md_reincarnate_52 ?_
      refine lv_iload_n hx hb d_Md_reincarnate_55 rfl (lv_at hl 2 rfl) ?_
      refine lv_iconst (v := 0) hx hb d_Md_reincarnate_56 (by decide) ?_
      refine kx_iast S hw 2 0 rfl rfl (j := 1) (by decide) (by unfold vp_in; decide) d_Md_reincarnate_57 (fun H locs hw => ?_)
      have hw : kx_w D (kx_T cI cZ cO) A_ s_ [((bm 0), .inr (6, [.int mi.1, .int mi.2.1, .int mi.2.2.1, .ref (bm 1), .ref (bm 2), .ref (bm 3), .ref (bm 4), .ref (bm 5), .ref (bm 6), .ref (bm 7), .ref (bm 8), .ref (bm 9), .int mi.2.2.2.1, .ref (bm 10), .ref (bm 11), .ref (bm 12), .ref (bm 13), .ref (bm 14), .ref (bm 15), .ref (bm 16), .ref (bm 17), .int mi.2.2.2.2.1, .int mi.2.2.2.2.2.1, .int mi.2.2.2.2.2.2.1, .int mi.2.2.2.2.2.2.2.1, .ref (bm 18), .ref (bm 19), .ref (bm 20), .ref (bm 21), .int mi.2.2.2.2.2.2.2.2])), ((bm 10), .inl (cI, 2, .inl (upd e.1 1 ((e.1 1) + 1)))), ((bm 11), .inl (cI, 2, .inl (upd e.2.1 1 0))), ((bm 12), .inl (cI, 2, .inl e.2.2.1)), ((bm 13), .inl (cI, 2, .inl e.2.2.2.1)), ((bm 14), .inl (cI, 2, .inl e.2.2.2.2.1)), ((bm 15), .inl (cZ, 2, .inl e.2.2.2.2.2.1)), ((bm 16), .inl (cI, 2, .inl e.2.2.2.2.2.2.1)), ((bm 17), .inl (cI, 2, .inl e.2.2.2.2.2.2.2))] H locs := hw
      refine lv_aload_n hx hb d_Md_reincarnate_58 rfl (lv_at hl 1 rfl) ?_
      refine kx_get S hw fg_Md_43 0 rfl rfl d_Md_reincarnate_59 ?_
      refine lv_iload_n hx hb d_Md_reincarnate_62 rfl (lv_at hl 2 rfl) ?_
      refine lv_iconst (v := 0) hx hb d_Md_reincarnate_63 (by decide) ?_
      refine kx_iast S hw 3 0 rfl rfl (j := 1) (by decide) (by unfold vp_in; decide) d_Md_reincarnate_64 (fun H locs hw => ?_)
      have hw : kx_w D (kx_T cI cZ cO) A_ s_ [((bm 0), .inr (6, [.int mi.1, .int mi.2.1, .int mi.2.2.1, .ref (bm 1), .ref (bm 2), .ref (bm 3), .ref (bm 4), .ref (bm 5), .ref (bm 6), .ref (bm 7), .ref (bm 8), .ref (bm 9), .int mi.2.2.2.1, .ref (bm 10), .ref (bm 11), .ref (bm 12), .ref (bm 13), .ref (bm 14), .ref (bm 15), .ref (bm 16), .ref (bm 17), .int mi.2.2.2.2.1, .int mi.2.2.2.2.2.1, .int mi.2.2.2.2.2.2.1, .int mi.2.2.2.2.2.2.2.1, .ref (bm 18), .ref (bm 19), .ref (bm 20), .ref (bm 21), .int mi.2.2.2.2.2.2.2.2])), ((bm 10), .inl (cI, 2, .inl (upd e.1 1 ((e.1 1) + 1)))), ((bm 11), .inl (cI, 2, .inl (upd e.2.1 1 0))), ((bm 12), .inl (cI, 2, .inl (upd e.2.2.1 1 0))), ((bm 13), .inl (cI, 2, .inl e.2.2.2.1)), ((bm 14), .inl (cI, 2, .inl e.2.2.2.2.1)), ((bm 15), .inl (cZ, 2, .inl e.2.2.2.2.2.1)), ((bm 16), .inl (cI, 2, .inl e.2.2.2.2.2.2.1)), ((bm 17), .inl (cI, 2, .inl e.2.2.2.2.2.2.2))] H locs := hw
      refine lv_aload_n hx hb d_Md_reincarnate_65 rfl (lv_at hl 1 rfl) ?_
      refine kx_get S hw fg_Md_46 0 rfl rfl d_Md_reincarnate_66 ?_
      refine lv_iload_n hx hb d_Md_reincarnate_69 rfl (lv_at hl 2 rfl) ?_
      refine lv_iconst (v := (-1)) hx hb d_Md_reincarnate_70 (by decide) ?_
      refine kx_iast S hw 4 0 rfl rfl (j := 1) (by decide) (by unfold vp_in; decide) d_Md_reincarnate_71 (fun H locs hw => ?_)
      have hw : kx_w D (kx_T cI cZ cO) A_ s_ [((bm 0), .inr (6, [.int mi.1, .int mi.2.1, .int mi.2.2.1, .ref (bm 1), .ref (bm 2), .ref (bm 3), .ref (bm 4), .ref (bm 5), .ref (bm 6), .ref (bm 7), .ref (bm 8), .ref (bm 9), .int mi.2.2.2.1, .ref (bm 10), .ref (bm 11), .ref (bm 12), .ref (bm 13), .ref (bm 14), .ref (bm 15), .ref (bm 16), .ref (bm 17), .int mi.2.2.2.2.1, .int mi.2.2.2.2.2.1, .int mi.2.2.2.2.2.2.1, .int mi.2.2.2.2.2.2.2.1, .ref (bm 18), .ref (bm 19), .ref (bm 20), .ref (bm 21), .int mi.2.2.2.2.2.2.2.2])), ((bm 10), .inl (cI, 2, .inl (upd e.1 1 ((e.1 1) + 1)))), ((bm 11), .inl (cI, 2, .inl (upd e.2.1 1 0))), ((bm 12), .inl (cI, 2, .inl (upd e.2.2.1 1 0))), ((bm 13), .inl (cI, 2, .inl (upd e.2.2.2.1 1 (-1)))), ((bm 14), .inl (cI, 2, .inl e.2.2.2.2.1)), ((bm 15), .inl (cZ, 2, .inl e.2.2.2.2.2.1)), ((bm 16), .inl (cI, 2, .inl e.2.2.2.2.2.2.1)), ((bm 17), .inl (cI, 2, .inl e.2.2.2.2.2.2.2))] H locs := hw
      refine lv_aload_n hx hb d_Md_reincarnate_72 rfl (lv_at hl 1 rfl) ?_
      refine kx_get S hw fg_Md_52 0 rfl rfl d_Md_reincarnate_73 ?_
      refine lv_iload_n hx hb d_Md_reincarnate_76 rfl (lv_at hl 2 rfl) ?_
      refine lv_iconst (v := 0) hx hb d_Md_reincarnate_77 (by decide) ?_
      refine kx_zast S hw 6 1 rfl rfl (j := 1) (by decide) (by decide) (by unfold vp_in; decide) d_Md_reincarnate_78 (fun H locs hw => ?_)
      have hw : kx_w D (kx_T cI cZ cO) A_ s_ [((bm 0), .inr (6, [.int mi.1, .int mi.2.1, .int mi.2.2.1, .ref (bm 1), .ref (bm 2), .ref (bm 3), .ref (bm 4), .ref (bm 5), .ref (bm 6), .ref (bm 7), .ref (bm 8), .ref (bm 9), .int mi.2.2.2.1, .ref (bm 10), .ref (bm 11), .ref (bm 12), .ref (bm 13), .ref (bm 14), .ref (bm 15), .ref (bm 16), .ref (bm 17), .int mi.2.2.2.2.1, .int mi.2.2.2.2.2.1, .int mi.2.2.2.2.2.2.1, .int mi.2.2.2.2.2.2.2.1, .ref (bm 18), .ref (bm 19), .ref (bm 20), .ref (bm 21), .int mi.2.2.2.2.2.2.2.2])), ((bm 10), .inl (cI, 2, .inl (upd e.1 1 ((e.1 1) + 1)))), ((bm 11), .inl (cI, 2, .inl (upd e.2.1 1 0))), ((bm 12), .inl (cI, 2, .inl (upd e.2.2.1 1 0))), ((bm 13), .inl (cI, 2, .inl (upd e.2.2.2.1 1 (-1)))), ((bm 14), .inl (cI, 2, .inl e.2.2.2.2.1)), ((bm 15), .inl (cZ, 2, .inl (upd e.2.2.2.2.2.1 1 0))), ((bm 16), .inl (cI, 2, .inl e.2.2.2.2.2.2.1)), ((bm 17), .inl (cI, 2, .inl e.2.2.2.2.2.2.2))] H locs := hw
      refine lv_goto (tgt := 93) hx hb d_Md_reincarnate_79 (by decide) ?_
      exact kx_ret_v I rfl hw (upd e.1 1 ((e.1 1) + 1), upd e.2.1 1 0, upd e.2.2.1 1 0, upd e.2.2.2.1 1 (-1), e.2.2.2.2.1, upd e.2.2.2.2.2.1 1 0, e.2.2.2.2.2.2.1, e.2.2.2.2.2.2.2) (by simp only [f_Md_reincarnate_1, if_neg h1, if_pos h2]) [0, 1, 2, 3, 4, 5, 6, 7, 8] (by decide) rfl d_Md_reincarnate_93
    · refine lv_iload_n hx hb d_Md_reincarnate_28 rfl (lv_at hl 0 rfl) ?_
      refine lv_if_eq (tgt := 82) hx hb d_Md_reincarnate_29 (by decide) (fun _ => ?_) (fun h => absurd h (by decide))
      refine lv_iload_n hx hb d_Md_reincarnate_82 rfl (lv_at hl 0 rfl) ?_
      refine lv_if_eq (tgt := 93) hx hb d_Md_reincarnate_83 (by decide) (fun _ => ?_) (fun h => absurd h (by decide))
      exact kx_ret_v I rfl hw e (by simp only [f_Md_reincarnate_1, if_neg h1, if_neg h2]) [0, 1, 2, 3, 4, 5, 6, 7, 8] (by decide) rfl d_Md_reincarnate_93
  · refine lv_iconst (v := 1) hx hb d_Md_reincarnate_12 (by decide) ?_
    refine lv_goto (tgt := 17) hx hb d_Md_reincarnate_13 (by decide) ?_
    refine lv_istore_n (lv' := [(2, .int 1), (0, .ref (bm 0)), (1, .int 1)]) hx hb d_Md_reincarnate_17 rfl hl (by decide) rfl (fun ls hl => ?_)
    refine lv_aload_n hx hb d_Md_reincarnate_18 rfl (lv_at hl 1 rfl) ?_
    refine kx_get S hw fg_Md_40 0 rfl rfl d_Md_reincarnate_19 ?_
    refine lv_iload_n hx hb d_Md_reincarnate_22 rfl (lv_at hl 2 rfl) ?_
    refine kx_iald S hw 2 0 rfl rfl (j := 1) (by decide) (by unfold vp_in; decide) d_Md_reincarnate_23 ?_
    refine lv_iconst (v := 2) hx hb d_Md_reincarnate_24 (by decide) ?_
    refine lv_icmp_eq (tgt := 41) hx hb d_Md_reincarnate_25 (by decide) (fun h3 => ?_) (fun h3 => ?_)
    · refine lv_aload_n hx hb d_Md_reincarnate_41 rfl (lv_at hl 1 rfl) ?_
      refine kx_get S hw fg_Md_37 0 rfl rfl d_Md_reincarnate_42 ?_
      refine lv_iload_n hx hb d_Md_reincarnate_45 rfl (lv_at hl 2 rfl) ?_
      refine lv_dup2_11 hx hb d_Md_reincarnate_46 rfl rfl ?_
      refine kx_iald S hw 1 0 rfl rfl (j := 1) (by decide) (by unfold vp_in; decide) d_Md_reincarnate_47 ?_
      refine lv_iconst (v := 1) hx hb d_Md_reincarnate_48 (by decide) ?_
      refine lv_iadd hx hb d_Md_reincarnate_49 ?_
      refine kx_iast S hw 1 0 rfl rfl (j := 1) (by decide) (by unfold vp_in; decide) d_Md_reincarnate_50 (fun H locs hw => ?_)
      have hw : kx_w D (kx_T cI cZ cO) A_ s_ [((bm 0), .inr (6, [.int mi.1, .int mi.2.1, .int mi.2.2.1, .ref (bm 1), .ref (bm 2), .ref (bm 3), .ref (bm 4), .ref (bm 5), .ref (bm 6), .ref (bm 7), .ref (bm 8), .ref (bm 9), .int mi.2.2.2.1, .ref (bm 10), .ref (bm 11), .ref (bm 12), .ref (bm 13), .ref (bm 14), .ref (bm 15), .ref (bm 16), .ref (bm 17), .int mi.2.2.2.2.1, .int mi.2.2.2.2.2.1, .int mi.2.2.2.2.2.2.1, .int mi.2.2.2.2.2.2.2.1, .ref (bm 18), .ref (bm 19), .ref (bm 20), .ref (bm 21), .int mi.2.2.2.2.2.2.2.2])), ((bm 10), .inl (cI, 2, .inl (upd e.1 1 ((e.1 1) + 1)))), ((bm 11), .inl (cI, 2, .inl e.2.1)), ((bm 12), .inl (cI, 2, .inl e.2.2.1)), ((bm 13), .inl (cI, 2, .inl e.2.2.2.1)), ((bm 14), .inl (cI, 2, .inl e.2.2.2.2.1)), ((bm 15), .inl (cZ, 2, .inl e.2.2.2.2.2.1)), ((bm 16), .inl (cI, 2, .inl e.2.2.2.2.2.2.1)), ((bm 17), .inl (cI, 2, .inl e.2.2.2.2.2.2.2))] H locs := hw
      refine lv_aload_n hx hb d_Md_reincarnate_51 rfl (lv_at hl 1 rfl) ?_
      refine kx_get S hw fg_Md_40 0 rfl rfl d_Md_reincarnate_52 ?_
      refine lv_iload_n hx hb d_Md_reincarnate_55 rfl (lv_at hl 2 rfl) ?_
      refine lv_iconst (v := 0) hx hb d_Md_reincarnate_56 (by decide) ?_
      refine kx_iast S hw 2 0 rfl rfl (j := 1) (by decide) (by unfold vp_in; decide) d_Md_reincarnate_57 (fun H locs hw => ?_)
      have hw : kx_w D (kx_T cI cZ cO) A_ s_ [((bm 0), .inr (6, [.int mi.1, .int mi.2.1, .int mi.2.2.1, .ref (bm 1), .ref (bm 2), .ref (bm 3), .ref (bm 4), .ref (bm 5), .ref (bm 6), .ref (bm 7), .ref (bm 8), .ref (bm 9), .int mi.2.2.2.1, .ref (bm 10), .ref (bm 11), .ref (bm 12), .ref (bm 13), .ref (bm 14), .ref (bm 15), .ref (bm 16), .ref (bm 17), .int mi.2.2.2.2.1, .int mi.2.2.2.2.2.1, .int mi.2.2.2.2.2.2.1, .int mi.2.2.2.2.2.2.2.1, .ref (bm 18), .ref (bm 19), .ref (bm 20), .ref (bm 21), .int mi.2.2.2.2.2.2.2.2])), ((bm 10), .inl (cI, 2, .inl (upd e.1 1 ((e.1 1) + 1)))), ((bm 11), .inl (cI, 2, .inl (upd e.2.1 1 0))), ((bm 12), .inl (cI, 2, .inl e.2.2.1)), ((bm 13), .inl (cI, 2, .inl e.2.2.2.1)), ((bm 14), .inl (cI, 2, .inl e.2.2.2.2.1)), ((bm 15), .inl (cZ, 2, .inl e.2.2.2.2.2.1)), ((bm 16), .inl (cI, 2, .inl e.2.2.2.2.2.2.1)), ((bm 17), .inl (cI, 2, .inl e.2.2.2.2.2.2.2))] H locs := hw
      refine lv_aload_n hx hb d_Md_reincarnate_58 rfl (lv_at hl 1 rfl) ?_
      refine kx_get S hw fg_Md_43 0 rfl rfl d_Md_reincarnate_59 ?_
      refine lv_iload_n hx hb d_Md_reincarnate_62 rfl (lv_at hl 2 rfl) ?_
      refine lv_iconst (v := 0) hx hb d_Md_reincarnate_63 (by decide) ?_
      refine kx_iast S hw 3 0 rfl rfl (j := 1) (by decide) (by unfold vp_in; decide) d_Md_reincarnate_64 (fun H locs hw => ?_)
      have hw : kx_w D (kx_T cI cZ cO) A_ s_ [((bm 0), .inr (6, [.int mi.1, .int mi.2.1, .int mi.2.2.1, .ref (bm 1), .ref (bm 2), .ref (bm 3), .ref (bm 4), .ref (bm 5), .ref (bm 6), .ref (bm 7), .ref (bm 8), .ref (bm 9), .int mi.2.2.2.1, .ref (bm 10), .ref (bm 11), .ref (bm 12), .ref (bm 13), .ref (bm 14), .ref (bm 15), .ref (bm 16), .ref (bm 17), .int mi.2.2.2.2.1, .int mi.2.2.2.2.2.1, .int mi.2.2.2.2.2.2.1, .int mi.2.2.2.2.2.2.2.1, .ref (bm 18), .ref (bm 19), .ref (bm 20), .ref (bm 21), .int mi.2.2.2.2.2.2.2.2])), ((bm 10), .inl (cI, 2, .inl (upd e.1 1 ((e.1 1) + 1)))), ((bm 11), .inl (cI, 2, .inl (upd e.2.1 1 0))), ((bm 12), .inl (cI, 2, .inl (upd e.2.2.1 1 0))), ((bm 13), .inl (cI, 2, .inl e.2.2.2.1)), ((bm 14), .inl (cI, 2, .inl e.2.2.2.2.1)), ((bm 15), .inl (cZ, 2, .inl e.2.2.2.2.2.1)), ((bm 16), .inl (cI, 2, .inl e.2.2.2.2.2.2.1)), ((bm 17), .inl (cI, 2, .inl e.2.2.2.2.2.2.2))] H locs := hw
      refine lv_aload_n hx hb d_Md_reincarnate_65 rfl (lv_at hl 1 rfl) ?_
      refine kx_get S hw fg_Md_46 0 rfl rfl d_Md_reincarnate_66 ?_
      refine lv_iload_n hx hb d_Md_reincarnate_69 rfl (lv_at hl 2 rfl) ?_
      refine lv_iconst (v := (-1)) hx hb d_Md_reincarnate_70 (by decide) ?_
      refine kx_iast S hw 4 0 rfl rfl (j := 1) (by decide) (by unfold vp_in; decide) d_Md_reincarnate_71 (fun H locs hw => ?_)
      have hw : kx_w D (kx_T cI cZ cO) A_ s_ [((bm 0), .inr (6, [.int mi.1, .int mi.2.1, .int mi.2.2.1, .ref (bm 1), .ref (bm 2), .ref (bm 3), .ref (bm 4), .ref (bm 5), .ref (bm 6), .ref (bm 7), .ref (bm 8), .ref (bm 9), .int mi.2.2.2.1, .ref (bm 10), .ref (bm 11), .ref (bm 12), .ref (bm 13), .ref (bm 14), .ref (bm 15), .ref (bm 16), .ref (bm 17), .int mi.2.2.2.2.1, .int mi.2.2.2.2.2.1, .int mi.2.2.2.2.2.2.1, .int mi.2.2.2.2.2.2.2.1, .ref (bm 18), .ref (bm 19), .ref (bm 20), .ref (bm 21), .int mi.2.2.2.2.2.2.2.2])), ((bm 10), .inl (cI, 2, .inl (upd e.1 1 ((e.1 1) + 1)))), ((bm 11), .inl (cI, 2, .inl (upd e.2.1 1 0))), ((bm 12), .inl (cI, 2, .inl (upd e.2.2.1 1 0))), ((bm 13), .inl (cI, 2, .inl (upd e.2.2.2.1 1 (-1)))), ((bm 14), .inl (cI, 2, .inl e.2.2.2.2.1)), ((bm 15), .inl (cZ, 2, .inl e.2.2.2.2.2.1)), ((bm 16), .inl (cI, 2, .inl e.2.2.2.2.2.2.1)), ((bm 17), .inl (cI, 2, .inl e.2.2.2.2.2.2.2))] H locs := hw
      refine lv_aload_n hx hb d_Md_reincarnate_72 rfl (lv_at hl 1 rfl) ?_
      refine kx_get S hw fg_Md_52 0 rfl rfl d_Md_reincarnate_73 ?_
      refine lv_iload_n hx hb d_Md_reincarnate_76 rfl (lv_at hl 2 rfl) ?_
      refine lv_iconst (v := 0) hx hb d_Md_reincarnate_77 (by decide) ?_
      refine kx_zast S hw 6 1 rfl rfl (j := 1) (by decide) (by decide) (by unfold vp_in; decide) d_Md_reincarnate_78 (fun H locs hw => ?_)
      have hw : kx_w D (kx_T cI cZ cO) A_ s_ [((bm 0), .inr (6, [.int mi.1, .int mi.2.1, .int mi.2.2.1, .ref (bm 1), .ref (bm 2), .ref (bm 3), .ref (bm 4), .ref (bm 5), .ref (bm 6), .ref (bm 7), .ref (bm 8), .ref (bm 9), .int mi.2.2.2.1, .ref (bm 10), .ref (bm 11), .ref (bm 12), .ref (bm 13), .ref (bm 14), .ref (bm 15), .ref (bm 16), .ref (bm 17), .int mi.2.2.2.2.1, .int mi.2.2.2.2.2.1, .int mi.2.2.2.2.2.2.1, .int mi.2.2.2.2.2.2.2.1, .ref (bm 18), .ref (bm 19), .ref (bm 20), .ref (bm 21), .int mi.2.2.2.2.2.2.2.2])), ((bm 10), .inl (cI, 2, .inl (upd e.1 1 ((e.1 1) + 1)))), ((bm 11), .inl (cI, 2, .inl (upd e.2.1 1 0))), ((bm 12), .inl (cI, 2, .inl (upd e.2.2.1 1 0))), ((bm 13), .inl (cI, 2, .inl (upd e.2.2.2.1 1 (-1)))), ((bm 14), .inl (cI, 2, .inl e.2.2.2.2.1)), ((bm 15), .inl (cZ, 2, .inl (upd e.2.2.2.2.2.1 1 0))), ((bm 16), .inl (cI, 2, .inl e.2.2.2.2.2.2.1)), ((bm 17), .inl (cI, 2, .inl e.2.2.2.2.2.2.2))] H locs := hw
      refine lv_goto (tgt := 93) hx hb d_Md_reincarnate_79 (by decide) ?_
      exact kx_ret_v I rfl hw (upd e.1 1 ((e.1 1) + 1), upd e.2.1 1 0, upd e.2.2.1 1 0, upd e.2.2.2.1 1 (-1), e.2.2.2.2.1, upd e.2.2.2.2.2.1 1 0, e.2.2.2.2.2.2.1, e.2.2.2.2.2.2.2) (by simp only [f_Md_reincarnate_1, if_pos h1, if_pos h3]) [0, 1, 2, 3, 4, 5, 6, 7, 8] (by decide) rfl d_Md_reincarnate_93
    · refine lv_iload_n hx hb d_Md_reincarnate_28 rfl (lv_at hl 0 rfl) ?_
      refine lv_if_eq (tgt := 82) hx hb d_Md_reincarnate_29 (by decide) (fun h => absurd h (by decide)) (fun _ => ?_)
      refine lv_aload_n hx hb d_Md_reincarnate_32 rfl (lv_at hl 1 rfl) ?_
      refine kx_get S hw fg_Md_52 0 rfl rfl d_Md_reincarnate_33 ?_
      refine lv_iload_n hx hb d_Md_reincarnate_36 rfl (lv_at hl 2 rfl) ?_
      refine kx_zald S hw 6 1 rfl rfl (j := 1) (by decide) (by unfold vp_in; decide) d_Md_reincarnate_37 ?_
      refine lv_if_eq (tgt := 82) hx hb d_Md_reincarnate_38 (by decide) (fun h4 => ?_) (fun h4 => ?_)
      · refine lv_iload_n hx hb d_Md_reincarnate_82 rfl (lv_at hl 0 rfl) ?_
        refine lv_if_eq (tgt := 93) hx hb d_Md_reincarnate_83 (by decide) (fun h => absurd h (by decide)) (fun _ => ?_)
        refine lv_aload_n hx hb d_Md_reincarnate_86 rfl (lv_at hl 1 rfl) ?_
        refine kx_get S hw fg_Md_52 0 rfl rfl d_Md_reincarnate_87 ?_
        refine lv_iload_n hx hb d_Md_reincarnate_90 rfl (lv_at hl 2 rfl) ?_
        refine lv_iconst (v := 1) hx hb d_Md_reincarnate_91 (by decide) ?_
        refine kx_zast S hw 6 1 rfl rfl (j := 1) (by decide) (by decide) (by unfold vp_in; decide) d_Md_reincarnate_92 (fun H locs hw => ?_)
        have hw : kx_w D (kx_T cI cZ cO) A_ s_ [((bm 0), .inr (6, [.int mi.1, .int mi.2.1, .int mi.2.2.1, .ref (bm 1), .ref (bm 2), .ref (bm 3), .ref (bm 4), .ref (bm 5), .ref (bm 6), .ref (bm 7), .ref (bm 8), .ref (bm 9), .int mi.2.2.2.1, .ref (bm 10), .ref (bm 11), .ref (bm 12), .ref (bm 13), .ref (bm 14), .ref (bm 15), .ref (bm 16), .ref (bm 17), .int mi.2.2.2.2.1, .int mi.2.2.2.2.2.1, .int mi.2.2.2.2.2.2.1, .int mi.2.2.2.2.2.2.2.1, .ref (bm 18), .ref (bm 19), .ref (bm 20), .ref (bm 21), .int mi.2.2.2.2.2.2.2.2])), ((bm 10), .inl (cI, 2, .inl e.1)), ((bm 11), .inl (cI, 2, .inl e.2.1)), ((bm 12), .inl (cI, 2, .inl e.2.2.1)), ((bm 13), .inl (cI, 2, .inl e.2.2.2.1)), ((bm 14), .inl (cI, 2, .inl e.2.2.2.2.1)), ((bm 15), .inl (cZ, 2, .inl (upd e.2.2.2.2.2.1 1 1))), ((bm 16), .inl (cI, 2, .inl e.2.2.2.2.2.2.1)), ((bm 17), .inl (cI, 2, .inl e.2.2.2.2.2.2.2))] H locs := hw
        exact kx_ret_v I rfl hw (e.1, e.2.1, e.2.2.1, e.2.2.2.1, e.2.2.2.2.1, upd e.2.2.2.2.2.1 1 1, e.2.2.2.2.2.2.1, e.2.2.2.2.2.2.2) (by simp only [f_Md_reincarnate_1, if_pos h1, if_neg h3, if_pos h4]) [0, 1, 2, 3, 4, 5, 6, 7, 8] (by decide) rfl d_Md_reincarnate_93
      · refine lv_aload_n hx hb d_Md_reincarnate_41 rfl (lv_at hl 1 rfl) ?_
        refine kx_get S hw fg_Md_37 0 rfl rfl d_Md_reincarnate_42 ?_
        refine lv_iload_n hx hb d_Md_reincarnate_45 rfl (lv_at hl 2 rfl) ?_
        refine lv_dup2_11 hx hb d_Md_reincarnate_46 rfl rfl ?_
        refine kx_iald S hw 1 0 rfl rfl (j := 1) (by decide) (by unfold vp_in; decide) d_Md_reincarnate_47 ?_
        refine lv_iconst (v := 1) hx hb d_Md_reincarnate_48 (by decide) ?_
        refine lv_iadd hx hb d_Md_reincarnate_49 ?_
        refine kx_iast S hw 1 0 rfl rfl (j := 1) (by decide) (by unfold vp_in; decide) d_Md_reincarnate_50 (fun H locs hw => ?_)
        have hw : kx_w D (kx_T cI cZ cO) A_ s_ [((bm 0), .inr (6, [.int mi.1, .int mi.2.1, .int mi.2.2.1, .ref (bm 1), .ref (bm 2), .ref (bm 3), .ref (bm 4), .ref (bm 5), .ref (bm 6), .ref (bm 7), .ref (bm 8), .ref (bm 9), .int mi.2.2.2.1, .ref (bm 10), .ref (bm 11), .ref (bm 12), .ref (bm 13), .ref (bm 14), .ref (bm 15), .ref (bm 16), .ref (bm 17), .int mi.2.2.2.2.1, .int mi.2.2.2.2.2.1, .int mi.2.2.2.2.2.2.1, .int mi.2.2.2.2.2.2.2.1, .ref (bm 18), .ref (bm 19), .ref (bm 20), .ref (bm 21), .int mi.2.2.2.2.2.2.2.2])), ((bm 10), .inl (cI, 2, .inl (upd e.1 1 ((e.1 1) + 1)))), ((bm 11), .inl (cI, 2, .inl e.2.1)), ((bm 12), .inl (cI, 2, .inl e.2.2.1)), ((bm 13), .inl (cI, 2, .inl e.2.2.2.1)), ((bm 14), .inl (cI, 2, .inl e.2.2.2.2.1)), ((bm 15), .inl (cZ, 2, .inl e.2.2.2.2.2.1)), ((bm 16), .inl (cI, 2, .inl e.2.2.2.2.2.2.1)), ((bm 17), .inl (cI, 2, .inl e.2.2.2.2.2.2.2))] H locs := hw
        refine lv_aload_n hx hb d_Md_reincarnate_51 rfl (lv_at hl 1 rfl) ?_
        refine kx_get S hw fg_Md_40 0 rfl rfl d_Md_reincarnate_52 ?_
        refine lv_iload_n hx hb d_Md_reincarnate_55 rfl (lv_at hl 2 rfl) ?_
        refine lv_iconst (v := 0) hx hb d_Md_reincarnate_56 (by decide) ?_
        refine kx_iast S hw 2 0 rfl rfl (j := 1) (by decide) (by unfold vp_in; decide) d_Md_reincarnate_57 (fun H locs hw => ?_)
        have hw : kx_w D (kx_T cI cZ cO) A_ s_ [((bm 0), .inr (6, [.int mi.1, .int mi.2.1, .int mi.2.2.1, .ref (bm 1), .ref (bm 2), .ref (bm 3), .ref (bm 4), .ref (bm 5), .ref (bm 6), .ref (bm 7), .ref (bm 8), .ref (bm 9), .int mi.2.2.2.1, .ref (bm 10), .ref (bm 11), .ref (bm 12), .ref (bm 13), .ref (bm 14), .ref (bm 15), .ref (bm 16), .ref (bm 17), .int mi.2.2.2.2.1, .int mi.2.2.2.2.2.1, .int mi.2.2.2.2.2.2.1, .int mi.2.2.2.2.2.2.2.1, .ref (bm 18), .ref (bm 19), .ref (bm 20), .ref (bm 21), .int mi.2.2.2.2.2.2.2.2])), ((bm 10), .inl (cI, 2, .inl (upd e.1 1 ((e.1 1) + 1)))), ((bm 11), .inl (cI, 2, .inl (upd e.2.1 1 0))), ((bm 12), .inl (cI, 2, .inl e.2.2.1)), ((bm 13), .inl (cI, 2, .inl e.2.2.2.1)), ((bm 14), .inl (cI, 2, .inl e.2.2.2.2.1)), ((bm 15), .inl (cZ, 2, .inl e.2.2.2.2.2.1)), ((bm 16), .inl (cI, 2, .inl e.2.2.2.2.2.2.1)), ((bm 17), .inl (cI, 2, .inl e.2.2.2.2.2.2.2))] H locs := hw
        refine lv_aload_n hx hb d_Md_reincarnate_58 rfl (lv_at hl 1 rfl) ?_
        refine kx_get S hw fg_Md_43 0 rfl rfl d_Md_reincarnate_59 ?_
        refine lv_iload_n hx hb d_Md_reincarnate_62 rfl (lv_at hl 2 rfl) ?_
        refine lv_iconst (v := 0) hx hb d_Md_reincarnate_63 (by decide) ?_
        refine kx_iast S hw 3 0 rfl rfl (j := 1) (by decide) (by unfold vp_in; decide) d_Md_reincarnate_64 (fun H locs hw => ?_)
        have hw : kx_w D (kx_T cI cZ cO) A_ s_ [((bm 0), .inr (6, [.int mi.1, .int mi.2.1, .int mi.2.2.1, .ref (bm 1), .ref (bm 2), .ref (bm 3), .ref (bm 4), .ref (bm 5), .ref (bm 6), .ref (bm 7), .ref (bm 8), .ref (bm 9), .int mi.2.2.2.1, .ref (bm 10), .ref (bm 11), .ref (bm 12), .ref (bm 13), .ref (bm 14), .ref (bm 15), .ref (bm 16), .ref (bm 17), .int mi.2.2.2.2.1, .int mi.2.2.2.2.2.1, .int mi.2.2.2.2.2.2.1, .int mi.2.2.2.2.2.2.2.1, .ref (bm 18), .ref (bm 19), .ref (bm 20), .ref (bm 21), .int mi.2.2.2.2.2.2.2.2])), ((bm 10), .inl (cI, 2, .inl (upd e.1 1 ((e.1 1) + 1)))), ((bm 11), .inl (cI, 2, .inl (upd e.2.1 1 0))), ((bm 12), .inl (cI, 2, .inl (upd e.2.2.1 1 0))), ((bm 13), .inl (cI, 2, .inl e.2.2.2.1)), ((bm 14), .inl (cI, 2, .inl e.2.2.2.2.1)), ((bm 15), .inl (cZ, 2, .inl e.2.2.2.2.2.1)), ((bm 16), .inl (cI, 2, .inl e.2.2.2.2.2.2.1)), ((bm 17), .inl (cI, 2, .inl e.2.2.2.2.2.2.2))] H locs := hw
        refine lv_aload_n hx hb d_Md_reincarnate_65 rfl (lv_at hl 1 rfl) ?_
        refine kx_get S hw fg_Md_46 0 rfl rfl d_Md_reincarnate_66 ?_
        refine lv_iload_n hx hb d_Md_reincarnate_69 rfl (lv_at hl 2 rfl) ?_
        refine lv_iconst (v := (-1)) hx hb d_Md_reincarnate_70 (by decide) ?_
        refine kx_iast S hw 4 0 rfl rfl (j := 1) (by decide) (by unfold vp_in; decide) d_Md_reincarnate_71 (fun H locs hw => ?_)
        have hw : kx_w D (kx_T cI cZ cO) A_ s_ [((bm 0), .inr (6, [.int mi.1, .int mi.2.1, .int mi.2.2.1, .ref (bm 1), .ref (bm 2), .ref (bm 3), .ref (bm 4), .ref (bm 5), .ref (bm 6), .ref (bm 7), .ref (bm 8), .ref (bm 9), .int mi.2.2.2.1, .ref (bm 10), .ref (bm 11), .ref (bm 12), .ref (bm 13), .ref (bm 14), .ref (bm 15), .ref (bm 16), .ref (bm 17), .int mi.2.2.2.2.1, .int mi.2.2.2.2.2.1, .int mi.2.2.2.2.2.2.1, .int mi.2.2.2.2.2.2.2.1, .ref (bm 18), .ref (bm 19), .ref (bm 20), .ref (bm 21), .int mi.2.2.2.2.2.2.2.2])), ((bm 10), .inl (cI, 2, .inl (upd e.1 1 ((e.1 1) + 1)))), ((bm 11), .inl (cI, 2, .inl (upd e.2.1 1 0))), ((bm 12), .inl (cI, 2, .inl (upd e.2.2.1 1 0))), ((bm 13), .inl (cI, 2, .inl (upd e.2.2.2.1 1 (-1)))), ((bm 14), .inl (cI, 2, .inl e.2.2.2.2.1)), ((bm 15), .inl (cZ, 2, .inl e.2.2.2.2.2.1)), ((bm 16), .inl (cI, 2, .inl e.2.2.2.2.2.2.1)), ((bm 17), .inl (cI, 2, .inl e.2.2.2.2.2.2.2))] H locs := hw
        refine lv_aload_n hx hb d_Md_reincarnate_72 rfl (lv_at hl 1 rfl) ?_
        refine kx_get S hw fg_Md_52 0 rfl rfl d_Md_reincarnate_73 ?_
        refine lv_iload_n hx hb d_Md_reincarnate_76 rfl (lv_at hl 2 rfl) ?_
        refine lv_iconst (v := 0) hx hb d_Md_reincarnate_77 (by decide) ?_
        refine kx_zast S hw 6 1 rfl rfl (j := 1) (by decide) (by decide) (by unfold vp_in; decide) d_Md_reincarnate_78 (fun H locs hw => ?_)
        have hw : kx_w D (kx_T cI cZ cO) A_ s_ [((bm 0), .inr (6, [.int mi.1, .int mi.2.1, .int mi.2.2.1, .ref (bm 1), .ref (bm 2), .ref (bm 3), .ref (bm 4), .ref (bm 5), .ref (bm 6), .ref (bm 7), .ref (bm 8), .ref (bm 9), .int mi.2.2.2.1, .ref (bm 10), .ref (bm 11), .ref (bm 12), .ref (bm 13), .ref (bm 14), .ref (bm 15), .ref (bm 16), .ref (bm 17), .int mi.2.2.2.2.1, .int mi.2.2.2.2.2.1, .int mi.2.2.2.2.2.2.1, .int mi.2.2.2.2.2.2.2.1, .ref (bm 18), .ref (bm 19), .ref (bm 20), .ref (bm 21), .int mi.2.2.2.2.2.2.2.2])), ((bm 10), .inl (cI, 2, .inl (upd e.1 1 ((e.1 1) + 1)))), ((bm 11), .inl (cI, 2, .inl (upd e.2.1 1 0))), ((bm 12), .inl (cI, 2, .inl (upd e.2.2.1 1 0))), ((bm 13), .inl (cI, 2, .inl (upd e.2.2.2.1 1 (-1)))), ((bm 14), .inl (cI, 2, .inl e.2.2.2.2.1)), ((bm 15), .inl (cZ, 2, .inl (upd e.2.2.2.2.2.1 1 0))), ((bm 16), .inl (cI, 2, .inl e.2.2.2.2.2.2.1)), ((bm 17), .inl (cI, 2, .inl e.2.2.2.2.2.2.2))] H locs := hw
        refine lv_goto (tgt := 93) hx hb d_Md_reincarnate_79 (by decide) ?_
        exact kx_ret_v I rfl hw (upd e.1 1 ((e.1 1) + 1), upd e.2.1 1 0, upd e.2.2.1 1 0, upd e.2.2.2.1 1 (-1), e.2.2.2.2.1, upd e.2.2.2.2.2.1 1 0, e.2.2.2.2.2.2.1, e.2.2.2.2.2.2.2) (by simp only [f_Md_reincarnate_1, if_pos h1, if_neg h3, if_neg h4]) [0, 1, 2, 3, 4, 5, 6, 7, 8] (by decide) rfl d_Md_reincarnate_93
def f_Md_give_1 (mi : kt_I) (e : kt_E) : kt_E :=
  if (e.2.1 1) = 2 then (e.1, e.2.1, e.2.2.1, e.2.2.2.1, e.2.2.2.2.1, e.2.2.2.2.2.1, upd e.2.2.2.2.2.2.1 1 1, e.2.2.2.2.2.2.2)
  else (e.1, e.2.1, e.2.2.1, upd e.2.2.2.1 1 0, e.2.2.2.2.1, e.2.2.2.2.2.1, upd e.2.2.2.2.2.2.1 1 2, upd e.2.2.2.2.2.2.2 1 (e.1 1))
set_option maxHeartbeats 4000000 in
set_option maxRecDepth 100000 in
theorem c_Md_give_1 (l : Launch) (D : va_G) (cI cZ cO : ClassId) (bm : Nat → Nat) (mi : kt_I) (e : kt_E) : kx_Cv (S := kt_E) l y_Md_give b_Md_give 2 0 0 0 D (kx_T cI cZ cO) [.ref (bm 0), .int 1] [((bm 0), .inr (6, [.int mi.1, .int mi.2.1, .int mi.2.2.1, .ref (bm 1), .ref (bm 2), .ref (bm 3), .ref (bm 4), .ref (bm 5), .ref (bm 6), .ref (bm 7), .ref (bm 8), .ref (bm 9), .int mi.2.2.2.1, .ref (bm 10), .ref (bm 11), .ref (bm 12), .ref (bm 13), .ref (bm 14), .ref (bm 15), .ref (bm 16), .ref (bm 17), .int mi.2.2.2.2.1, .int mi.2.2.2.2.2.1, .int mi.2.2.2.2.2.2.1, .int mi.2.2.2.2.2.2.2.1, .ref (bm 18), .ref (bm 19), .ref (bm 20), .ref (bm 21), .int mi.2.2.2.2.2.2.2.2])), ((bm 10), .inl (cI, 2, .inl e.1)), ((bm 11), .inl (cI, 2, .inl e.2.1)), ((bm 12), .inl (cI, 2, .inl e.2.2.1)), ((bm 13), .inl (cI, 2, .inl e.2.2.2.1)), ((bm 14), .inl (cI, 2, .inl e.2.2.2.2.1)), ((bm 15), .inl (cZ, 2, .inl e.2.2.2.2.2.1)), ((bm 16), .inl (cI, 2, .inl e.2.2.2.2.2.2.1)), ((bm 17), .inl (cI, 2, .inl e.2.2.2.2.2.2.2))] (fun zz => zz = f_Md_give_1 mi e) (fun zz => [((bm 0), .inr (6, [.int mi.1, .int mi.2.1, .int mi.2.2.1, .ref (bm 1), .ref (bm 2), .ref (bm 3), .ref (bm 4), .ref (bm 5), .ref (bm 6), .ref (bm 7), .ref (bm 8), .ref (bm 9), .int mi.2.2.2.1, .ref (bm 10), .ref (bm 11), .ref (bm 12), .ref (bm 13), .ref (bm 14), .ref (bm 15), .ref (bm 16), .ref (bm 17), .int mi.2.2.2.2.1, .int mi.2.2.2.2.2.1, .int mi.2.2.2.2.2.2.1, .int mi.2.2.2.2.2.2.2.1, .ref (bm 18), .ref (bm 19), .ref (bm 20), .ref (bm 21), .int mi.2.2.2.2.2.2.2.2])), ((bm 10), .inl (cI, 2, .inl zz.1)), ((bm 11), .inl (cI, 2, .inl zz.2.1)), ((bm 12), .inl (cI, 2, .inl zz.2.2.1)), ((bm 13), .inl (cI, 2, .inl zz.2.2.2.1)), ((bm 14), .inl (cI, 2, .inl zz.2.2.2.2.1)), ((bm 15), .inl (cZ, 2, .inl zz.2.2.2.2.2.1)), ((bm 16), .inl (cI, 2, .inl zz.2.2.2.2.2.2.1)), ((bm 17), .inl (cI, 2, .inl zz.2.2.2.2.2.2.2))]) := by
  refine kx_enter_v (by decide) (Nat.le_of_ble_eq_true rfl) ?_
  intro p_ e_ s_ m_ below_ meth_ c_ ls A_ H I hl hw
  have S := I.1
  have hx := S.1
  have hb := S.2.1
  have hl : lv_has ls 2 [(0, .ref (bm 0)), (1, .int 1)] := hl
  refine lv_aload_n hx hb d_Md_give_0 rfl (lv_at hl 0 rfl) ?_
  refine kx_get S hw fg_Md_56 0 rfl rfl d_Md_give_1 ?_
  refine lv_iload_n hx hb d_Md_give_4 rfl (lv_at hl 1 rfl) ?_
  refine lv_aload_n hx hb d_Md_give_5 rfl (lv_at hl 0 rfl) ?_
  refine kx_get S hw fg_Md_40 0 rfl rfl d_Md_give_6 ?_
  refine lv_iload_n hx hb d_Md_give_9 rfl (lv_at hl 1 rfl) ?_
  refine kx_iald S hw 2 0 rfl rfl (j := 1) (by decide) (by unfold vp_in; decide) d_Md_give_10 ?_
  refine lv_iconst (v := 2) hx hb d_Md_give_11 (by decide) ?_
  refine lv_icmp_ne (tgt := 19) hx hb d_Md_give_12 (by decide) (fun h1 => ?_) (fun h1 => ?_)
  · refine lv_iconst (v := 2) hx hb d_Md_give_19 (by decide) ?_
    refine kx_iast S hw 7 0 rfl rfl (j := 1) (by decide) (by unfold vp_in; decide) d_Md_give_20 (fun H locs hw => ?_)
    have hw : kx_w D (kx_T cI cZ cO) A_ s_ [((bm 0), .inr (6, [.int mi.1, .int mi.2.1, .int mi.2.2.1, .ref (bm 1), .ref (bm 2), .ref (bm 3), .ref (bm 4), .ref (bm 5), .ref (bm 6), .ref (bm 7), .ref (bm 8), .ref (bm 9), .int mi.2.2.2.1, .ref (bm 10), .ref (bm 11), .ref (bm 12), .ref (bm 13), .ref (bm 14), .ref (bm 15), .ref (bm 16), .ref (bm 17), .int mi.2.2.2.2.1, .int mi.2.2.2.2.2.1, .int mi.2.2.2.2.2.2.1, .int mi.2.2.2.2.2.2.2.1, .ref (bm 18), .ref (bm 19), .ref (bm 20), .ref (bm 21), .int mi.2.2.2.2.2.2.2.2])), ((bm 10), .inl (cI, 2, .inl e.1)), ((bm 11), .inl (cI, 2, .inl e.2.1)), ((bm 12), .inl (cI, 2, .inl e.2.2.1)), ((bm 13), .inl (cI, 2, .inl e.2.2.2.1)), ((bm 14), .inl (cI, 2, .inl e.2.2.2.2.1)), ((bm 15), .inl (cZ, 2, .inl e.2.2.2.2.2.1)), ((bm 16), .inl (cI, 2, .inl (upd e.2.2.2.2.2.2.1 1 2))), ((bm 17), .inl (cI, 2, .inl e.2.2.2.2.2.2.2))] H locs := hw
    refine lv_aload_n hx hb d_Md_give_21 rfl (lv_at hl 0 rfl) ?_
    refine kx_get S hw fg_Md_40 0 rfl rfl d_Md_give_22 ?_
    refine lv_iload_n hx hb d_Md_give_25 rfl (lv_at hl 1 rfl) ?_
    refine kx_iald S hw 2 0 rfl rfl (j := 1) (by decide) (by unfold vp_in; decide) d_Md_give_26 ?_
    refine lv_iconst (v := 2) hx hb d_Md_give_27 (by decide) ?_
    refine lv_icmp_eq (tgt := 50) hx hb d_Md_give_28 (by decide) (fun h => absurd h h1) (fun _ => ?_)
    refine lv_aload_n hx hb d_Md_give_31 rfl (lv_at hl 0 rfl) ?_
    refine kx_get S hw fg_Md_59 0 rfl rfl d_Md_give_32 ?_
    refine lv_iload_n hx hb d_Md_give_35 rfl (lv_at hl 1 rfl) ?_
    refine lv_aload_n hx hb d_Md_give_36 rfl (lv_at hl 0 rfl) ?_
    refine kx_get S hw fg_Md_37 0 rfl rfl d_Md_give_37 ?_
    refine lv_iload_n hx hb d_Md_give_40 rfl (lv_at hl 1 rfl) ?_
    refine kx_iald S hw 1 0 rfl rfl (j := 1) (by decide) (by unfold vp_in; decide) d_Md_give_41 ?_
    refine kx_iast S hw 8 0 rfl rfl (j := 1) (by decide) (by unfold vp_in; decide) d_Md_give_42 (fun H locs hw => ?_)
    have hw : kx_w D (kx_T cI cZ cO) A_ s_ [((bm 0), .inr (6, [.int mi.1, .int mi.2.1, .int mi.2.2.1, .ref (bm 1), .ref (bm 2), .ref (bm 3), .ref (bm 4), .ref (bm 5), .ref (bm 6), .ref (bm 7), .ref (bm 8), .ref (bm 9), .int mi.2.2.2.1, .ref (bm 10), .ref (bm 11), .ref (bm 12), .ref (bm 13), .ref (bm 14), .ref (bm 15), .ref (bm 16), .ref (bm 17), .int mi.2.2.2.2.1, .int mi.2.2.2.2.2.1, .int mi.2.2.2.2.2.2.1, .int mi.2.2.2.2.2.2.2.1, .ref (bm 18), .ref (bm 19), .ref (bm 20), .ref (bm 21), .int mi.2.2.2.2.2.2.2.2])), ((bm 10), .inl (cI, 2, .inl e.1)), ((bm 11), .inl (cI, 2, .inl e.2.1)), ((bm 12), .inl (cI, 2, .inl e.2.2.1)), ((bm 13), .inl (cI, 2, .inl e.2.2.2.1)), ((bm 14), .inl (cI, 2, .inl e.2.2.2.2.1)), ((bm 15), .inl (cZ, 2, .inl e.2.2.2.2.2.1)), ((bm 16), .inl (cI, 2, .inl (upd e.2.2.2.2.2.2.1 1 2))), ((bm 17), .inl (cI, 2, .inl (upd e.2.2.2.2.2.2.2 1 (e.1 1))))] H locs := hw
    refine lv_aload_n hx hb d_Md_give_43 rfl (lv_at hl 0 rfl) ?_
    refine kx_get S hw fg_Md_46 0 rfl rfl d_Md_give_44 ?_
    refine lv_iload_n hx hb d_Md_give_47 rfl (lv_at hl 1 rfl) ?_
    refine lv_iconst (v := 0) hx hb d_Md_give_48 (by decide) ?_
    refine kx_iast S hw 4 0 rfl rfl (j := 1) (by decide) (by unfold vp_in; decide) d_Md_give_49 (fun H locs hw => ?_)
    have hw : kx_w D (kx_T cI cZ cO) A_ s_ [((bm 0), .inr (6, [.int mi.1, .int mi.2.1, .int mi.2.2.1, .ref (bm 1), .ref (bm 2), .ref (bm 3), .ref (bm 4), .ref (bm 5), .ref (bm 6), .ref (bm 7), .ref (bm 8), .ref (bm 9), .int mi.2.2.2.1, .ref (bm 10), .ref (bm 11), .ref (bm 12), .ref (bm 13), .ref (bm 14), .ref (bm 15), .ref (bm 16), .ref (bm 17), .int mi.2.2.2.2.1, .int mi.2.2.2.2.2.1, .int mi.2.2.2.2.2.2.1, .int mi.2.2.2.2.2.2.2.1, .ref (bm 18), .ref (bm 19), .ref (bm 20), .ref (bm 21), .int mi.2.2.2.2.2.2.2.2])), ((bm 10), .inl (cI, 2, .inl e.1)), ((bm 11), .inl (cI, 2, .inl e.2.1)), ((bm 12), .inl (cI, 2, .inl e.2.2.1)), ((bm 13), .inl (cI, 2, .inl (upd e.2.2.2.1 1 0))), ((bm 14), .inl (cI, 2, .inl e.2.2.2.2.1)), ((bm 15), .inl (cZ, 2, .inl e.2.2.2.2.2.1)), ((bm 16), .inl (cI, 2, .inl (upd e.2.2.2.2.2.2.1 1 2))), ((bm 17), .inl (cI, 2, .inl (upd e.2.2.2.2.2.2.2 1 (e.1 1))))] H locs := hw
    exact kx_ret_v I rfl hw (e.1, e.2.1, e.2.2.1, upd e.2.2.2.1 1 0, e.2.2.2.2.1, e.2.2.2.2.2.1, upd e.2.2.2.2.2.2.1 1 2, upd e.2.2.2.2.2.2.2 1 (e.1 1)) (by simp only [f_Md_give_1, if_neg h1]) [0, 1, 2, 3, 4, 5, 6, 7, 8] (by decide) rfl d_Md_give_50
  · refine lv_iconst (v := 1) hx hb d_Md_give_15 (by decide) ?_
    refine lv_goto (tgt := 20) hx hb d_Md_give_16 (by decide) ?_
    refine kx_iast S hw 7 0 rfl rfl (j := 1) (by decide) (by unfold vp_in; decide) d_Md_give_20 (fun H locs hw => ?_)
    have hw : kx_w D (kx_T cI cZ cO) A_ s_ [((bm 0), .inr (6, [.int mi.1, .int mi.2.1, .int mi.2.2.1, .ref (bm 1), .ref (bm 2), .ref (bm 3), .ref (bm 4), .ref (bm 5), .ref (bm 6), .ref (bm 7), .ref (bm 8), .ref (bm 9), .int mi.2.2.2.1, .ref (bm 10), .ref (bm 11), .ref (bm 12), .ref (bm 13), .ref (bm 14), .ref (bm 15), .ref (bm 16), .ref (bm 17), .int mi.2.2.2.2.1, .int mi.2.2.2.2.2.1, .int mi.2.2.2.2.2.2.1, .int mi.2.2.2.2.2.2.2.1, .ref (bm 18), .ref (bm 19), .ref (bm 20), .ref (bm 21), .int mi.2.2.2.2.2.2.2.2])), ((bm 10), .inl (cI, 2, .inl e.1)), ((bm 11), .inl (cI, 2, .inl e.2.1)), ((bm 12), .inl (cI, 2, .inl e.2.2.1)), ((bm 13), .inl (cI, 2, .inl e.2.2.2.1)), ((bm 14), .inl (cI, 2, .inl e.2.2.2.2.1)), ((bm 15), .inl (cZ, 2, .inl e.2.2.2.2.2.1)), ((bm 16), .inl (cI, 2, .inl (upd e.2.2.2.2.2.2.1 1 1))), ((bm 17), .inl (cI, 2, .inl e.2.2.2.2.2.2.2))] H locs := hw
    refine lv_aload_n hx hb d_Md_give_21 rfl (lv_at hl 0 rfl) ?_
    refine kx_get S hw fg_Md_40 0 rfl rfl d_Md_give_22 ?_
    refine lv_iload_n hx hb d_Md_give_25 rfl (lv_at hl 1 rfl) ?_
    refine kx_iald S hw 2 0 rfl rfl (j := 1) (by decide) (by unfold vp_in; decide) d_Md_give_26 ?_
    refine lv_iconst (v := 2) hx hb d_Md_give_27 (by decide) ?_
    refine lv_icmp_eq (tgt := 50) hx hb d_Md_give_28 (by decide) (fun _ => ?_) (fun h => absurd h1 h)
    exact kx_ret_v I rfl hw (e.1, e.2.1, e.2.2.1, e.2.2.2.1, e.2.2.2.2.1, e.2.2.2.2.2.1, upd e.2.2.2.2.2.2.1 1 1, e.2.2.2.2.2.2.2) (by simp only [f_Md_give_1, if_pos h1]) [0, 1, 2, 3, 4, 5, 6, 7, 8] (by decide) rfl d_Md_give_50
def f_Md_move (mi : kt_I) (y : kt_Ca) (dv : (Nat → Int32)) : kt_I × (Nat → Int32) :=
  if mi.2.2.2.2.2.1 = 0 then (mi, upd dv ((y.1 mi.2.2.2.2.1.toNatClampNeg).toNatClampNeg) (y.2.1 mi.2.2.2.2.1.toNatClampNeg))
  else ((mi.1, mi.2.1, mi.2.2.1, mi.2.2.2.1, mi.2.2.2.2.1, mi.2.2.2.2.2.1, mi.2.2.2.2.2.2.1, dv mi.2.2.2.2.2.2.1.toNatClampNeg, mi.2.2.2.2.2.2.2.2), dv)
set_option maxHeartbeats 4000000 in
set_option maxRecDepth 100000 in
theorem c_Md_move (l : Launch) (D : va_G) (cI cZ cO : ClassId) (bm : Nat → Nat) (mi : kt_I) (y : kt_Ca) (dv : (Nat → Int32)) (ha : ¬ mi.2.2.2.2.2.1 = 0 → vp_in mi.2.2.2.2.2.2.1 16) (hz : mi.2.2.2.2.2.1 = 0 → vp_in mi.2.2.2.2.1 3 ∧ vp_in (y.1 mi.2.2.2.2.1.toNatClampNeg) 16) : kx_Cv (S := kt_I × (Nat → Int32)) l y_Md_move b_Md_move 1 0 0 0 D (kx_T cI cZ cO) [.ref (bm 0)] [((bm 0), .inr (6, [.int mi.1, .int mi.2.1, .int mi.2.2.1, .ref (bm 1), .ref (bm 2), .ref (bm 3), .ref (bm 4), .ref (bm 5), .ref (bm 6), .ref (bm 7), .ref (bm 8), .ref (bm 9), .int mi.2.2.2.1, .ref (bm 10), .ref (bm 11), .ref (bm 12), .ref (bm 13), .ref (bm 14), .ref (bm 15), .ref (bm 16), .ref (bm 17), .int mi.2.2.2.2.1, .int mi.2.2.2.2.2.1, .int mi.2.2.2.2.2.2.1, .int mi.2.2.2.2.2.2.2.1, .ref (bm 18), .ref (bm 19), .ref (bm 20), .ref (bm 21), .int mi.2.2.2.2.2.2.2.2])), ((bm 18), .inl (cI, 3, .inl y.1)), ((bm 19), .inl (cI, 3, .inl y.2.1)), ((bm 20), .inl (cZ, 3, .inl y.2.2.1)), ((bm 21), .inl (cI, 3, .inl y.2.2.2)), ((bm 8), .inl (cI, 16, .inl dv))] (fun zz => zz = f_Md_move mi y dv) (fun zz => [((bm 0), .inr (6, [.int zz.1.1, .int zz.1.2.1, .int zz.1.2.2.1, .ref (bm 1), .ref (bm 2), .ref (bm 3), .ref (bm 4), .ref (bm 5), .ref (bm 6), .ref (bm 7), .ref (bm 8), .ref (bm 9), .int zz.1.2.2.2.1, .ref (bm 10), .ref (bm 11), .ref (bm 12), .ref (bm 13), .ref (bm 14), .ref (bm 15), .ref (bm 16), .ref (bm 17), .int zz.1.2.2.2.2.1, .int zz.1.2.2.2.2.2.1, .int zz.1.2.2.2.2.2.2.1, .int zz.1.2.2.2.2.2.2.2.1, .ref (bm 18), .ref (bm 19), .ref (bm 20), .ref (bm 21), .int zz.1.2.2.2.2.2.2.2.2])), ((bm 18), .inl (cI, 3, .inl y.1)), ((bm 19), .inl (cI, 3, .inl y.2.1)), ((bm 20), .inl (cZ, 3, .inl y.2.2.1)), ((bm 21), .inl (cI, 3, .inl y.2.2.2)), ((bm 8), .inl (cI, 16, .inl zz.2))]) := by
  refine kx_enter_v (by decide) (Nat.le_of_ble_eq_true rfl) ?_
  intro p_ e_ s_ m_ below_ meth_ c_ ls A_ H I hl hw
  have S := I.1
  have hx := S.1
  have hb := S.2.1
  have hl : lv_has ls 1 [(0, .ref (bm 0))] := hl
  refine lv_aload_n hx hb d_Md_move_0 rfl (lv_at hl 0 rfl) ?_
  refine kx_get S hw fg_Md_98 0 rfl rfl d_Md_move_1 ?_
  refine lv_if_eq (tgt := 23) hx hb d_Md_move_4 (by decide) (fun h1 => ?_) (fun h1 => ?_)
  · refine lv_aload_n hx hb d_Md_move_23 rfl (lv_at hl 0 rfl) ?_
    refine kx_get S hw fg_Md_31 0 rfl rfl d_Md_move_24 ?_
    refine lv_aload_n hx hb d_Md_move_27 rfl (lv_at hl 0 rfl) ?_
    refine kx_get S hw fg_Md_62 0 rfl rfl d_Md_move_28 ?_
    refine lv_aload_n hx hb d_Md_move_31 rfl (lv_at hl 0 rfl) ?_
    refine kx_get S hw fg_Md_108 0 rfl rfl d_Md_move_32 ?_
    refine kx_iald S hw 1 0 rfl rfl (j := mi.2.2.2.2.1.toNatClampNeg) rfl ((hz h1).1) d_Md_move_35 ?_
    refine lv_aload_n hx hb d_Md_move_36 rfl (lv_at hl 0 rfl) ?_
    refine kx_get S hw fg_Md_65 0 rfl rfl d_Md_move_37 ?_
    refine lv_aload_n hx hb d_Md_move_40 rfl (lv_at hl 0 rfl) ?_
    refine kx_get S hw fg_Md_108 0 rfl rfl d_Md_move_41 ?_
    refine kx_iald S hw 2 0 rfl rfl (j := mi.2.2.2.2.1.toNatClampNeg) rfl ((hz h1).1) d_Md_move_44 ?_
    refine kx_iast S hw 5 0 rfl rfl (j := (y.1 mi.2.2.2.2.1.toNatClampNeg).toNatClampNeg) rfl ((hz h1).2) d_Md_move_45 (fun H locs hw => ?_)
    have hw : kx_w D (kx_T cI cZ cO) A_ s_ [((bm 0), .inr (6, [.int mi.1, .int mi.2.1, .int mi.2.2.1, .ref (bm 1), .ref (bm 2), .ref (bm 3), .ref (bm 4), .ref (bm 5), .ref (bm 6), .ref (bm 7), .ref (bm 8), .ref (bm 9), .int mi.2.2.2.1, .ref (bm 10), .ref (bm 11), .ref (bm 12), .ref (bm 13), .ref (bm 14), .ref (bm 15), .ref (bm 16), .ref (bm 17), .int mi.2.2.2.2.1, .int mi.2.2.2.2.2.1, .int mi.2.2.2.2.2.2.1, .int mi.2.2.2.2.2.2.2.1, .ref (bm 18), .ref (bm 19), .ref (bm 20), .ref (bm 21), .int mi.2.2.2.2.2.2.2.2])), ((bm 18), .inl (cI, 3, .inl y.1)), ((bm 19), .inl (cI, 3, .inl y.2.1)), ((bm 20), .inl (cZ, 3, .inl y.2.2.1)), ((bm 21), .inl (cI, 3, .inl y.2.2.2)), ((bm 8), .inl (cI, 16, .inl (upd dv ((y.1 mi.2.2.2.2.1.toNatClampNeg).toNatClampNeg) (y.2.1 mi.2.2.2.2.1.toNatClampNeg))))] H locs := hw
    exact kx_ret_v I rfl hw (mi, upd dv ((y.1 mi.2.2.2.2.1.toNatClampNeg).toNatClampNeg) (y.2.1 mi.2.2.2.2.1.toNatClampNeg)) (by simp only [f_Md_move, if_pos h1]) [0, 1, 2, 3, 4, 5] (by decide) rfl d_Md_move_46
  · refine lv_aload_n hx hb d_Md_move_7 rfl (lv_at hl 0 rfl) ?_
    refine lv_aload_n hx hb d_Md_move_8 rfl (lv_at hl 0 rfl) ?_
    refine kx_get S hw fg_Md_31 0 rfl rfl d_Md_move_9 ?_
    refine lv_aload_n hx hb d_Md_move_12 rfl (lv_at hl 0 rfl) ?_
    refine kx_get S hw fg_Md_102 0 rfl rfl d_Md_move_13 ?_
    refine kx_iald S hw 5 0 rfl rfl (j := mi.2.2.2.2.2.2.1.toNatClampNeg) rfl (ha h1) d_Md_move_16 ?_
    refine kx_put S hw fp_Md_105 0 rfl rfl rfl (Nat.le_of_ble_eq_true rfl) d_Md_move_17 (fun H locs hw => ?_)
    have hw : kx_w D (kx_T cI cZ cO) A_ s_ [((bm 0), .inr (6, [.int mi.1, .int mi.2.1, .int mi.2.2.1, .ref (bm 1), .ref (bm 2), .ref (bm 3), .ref (bm 4), .ref (bm 5), .ref (bm 6), .ref (bm 7), .ref (bm 8), .ref (bm 9), .int mi.2.2.2.1, .ref (bm 10), .ref (bm 11), .ref (bm 12), .ref (bm 13), .ref (bm 14), .ref (bm 15), .ref (bm 16), .ref (bm 17), .int mi.2.2.2.2.1, .int mi.2.2.2.2.2.1, .int mi.2.2.2.2.2.2.1, .int (dv mi.2.2.2.2.2.2.1.toNatClampNeg), .ref (bm 18), .ref (bm 19), .ref (bm 20), .ref (bm 21), .int mi.2.2.2.2.2.2.2.2])), ((bm 18), .inl (cI, 3, .inl y.1)), ((bm 19), .inl (cI, 3, .inl y.2.1)), ((bm 20), .inl (cZ, 3, .inl y.2.2.1)), ((bm 21), .inl (cI, 3, .inl y.2.2.2)), ((bm 8), .inl (cI, 16, .inl dv))] H locs := hw
    refine lv_goto (tgt := 46) hx hb d_Md_move_20 (by decide) ?_
    exact kx_ret_v I rfl hw ((mi.1, mi.2.1, mi.2.2.1, mi.2.2.2.1, mi.2.2.2.2.1, mi.2.2.2.2.2.1, mi.2.2.2.2.2.2.1, dv mi.2.2.2.2.2.2.1.toNatClampNeg, mi.2.2.2.2.2.2.2.2), dv) (by simp only [f_Md_move, if_neg h1]) [0, 1, 2, 3, 4, 5] (by decide) rfl d_Md_move_46
def f_Md_show (mi : kt_I) (w : kt_W) (po : (Nat → Int32)) : kt_I × (Nat → Int32) :=
  if 200 ≤ mi.2.2.2.1 then (mi, po)
  else match f_Md_head mi w 1 with
  | r2 => ((mi.1, mi.2.1, mi.2.2.1, mi.2.2.2.1 + 1, mi.2.2.2.2.1, mi.2.2.2.2.2.1, mi.2.2.2.2.2.2.1, mi.2.2.2.2.2.2.2.1, mi.2.2.2.2.2.2.2.2), upd po mi.2.2.2.1.toNatClampNeg (w.2.2.1 r2.toNatClampNeg))
set_option maxHeartbeats 4000000 in
set_option maxRecDepth 100000 in
theorem c_Md_show (l : Launch) (D : va_G) (cI cZ cO : ClassId) (bm : Nat → Nat) (mi : kt_I) (w : kt_W) (po : (Nat → Int32)) (hp0 : 0 ≤ mi.2.2.2.1) (hh : vp_in (f_Md_head mi w 1) 4) : kx_Cv (S := kt_I × (Nat → Int32)) l y_Md_show b_Md_show 1 2 0 0 D (kx_T cI cZ cO) [.ref (bm 0)] [((bm 0), .inr (6, [.int mi.1, .int mi.2.1, .int mi.2.2.1, .ref (bm 1), .ref (bm 2), .ref (bm 3), .ref (bm 4), .ref (bm 5), .ref (bm 6), .ref (bm 7), .ref (bm 8), .ref (bm 9), .int mi.2.2.2.1, .ref (bm 10), .ref (bm 11), .ref (bm 12), .ref (bm 13), .ref (bm 14), .ref (bm 15), .ref (bm 16), .ref (bm 17), .int mi.2.2.2.2.1, .int mi.2.2.2.2.2.1, .int mi.2.2.2.2.2.2.1, .int mi.2.2.2.2.2.2.2.1, .ref (bm 18), .ref (bm 19), .ref (bm 20), .ref (bm 21), .int mi.2.2.2.2.2.2.2.2])), ((bm 1), .inl (cI, 4, .inl w.1)), ((bm 2), .inl (cI, 4, .inl w.2.1)), ((bm 3), .inl (cI, 4, .inl w.2.2.1)), ((bm 4), .inl (cI, 4, .inl w.2.2.2.1)), ((bm 5), .inl (cI, 4, .inl w.2.2.2.2.1)), ((bm 6), .inl (cI, 4, .inl w.2.2.2.2.2.1)), ((bm 7), .inl (cI, 4, .inl w.2.2.2.2.2.2)), ((bm 9), .inl (cI, 200, .inl po))] (fun zz => zz = f_Md_show mi w po) (fun zz => [((bm 0), .inr (6, [.int zz.1.1, .int zz.1.2.1, .int zz.1.2.2.1, .ref (bm 1), .ref (bm 2), .ref (bm 3), .ref (bm 4), .ref (bm 5), .ref (bm 6), .ref (bm 7), .ref (bm 8), .ref (bm 9), .int zz.1.2.2.2.1, .ref (bm 10), .ref (bm 11), .ref (bm 12), .ref (bm 13), .ref (bm 14), .ref (bm 15), .ref (bm 16), .ref (bm 17), .int zz.1.2.2.2.2.1, .int zz.1.2.2.2.2.2.1, .int zz.1.2.2.2.2.2.2.1, .int zz.1.2.2.2.2.2.2.2.1, .ref (bm 18), .ref (bm 19), .ref (bm 20), .ref (bm 21), .int zz.1.2.2.2.2.2.2.2.2])), ((bm 1), .inl (cI, 4, .inl w.1)), ((bm 2), .inl (cI, 4, .inl w.2.1)), ((bm 3), .inl (cI, 4, .inl w.2.2.1)), ((bm 4), .inl (cI, 4, .inl w.2.2.2.1)), ((bm 5), .inl (cI, 4, .inl w.2.2.2.2.1)), ((bm 6), .inl (cI, 4, .inl w.2.2.2.2.2.1)), ((bm 7), .inl (cI, 4, .inl w.2.2.2.2.2.2)), ((bm 9), .inl (cI, 200, .inl zz.2))]) := by
  refine kx_enter_v (by decide) (Nat.le_of_ble_eq_true rfl) ?_
  intro p_ e_ s_ m_ below_ meth_ c_ ls A_ H I hl hw
  have S := I.1
  have hx := S.1
  have hb := S.2.1
  have hl : lv_has ls 1 [(0, .ref (bm 0))] := hl
  refine lv_aload_n hx hb d_Md_show_0 rfl (lv_at hl 0 rfl) ?_
  refine kx_get S hw fg_Md_111 0 rfl rfl d_Md_show_1 ?_
  refine lv_sipush (v := 200) hx hb d_Md_show_4 (by decide) ?_
  refine lv_icmp_ge (tgt := 39) hx hb d_Md_show_7 (by decide) (fun h1 => ?_) (fun h1 => ?_)
  · exact kx_ret_v I rfl hw (mi, po) (by simp only [f_Md_show, if_pos h1]) [0, 1, 2, 3, 4, 5, 6, 7, 8] (by decide) rfl d_Md_show_39
  · refine lv_aload_n hx hb d_Md_show_10 rfl (lv_at hl 0 rfl) ?_
    refine kx_get S hw fg_Md_34 0 rfl rfl d_Md_show_11 ?_
    refine lv_aload_n hx hb d_Md_show_14 rfl (lv_at hl 0 rfl) ?_
    refine kx_get S hw fg_Md_111 0 rfl rfl d_Md_show_15 ?_
    refine lv_aload_n hx hb d_Md_show_18 rfl (lv_at hl 0 rfl) ?_
    refine kx_get S hw fg_Md_16 0 rfl rfl d_Md_show_19 ?_
    refine lv_aload_n hx hb d_Md_show_22 rfl (lv_at hl 0 rfl) ?_
    refine lv_iconst (v := 1) hx hb d_Md_show_23 (by decide) ?_
    refine kx_call_i (wc := [((bm 0), .inr (6, [.int mi.1, .int mi.2.1, .int mi.2.2.1, .ref (bm 1), .ref (bm 2), .ref (bm 3), .ref (bm 4), .ref (bm 5), .ref (bm 6), .ref (bm 7), .ref (bm 8), .ref (bm 9), .int mi.2.2.2.1, .ref (bm 10), .ref (bm 11), .ref (bm 12), .ref (bm 13), .ref (bm 14), .ref (bm 15), .ref (bm 16), .ref (bm 17), .int mi.2.2.2.2.1, .int mi.2.2.2.2.2.1, .int mi.2.2.2.2.2.2.1, .int mi.2.2.2.2.2.2.2.1, .ref (bm 18), .ref (bm 19), .ref (bm 20), .ref (bm 21), .int mi.2.2.2.2.2.2.2.2])), ((bm 1), .inl (cI, 4, .inl w.1)), ((bm 2), .inl (cI, 4, .inl w.2.1)), ((bm 3), .inl (cI, 4, .inl w.2.2.1)), ((bm 4), .inl (cI, 4, .inl w.2.2.2.1)), ((bm 5), .inl (cI, 4, .inl w.2.2.2.2.1)), ((bm 6), .inl (cI, 4, .inl w.2.2.2.2.2.1)), ((bm 7), .inl (cI, 4, .inl w.2.2.2.2.2.2))]) (wr := [((bm 9), .inl (cI, 200, .inl po))]) (rest := [.ref (bm 3), .int mi.2.2.2.1, .ref (bm 9)]) hw [0, 1, 2, 3, 4, 5, 6, 7] [8] rfl rfl (by decide) (by decide) (kx_runV S hw fc_Md_114 rfl 0 rfl [0, 1, 2, 3, 4, 5, 6, 7] (by decide) rfl (c_Md_head l D cI cZ cO bm mi w 1 H.size) rfl hl.1 rfl (Nat.le_of_ble_eq_true rfl) d_Md_show_24 (by decide) (by decide)) (fun r2 u2 H locs hp2 hw => ?_)
    have hw : kx_w D (kx_T cI cZ cO) A_ s_ [((bm 9), .inl (cI, 200, .inl po)), ((bm 0), .inr (6, [.int mi.1, .int mi.2.1, .int mi.2.2.1, .ref (bm 1), .ref (bm 2), .ref (bm 3), .ref (bm 4), .ref (bm 5), .ref (bm 6), .ref (bm 7), .ref (bm 8), .ref (bm 9), .int mi.2.2.2.1, .ref (bm 10), .ref (bm 11), .ref (bm 12), .ref (bm 13), .ref (bm 14), .ref (bm 15), .ref (bm 16), .ref (bm 17), .int mi.2.2.2.2.1, .int mi.2.2.2.2.2.1, .int mi.2.2.2.2.2.2.1, .int mi.2.2.2.2.2.2.2.1, .ref (bm 18), .ref (bm 19), .ref (bm 20), .ref (bm 21), .int mi.2.2.2.2.2.2.2.2])), ((bm 1), .inl (cI, 4, .inl w.1)), ((bm 2), .inl (cI, 4, .inl w.2.1)), ((bm 3), .inl (cI, 4, .inl w.2.2.1)), ((bm 4), .inl (cI, 4, .inl w.2.2.2.1)), ((bm 5), .inl (cI, 4, .inl w.2.2.2.2.1)), ((bm 6), .inl (cI, 4, .inl w.2.2.2.2.2.1)), ((bm 7), .inl (cI, 4, .inl w.2.2.2.2.2.2))] H locs := hw
    refine kx_iald S hw 4 0 rfl rfl (j := r2.toNatClampNeg) rfl (by rw [hp2]; exact hh) d_Md_show_27 ?_
    refine kx_iast S hw 0 0 rfl rfl (j := mi.2.2.2.1.toNatClampNeg) rfl (kx_i3 (N := 200) rfl hp0 h1) d_Md_show_28 (fun H locs hw => ?_)
    have hw : kx_w D (kx_T cI cZ cO) A_ s_ [((bm 9), .inl (cI, 200, .inl (upd po mi.2.2.2.1.toNatClampNeg (w.2.2.1 r2.toNatClampNeg)))), ((bm 0), .inr (6, [.int mi.1, .int mi.2.1, .int mi.2.2.1, .ref (bm 1), .ref (bm 2), .ref (bm 3), .ref (bm 4), .ref (bm 5), .ref (bm 6), .ref (bm 7), .ref (bm 8), .ref (bm 9), .int mi.2.2.2.1, .ref (bm 10), .ref (bm 11), .ref (bm 12), .ref (bm 13), .ref (bm 14), .ref (bm 15), .ref (bm 16), .ref (bm 17), .int mi.2.2.2.2.1, .int mi.2.2.2.2.2.1, .int mi.2.2.2.2.2.2.1, .int mi.2.2.2.2.2.2.2.1, .ref (bm 18), .ref (bm 19), .ref (bm 20), .ref (bm 21), .int mi.2.2.2.2.2.2.2.2])), ((bm 1), .inl (cI, 4, .inl w.1)), ((bm 2), .inl (cI, 4, .inl w.2.1)), ((bm 3), .inl (cI, 4, .inl w.2.2.1)), ((bm 4), .inl (cI, 4, .inl w.2.2.2.1)), ((bm 5), .inl (cI, 4, .inl w.2.2.2.2.1)), ((bm 6), .inl (cI, 4, .inl w.2.2.2.2.2.1)), ((bm 7), .inl (cI, 4, .inl w.2.2.2.2.2.2))] H locs := hw
    refine lv_aload_n hx hb d_Md_show_29 rfl (lv_at hl 0 rfl) ?_
    refine lv_dup hx hb d_Md_show_30 rfl ?_
    refine kx_get S hw fg_Md_111 1 rfl rfl d_Md_show_31 ?_
    refine lv_iconst (v := 1) hx hb d_Md_show_34 (by decide) ?_
    refine lv_iadd hx hb d_Md_show_35 ?_
    refine kx_put S hw fp_Md_111 1 rfl rfl rfl (Nat.le_of_ble_eq_true rfl) d_Md_show_36 (fun H locs hw => ?_)
    have hw : kx_w D (kx_T cI cZ cO) A_ s_ [((bm 9), .inl (cI, 200, .inl (upd po mi.2.2.2.1.toNatClampNeg (w.2.2.1 r2.toNatClampNeg)))), ((bm 0), .inr (6, [.int mi.1, .int mi.2.1, .int mi.2.2.1, .ref (bm 1), .ref (bm 2), .ref (bm 3), .ref (bm 4), .ref (bm 5), .ref (bm 6), .ref (bm 7), .ref (bm 8), .ref (bm 9), .int (mi.2.2.2.1 + 1), .ref (bm 10), .ref (bm 11), .ref (bm 12), .ref (bm 13), .ref (bm 14), .ref (bm 15), .ref (bm 16), .ref (bm 17), .int mi.2.2.2.2.1, .int mi.2.2.2.2.2.1, .int mi.2.2.2.2.2.2.1, .int mi.2.2.2.2.2.2.2.1, .ref (bm 18), .ref (bm 19), .ref (bm 20), .ref (bm 21), .int mi.2.2.2.2.2.2.2.2])), ((bm 1), .inl (cI, 4, .inl w.1)), ((bm 2), .inl (cI, 4, .inl w.2.1)), ((bm 3), .inl (cI, 4, .inl w.2.2.1)), ((bm 4), .inl (cI, 4, .inl w.2.2.2.1)), ((bm 5), .inl (cI, 4, .inl w.2.2.2.2.1)), ((bm 6), .inl (cI, 4, .inl w.2.2.2.2.2.1)), ((bm 7), .inl (cI, 4, .inl w.2.2.2.2.2.2))] H locs := hw
    exact kx_ret_v I rfl hw ((mi.1, mi.2.1, mi.2.2.1, mi.2.2.2.1 + 1, mi.2.2.2.2.1, mi.2.2.2.2.2.1, mi.2.2.2.2.2.2.1, mi.2.2.2.2.2.2.2.1, mi.2.2.2.2.2.2.2.2), upd po mi.2.2.2.1.toNatClampNeg (w.2.2.1 r2.toNatClampNeg)) (by simp only [f_Md_show, if_neg h1, ← hp2]) [1, 2, 3, 4, 5, 6, 7, 8, 0] (by decide) rfl d_Md_show_39
def f_Md_demand (mi : kt_I) (e : kt_E) (s : Int32) (z : Int32) (b : Int32) : kt_I × kt_E :=
  match f_Md_give_0 (mi.1, mi.2.1, mi.2.2.1, mi.2.2.2.1, s, z, b, mi.2.2.2.2.2.2.2.1, mi.2.2.2.2.2.2.2.2) e with
  | e1 => ((mi.1, mi.2.1, mi.2.2.1, mi.2.2.2.1, s, z, b, mi.2.2.2.2.2.2.2.1, mi.2.2.2.2.2.2.2.2), e1)
set_option maxHeartbeats 4000000 in
set_option maxRecDepth 100000 in
theorem c_Md_demand (l : Launch) (D : va_G) (cI cZ cO : ClassId) (bm : Nat → Nat) (mi : kt_I) (e : kt_E) (s : Int32) (z : Int32) (b : Int32) (bz : kx_b z) : kx_Cv (S := kt_I × kt_E) l y_Md_demand b_Md_demand 4 1 0 0 D (kx_T cI cZ cO) [.ref (bm 0), .int s, .int z, .int b] [((bm 0), .inr (6, [.int mi.1, .int mi.2.1, .int mi.2.2.1, .ref (bm 1), .ref (bm 2), .ref (bm 3), .ref (bm 4), .ref (bm 5), .ref (bm 6), .ref (bm 7), .ref (bm 8), .ref (bm 9), .int mi.2.2.2.1, .ref (bm 10), .ref (bm 11), .ref (bm 12), .ref (bm 13), .ref (bm 14), .ref (bm 15), .ref (bm 16), .ref (bm 17), .int mi.2.2.2.2.1, .int mi.2.2.2.2.2.1, .int mi.2.2.2.2.2.2.1, .int mi.2.2.2.2.2.2.2.1, .ref (bm 18), .ref (bm 19), .ref (bm 20), .ref (bm 21), .int mi.2.2.2.2.2.2.2.2])), ((bm 10), .inl (cI, 2, .inl e.1)), ((bm 11), .inl (cI, 2, .inl e.2.1)), ((bm 12), .inl (cI, 2, .inl e.2.2.1)), ((bm 13), .inl (cI, 2, .inl e.2.2.2.1)), ((bm 14), .inl (cI, 2, .inl e.2.2.2.2.1)), ((bm 15), .inl (cZ, 2, .inl e.2.2.2.2.2.1)), ((bm 16), .inl (cI, 2, .inl e.2.2.2.2.2.2.1)), ((bm 17), .inl (cI, 2, .inl e.2.2.2.2.2.2.2))] (fun zz => zz = f_Md_demand mi e s z b) (fun zz => [((bm 0), .inr (6, [.int zz.1.1, .int zz.1.2.1, .int zz.1.2.2.1, .ref (bm 1), .ref (bm 2), .ref (bm 3), .ref (bm 4), .ref (bm 5), .ref (bm 6), .ref (bm 7), .ref (bm 8), .ref (bm 9), .int zz.1.2.2.2.1, .ref (bm 10), .ref (bm 11), .ref (bm 12), .ref (bm 13), .ref (bm 14), .ref (bm 15), .ref (bm 16), .ref (bm 17), .int zz.1.2.2.2.2.1, .int zz.1.2.2.2.2.2.1, .int zz.1.2.2.2.2.2.2.1, .int zz.1.2.2.2.2.2.2.2.1, .ref (bm 18), .ref (bm 19), .ref (bm 20), .ref (bm 21), .int zz.1.2.2.2.2.2.2.2.2])), ((bm 10), .inl (cI, 2, .inl zz.2.1)), ((bm 11), .inl (cI, 2, .inl zz.2.2.1)), ((bm 12), .inl (cI, 2, .inl zz.2.2.2.1)), ((bm 13), .inl (cI, 2, .inl zz.2.2.2.2.1)), ((bm 14), .inl (cI, 2, .inl zz.2.2.2.2.2.1)), ((bm 15), .inl (cZ, 2, .inl zz.2.2.2.2.2.2.1)), ((bm 16), .inl (cI, 2, .inl zz.2.2.2.2.2.2.2.1)), ((bm 17), .inl (cI, 2, .inl zz.2.2.2.2.2.2.2.2))]) := by
  refine kx_enter_v (by decide) (Nat.le_of_ble_eq_true rfl) ?_
  intro p_ e_ s_ m_ below_ meth_ c_ ls A_ H I hl hw
  have S := I.1
  have hx := S.1
  have hb := S.2.1
  have hl : lv_has ls 4 [(0, .ref (bm 0)), (1, .int s), (2, .int z), (3, .int b)] := hl
  refine lv_aload_n hx hb d_Md_demand_0 rfl (lv_at hl 0 rfl) ?_
  refine lv_iload_n hx hb d_Md_demand_1 rfl (lv_at hl 1 rfl) ?_
  refine kx_put S hw fp_Md_108 0 rfl rfl rfl (Nat.le_of_ble_eq_true rfl) d_Md_demand_2 (fun H locs hw => ?_)
  have hw : kx_w D (kx_T cI cZ cO) A_ s_ [((bm 0), .inr (6, [.int mi.1, .int mi.2.1, .int mi.2.2.1, .ref (bm 1), .ref (bm 2), .ref (bm 3), .ref (bm 4), .ref (bm 5), .ref (bm 6), .ref (bm 7), .ref (bm 8), .ref (bm 9), .int mi.2.2.2.1, .ref (bm 10), .ref (bm 11), .ref (bm 12), .ref (bm 13), .ref (bm 14), .ref (bm 15), .ref (bm 16), .ref (bm 17), .int s, .int mi.2.2.2.2.2.1, .int mi.2.2.2.2.2.2.1, .int mi.2.2.2.2.2.2.2.1, .ref (bm 18), .ref (bm 19), .ref (bm 20), .ref (bm 21), .int mi.2.2.2.2.2.2.2.2])), ((bm 10), .inl (cI, 2, .inl e.1)), ((bm 11), .inl (cI, 2, .inl e.2.1)), ((bm 12), .inl (cI, 2, .inl e.2.2.1)), ((bm 13), .inl (cI, 2, .inl e.2.2.2.1)), ((bm 14), .inl (cI, 2, .inl e.2.2.2.2.1)), ((bm 15), .inl (cZ, 2, .inl e.2.2.2.2.2.1)), ((bm 16), .inl (cI, 2, .inl e.2.2.2.2.2.2.1)), ((bm 17), .inl (cI, 2, .inl e.2.2.2.2.2.2.2))] H locs := hw
  refine lv_aload_n hx hb d_Md_demand_5 rfl (lv_at hl 0 rfl) ?_
  refine lv_iload_n hx hb d_Md_demand_6 rfl (lv_at hl 2 rfl) ?_
  refine kx_put S hw fp_Md_98 0 rfl bz.nar bz.fit (Nat.le_of_ble_eq_true rfl) d_Md_demand_7 (fun H locs hw => ?_)
  have hw : kx_w D (kx_T cI cZ cO) A_ s_ [((bm 0), .inr (6, [.int mi.1, .int mi.2.1, .int mi.2.2.1, .ref (bm 1), .ref (bm 2), .ref (bm 3), .ref (bm 4), .ref (bm 5), .ref (bm 6), .ref (bm 7), .ref (bm 8), .ref (bm 9), .int mi.2.2.2.1, .ref (bm 10), .ref (bm 11), .ref (bm 12), .ref (bm 13), .ref (bm 14), .ref (bm 15), .ref (bm 16), .ref (bm 17), .int s, .int z, .int mi.2.2.2.2.2.2.1, .int mi.2.2.2.2.2.2.2.1, .ref (bm 18), .ref (bm 19), .ref (bm 20), .ref (bm 21), .int mi.2.2.2.2.2.2.2.2])), ((bm 10), .inl (cI, 2, .inl e.1)), ((bm 11), .inl (cI, 2, .inl e.2.1)), ((bm 12), .inl (cI, 2, .inl e.2.2.1)), ((bm 13), .inl (cI, 2, .inl e.2.2.2.1)), ((bm 14), .inl (cI, 2, .inl e.2.2.2.2.1)), ((bm 15), .inl (cZ, 2, .inl e.2.2.2.2.2.1)), ((bm 16), .inl (cI, 2, .inl e.2.2.2.2.2.2.1)), ((bm 17), .inl (cI, 2, .inl e.2.2.2.2.2.2.2))] H locs := hw
  refine lv_aload_n hx hb d_Md_demand_10 rfl (lv_at hl 0 rfl) ?_
  refine lv_iload_n hx hb d_Md_demand_11 rfl (lv_at hl 3 rfl) ?_
  refine kx_put S hw fp_Md_102 0 rfl rfl rfl (Nat.le_of_ble_eq_true rfl) d_Md_demand_12 (fun H locs hw => ?_)
  have hw : kx_w D (kx_T cI cZ cO) A_ s_ [((bm 0), .inr (6, [.int mi.1, .int mi.2.1, .int mi.2.2.1, .ref (bm 1), .ref (bm 2), .ref (bm 3), .ref (bm 4), .ref (bm 5), .ref (bm 6), .ref (bm 7), .ref (bm 8), .ref (bm 9), .int mi.2.2.2.1, .ref (bm 10), .ref (bm 11), .ref (bm 12), .ref (bm 13), .ref (bm 14), .ref (bm 15), .ref (bm 16), .ref (bm 17), .int s, .int z, .int b, .int mi.2.2.2.2.2.2.2.1, .ref (bm 18), .ref (bm 19), .ref (bm 20), .ref (bm 21), .int mi.2.2.2.2.2.2.2.2])), ((bm 10), .inl (cI, 2, .inl e.1)), ((bm 11), .inl (cI, 2, .inl e.2.1)), ((bm 12), .inl (cI, 2, .inl e.2.2.1)), ((bm 13), .inl (cI, 2, .inl e.2.2.2.1)), ((bm 14), .inl (cI, 2, .inl e.2.2.2.2.1)), ((bm 15), .inl (cZ, 2, .inl e.2.2.2.2.2.1)), ((bm 16), .inl (cI, 2, .inl e.2.2.2.2.2.2.1)), ((bm 17), .inl (cI, 2, .inl e.2.2.2.2.2.2.2))] H locs := hw
  refine lv_aload_n hx hb d_Md_demand_15 rfl (lv_at hl 0 rfl) ?_
  refine lv_iconst (v := 0) hx hb d_Md_demand_16 (by decide) ?_
  refine kx_call_v (wc := [((bm 0), .inr (6, [.int mi.1, .int mi.2.1, .int mi.2.2.1, .ref (bm 1), .ref (bm 2), .ref (bm 3), .ref (bm 4), .ref (bm 5), .ref (bm 6), .ref (bm 7), .ref (bm 8), .ref (bm 9), .int mi.2.2.2.1, .ref (bm 10), .ref (bm 11), .ref (bm 12), .ref (bm 13), .ref (bm 14), .ref (bm 15), .ref (bm 16), .ref (bm 17), .int s, .int z, .int b, .int mi.2.2.2.2.2.2.2.1, .ref (bm 18), .ref (bm 19), .ref (bm 20), .ref (bm 21), .int mi.2.2.2.2.2.2.2.2])), ((bm 10), .inl (cI, 2, .inl e.1)), ((bm 11), .inl (cI, 2, .inl e.2.1)), ((bm 12), .inl (cI, 2, .inl e.2.2.1)), ((bm 13), .inl (cI, 2, .inl e.2.2.2.1)), ((bm 14), .inl (cI, 2, .inl e.2.2.2.2.1)), ((bm 15), .inl (cZ, 2, .inl e.2.2.2.2.2.1)), ((bm 16), .inl (cI, 2, .inl e.2.2.2.2.2.2.1)), ((bm 17), .inl (cI, 2, .inl e.2.2.2.2.2.2.2))]) (wr := []) (rest := []) hw [0, 1, 2, 3, 4, 5, 6, 7, 8] [] rfl rfl (by decide) (by decide) (kx_runV S hw fc_Md_118 rfl 0 rfl [0, 1, 2, 3, 4, 5, 6, 7, 8] (by decide) rfl (c_Md_give_0 l D cI cZ cO bm (mi.1, mi.2.1, mi.2.2.1, mi.2.2.2.1, s, z, b, mi.2.2.2.2.2.2.2.1, mi.2.2.2.2.2.2.2.2) e H.size) rfl hl.1 rfl (Nat.le_of_ble_eq_true rfl) d_Md_demand_17 (by decide) (by decide)) (fun u1 H locs hp1 hw => ?_)
  obtain ⟨e1, rfl⟩ : ∃ z, z = u1 := ⟨_, rfl⟩
  have hw : kx_w D (kx_T cI cZ cO) A_ s_ [((bm 0), .inr (6, [.int mi.1, .int mi.2.1, .int mi.2.2.1, .ref (bm 1), .ref (bm 2), .ref (bm 3), .ref (bm 4), .ref (bm 5), .ref (bm 6), .ref (bm 7), .ref (bm 8), .ref (bm 9), .int mi.2.2.2.1, .ref (bm 10), .ref (bm 11), .ref (bm 12), .ref (bm 13), .ref (bm 14), .ref (bm 15), .ref (bm 16), .ref (bm 17), .int s, .int z, .int b, .int mi.2.2.2.2.2.2.2.1, .ref (bm 18), .ref (bm 19), .ref (bm 20), .ref (bm 21), .int mi.2.2.2.2.2.2.2.2])), ((bm 10), .inl (cI, 2, .inl e1.1)), ((bm 11), .inl (cI, 2, .inl e1.2.1)), ((bm 12), .inl (cI, 2, .inl e1.2.2.1)), ((bm 13), .inl (cI, 2, .inl e1.2.2.2.1)), ((bm 14), .inl (cI, 2, .inl e1.2.2.2.2.1)), ((bm 15), .inl (cZ, 2, .inl e1.2.2.2.2.2.1)), ((bm 16), .inl (cI, 2, .inl e1.2.2.2.2.2.2.1)), ((bm 17), .inl (cI, 2, .inl e1.2.2.2.2.2.2.2))] H locs := hw
  exact kx_ret_v I rfl hw ((mi.1, mi.2.1, mi.2.2.1, mi.2.2.2.1, s, z, b, mi.2.2.2.2.2.2.2.1, mi.2.2.2.2.2.2.2.2), e1) (by simp only [f_Md_demand, ← hp1]) [0, 1, 2, 3, 4, 5, 6, 7, 8] (by decide) rfl d_Md_demand_20
def f_Md_slotWith (mi : kt_I) (y : kt_Ca) (b : Int32) : Int32 :=
  if (y.1 0) = b then (if (y.1 1) = b then (if (y.1 2) = b then 2
      else 1)
    else if (y.1 2) = b then 2
    else 0)
  else if (y.1 1) = b then (if (y.1 2) = b then 2
    else 1)
  else if (y.1 2) = b then 2
  else (-1)
set_option maxHeartbeats 4000000 in
set_option maxRecDepth 100000 in
theorem c_Md_slotWith (l : Launch) (D : va_G) (cI cZ cO : ClassId) (bm : Nat → Nat) (mi : kt_I) (y : kt_Ca) (b : Int32) : kx_Ci (S := Unit) l y_Md_slotWith b_Md_slotWith 4 (some .int) 0 0 0 D (kx_T cI cZ cO) [.ref (bm 0), .int b] [((bm 0), .inr (6, [.int mi.1, .int mi.2.1, .int mi.2.2.1, .ref (bm 1), .ref (bm 2), .ref (bm 3), .ref (bm 4), .ref (bm 5), .ref (bm 6), .ref (bm 7), .ref (bm 8), .ref (bm 9), .int mi.2.2.2.1, .ref (bm 10), .ref (bm 11), .ref (bm 12), .ref (bm 13), .ref (bm 14), .ref (bm 15), .ref (bm 16), .ref (bm 17), .int mi.2.2.2.2.1, .int mi.2.2.2.2.2.1, .int mi.2.2.2.2.2.2.1, .int mi.2.2.2.2.2.2.2.1, .ref (bm 18), .ref (bm 19), .ref (bm 20), .ref (bm 21), .int mi.2.2.2.2.2.2.2.2])), ((bm 18), .inl (cI, 3, .inl y.1)), ((bm 19), .inl (cI, 3, .inl y.2.1)), ((bm 20), .inl (cZ, 3, .inl y.2.2.1)), ((bm 21), .inl (cI, 3, .inl y.2.2.2))] (fun rr _ => rr = f_Md_slotWith mi y b) (fun _ => [((bm 0), .inr (6, [.int mi.1, .int mi.2.1, .int mi.2.2.1, .ref (bm 1), .ref (bm 2), .ref (bm 3), .ref (bm 4), .ref (bm 5), .ref (bm 6), .ref (bm 7), .ref (bm 8), .ref (bm 9), .int mi.2.2.2.1, .ref (bm 10), .ref (bm 11), .ref (bm 12), .ref (bm 13), .ref (bm 14), .ref (bm 15), .ref (bm 16), .ref (bm 17), .int mi.2.2.2.2.1, .int mi.2.2.2.2.2.1, .int mi.2.2.2.2.2.2.1, .int mi.2.2.2.2.2.2.2.1, .ref (bm 18), .ref (bm 19), .ref (bm 20), .ref (bm 21), .int mi.2.2.2.2.2.2.2.2])), ((bm 18), .inl (cI, 3, .inl y.1)), ((bm 19), .inl (cI, 3, .inl y.2.1)), ((bm 20), .inl (cZ, 3, .inl y.2.2.1)), ((bm 21), .inl (cI, 3, .inl y.2.2.2))]) := by
  refine kx_enter_i (by decide) (Nat.le_of_ble_eq_true rfl) ?_
  intro p_ e_ s_ m_ below_ meth_ c_ ls A_ H I hl hw
  have S := I.1
  have hx := S.1
  have hb := S.2.1
  have hl : lv_has ls 4 [(0, .ref (bm 0)), (1, .int b)] := hl
  refine lv_iconst (v := (-1)) hx hb d_Md_slotWith_0 (by decide) ?_
  refine lv_istore_n (lv' := [(2, .int (-1)), (0, .ref (bm 0)), (1, .int b)]) hx hb d_Md_slotWith_1 rfl hl (by decide) rfl (fun ls hl => ?_)
  refine lv_iconst (v := 0) hx hb d_Md_slotWith_2 (by decide) ?_
  refine lv_istore_n (lv' := [(3, .int 0), (2, .int (-1)), (0, .ref (bm 0)), (1, .int b)]) hx hb d_Md_slotWith_3 rfl hl (by decide) rfl (fun ls hl => ?_)
  refine lv_iload_n hx hb d_Md_slotWith_4 rfl (lv_at hl 0 rfl) ?_
  refine lv_iconst (v := 3) hx hb d_Md_slotWith_5 (by decide) ?_
  refine lv_icmp_ge (tgt := 31) hx hb d_Md_slotWith_6 (by decide) (fun h => absurd h (by decide)) (fun _ => ?_)
  refine lv_aload_n hx hb d_Md_slotWith_9 rfl (lv_at hl 2 rfl) ?_
  refine kx_get S hw fg_Md_62 0 rfl rfl d_Md_slotWith_10 ?_
  refine lv_iload_n hx hb d_Md_slotWith_13 rfl (lv_at hl 0 rfl) ?_
  refine kx_iald S hw 1 0 rfl rfl (j := 0) (by decide) (by unfold vp_in; decide) d_Md_slotWith_14 ?_
  refine lv_iload_n hx hb d_Md_slotWith_15 rfl (lv_at hl 3 rfl) ?_
  refine lv_icmp_ne (tgt := 23) hx hb d_Md_slotWith_16 (by decide) (fun h1 => ?_) (fun h1 => ?_)
  · refine lv_iload_n hx hb d_Md_slotWith_23 rfl (lv_at hl 1 rfl) ?_
    refine lv_istore_n (lv' := [(2, .int (-1)), (3, .int 0), (0, .ref (bm 0)), (1, .int b)]) hx hb d_Md_slotWith_24 rfl hl (by decide) rfl (fun ls hl => ?_)
    refine lv_iinc (v := 1) (k := 1) (lv' := [(3, .int 1), (2, .int (-1)), (0, .ref (bm 0)), (1, .int b)]) hx hb d_Md_slotWith_25 hl rfl (by decide) (by decide) rfl (fun ls hl => ?_)
    refine lv_goto (tgt := 4) hx hb d_Md_slotWith_28 (by decide) ?_
    refine lv_iload_n hx hb d_Md_slotWith_4 rfl (lv_at hl 0 rfl) ?_
    refine lv_iconst (v := 3) hx hb d_Md_slotWith_5 (by decide) ?_
    refine lv_icmp_ge (tgt := 31) hx hb d_Md_slotWith_6 (by decide) (fun h => absurd h (by decide)) (fun _ => ?_)
    refine lv_aload_n hx hb d_Md_slotWith_9 rfl (lv_at hl 2 rfl) ?_
    refine kx_get S hw fg_Md_62 0 rfl rfl d_Md_slotWith_10 ?_
    refine lv_iload_n hx hb d_Md_slotWith_13 rfl (lv_at hl 0 rfl) ?_
    refine kx_iald S hw 1 0 rfl rfl (j := 1) (by decide) (by unfold vp_in; decide) d_Md_slotWith_14 ?_
    refine lv_iload_n hx hb d_Md_slotWith_15 rfl (lv_at hl 3 rfl) ?_
    refine lv_icmp_ne (tgt := 23) hx hb d_Md_slotWith_16 (by decide) (fun h2 => ?_) (fun h2 => ?_)
    · refine lv_iload_n hx hb d_Md_slotWith_23 rfl (lv_at hl 1 rfl) ?_
      refine lv_istore_n (lv' := [(2, .int (-1)), (3, .int 1), (0, .ref (bm 0)), (1, .int b)]) hx hb d_Md_slotWith_24 rfl hl (by decide) rfl (fun ls hl => ?_)
      refine lv_iinc (v := 2) (k := 1) (lv' := [(3, .int 2), (2, .int (-1)), (0, .ref (bm 0)), (1, .int b)]) hx hb d_Md_slotWith_25 hl rfl (by decide) (by decide) rfl (fun ls hl => ?_)
      refine lv_goto (tgt := 4) hx hb d_Md_slotWith_28 (by decide) ?_
      refine lv_iload_n hx hb d_Md_slotWith_4 rfl (lv_at hl 0 rfl) ?_
      refine lv_iconst (v := 3) hx hb d_Md_slotWith_5 (by decide) ?_
      refine lv_icmp_ge (tgt := 31) hx hb d_Md_slotWith_6 (by decide) (fun h => absurd h (by decide)) (fun _ => ?_)
      refine lv_aload_n hx hb d_Md_slotWith_9 rfl (lv_at hl 2 rfl) ?_
      refine kx_get S hw fg_Md_62 0 rfl rfl d_Md_slotWith_10 ?_
      refine lv_iload_n hx hb d_Md_slotWith_13 rfl (lv_at hl 0 rfl) ?_
      refine kx_iald S hw 1 0 rfl rfl (j := 2) (by decide) (by unfold vp_in; decide) d_Md_slotWith_14 ?_
      refine lv_iload_n hx hb d_Md_slotWith_15 rfl (lv_at hl 3 rfl) ?_
      refine lv_icmp_ne (tgt := 23) hx hb d_Md_slotWith_16 (by decide) (fun h3 => ?_) (fun h3 => ?_)
      · refine lv_iload_n hx hb d_Md_slotWith_23 rfl (lv_at hl 1 rfl) ?_
        refine lv_istore_n (lv' := [(2, .int (-1)), (3, .int 2), (0, .ref (bm 0)), (1, .int b)]) hx hb d_Md_slotWith_24 rfl hl (by decide) rfl (fun ls hl => ?_)
        refine lv_iinc (v := 3) (k := 1) (lv' := [(3, .int 3), (2, .int (-1)), (0, .ref (bm 0)), (1, .int b)]) hx hb d_Md_slotWith_25 hl rfl (by decide) (by decide) rfl (fun ls hl => ?_)
        refine lv_goto (tgt := 4) hx hb d_Md_slotWith_28 (by decide) ?_
        refine lv_iload_n hx hb d_Md_slotWith_4 rfl (lv_at hl 0 rfl) ?_
        refine lv_iconst (v := 3) hx hb d_Md_slotWith_5 (by decide) ?_
        refine lv_icmp_ge (tgt := 31) hx hb d_Md_slotWith_6 (by decide) (fun _ => ?_) (fun h => absurd h (by decide))
        refine lv_iload_n hx hb d_Md_slotWith_31 rfl (lv_at hl 1 rfl) ?_
        exact kx_ret_i I rfl hw () (by simp only [f_Md_slotWith, if_neg h1, if_neg h2, if_neg h3]) [0, 1, 2, 3, 4] (by decide) rfl d_Md_slotWith_32
      · refine lv_iload_n hx hb d_Md_slotWith_19 rfl (lv_at hl 0 rfl) ?_
        refine lv_goto (tgt := 24) hx hb d_Md_slotWith_20 (by decide) ?_
        refine lv_istore_n (lv' := [(2, .int 2), (3, .int 2), (0, .ref (bm 0)), (1, .int b)]) hx hb d_Md_slotWith_24 rfl hl (by decide) rfl (fun ls hl => ?_)
        refine lv_iinc (v := 3) (k := 1) (lv' := [(3, .int 3), (2, .int 2), (0, .ref (bm 0)), (1, .int b)]) hx hb d_Md_slotWith_25 hl rfl (by decide) (by decide) rfl (fun ls hl => ?_)
        refine lv_goto (tgt := 4) hx hb d_Md_slotWith_28 (by decide) ?_
        refine lv_iload_n hx hb d_Md_slotWith_4 rfl (lv_at hl 0 rfl) ?_
        refine lv_iconst (v := 3) hx hb d_Md_slotWith_5 (by decide) ?_
        refine lv_icmp_ge (tgt := 31) hx hb d_Md_slotWith_6 (by decide) (fun _ => ?_) (fun h => absurd h (by decide))
        refine lv_iload_n hx hb d_Md_slotWith_31 rfl (lv_at hl 1 rfl) ?_
        exact kx_ret_i I rfl hw () (by simp only [f_Md_slotWith, if_neg h1, if_neg h2, if_pos h3]) [0, 1, 2, 3, 4] (by decide) rfl d_Md_slotWith_32
    · refine lv_iload_n hx hb d_Md_slotWith_19 rfl (lv_at hl 0 rfl) ?_
      refine lv_goto (tgt := 24) hx hb d_Md_slotWith_20 (by decide) ?_
      refine lv_istore_n (lv' := [(2, .int 1), (3, .int 1), (0, .ref (bm 0)), (1, .int b)]) hx hb d_Md_slotWith_24 rfl hl (by decide) rfl (fun ls hl => ?_)
      refine lv_iinc (v := 2) (k := 1) (lv' := [(3, .int 2), (2, .int 1), (0, .ref (bm 0)), (1, .int b)]) hx hb d_Md_slotWith_25 hl rfl (by decide) (by decide) rfl (fun ls hl => ?_)
      refine lv_goto (tgt := 4) hx hb d_Md_slotWith_28 (by decide) ?_
      refine lv_iload_n hx hb d_Md_slotWith_4 rfl (lv_at hl 0 rfl) ?_
      refine lv_iconst (v := 3) hx hb d_Md_slotWith_5 (by decide) ?_
      refine lv_icmp_ge (tgt := 31) hx hb d_Md_slotWith_6 (by decide) (fun h => absurd h (by decide)) (fun _ => ?_)
      refine lv_aload_n hx hb d_Md_slotWith_9 rfl (lv_at hl 2 rfl) ?_
      refine kx_get S hw fg_Md_62 0 rfl rfl d_Md_slotWith_10 ?_
      refine lv_iload_n hx hb d_Md_slotWith_13 rfl (lv_at hl 0 rfl) ?_
      refine kx_iald S hw 1 0 rfl rfl (j := 2) (by decide) (by unfold vp_in; decide) d_Md_slotWith_14 ?_
      refine lv_iload_n hx hb d_Md_slotWith_15 rfl (lv_at hl 3 rfl) ?_
      refine lv_icmp_ne (tgt := 23) hx hb d_Md_slotWith_16 (by decide) (fun h4 => ?_) (fun h4 => ?_)
      · refine lv_iload_n hx hb d_Md_slotWith_23 rfl (lv_at hl 1 rfl) ?_
        refine lv_istore_n (lv' := [(2, .int 1), (3, .int 2), (0, .ref (bm 0)), (1, .int b)]) hx hb d_Md_slotWith_24 rfl hl (by decide) rfl (fun ls hl => ?_)
        refine lv_iinc (v := 3) (k := 1) (lv' := [(3, .int 3), (2, .int 1), (0, .ref (bm 0)), (1, .int b)]) hx hb d_Md_slotWith_25 hl rfl (by decide) (by decide) rfl (fun ls hl => ?_)
        refine lv_goto (tgt := 4) hx hb d_Md_slotWith_28 (by decide) ?_
        refine lv_iload_n hx hb d_Md_slotWith_4 rfl (lv_at hl 0 rfl) ?_
        refine lv_iconst (v := 3) hx hb d_Md_slotWith_5 (by decide) ?_
        refine lv_icmp_ge (tgt := 31) hx hb d_Md_slotWith_6 (by decide) (fun _ => ?_) (fun h => absurd h (by decide))
        refine lv_iload_n hx hb d_Md_slotWith_31 rfl (lv_at hl 1 rfl) ?_
        exact kx_ret_i I rfl hw () (by simp only [f_Md_slotWith, if_neg h1, if_pos h2, if_neg h4]) [0, 1, 2, 3, 4] (by decide) rfl d_Md_slotWith_32
      · refine lv_iload_n hx hb d_Md_slotWith_19 rfl (lv_at hl 0 rfl) ?_
        refine lv_goto (tgt := 24) hx hb d_Md_slotWith_20 (by decide) ?_
        refine lv_istore_n (lv' := [(2, .int 2), (3, .int 2), (0, .ref (bm 0)), (1, .int b)]) hx hb d_Md_slotWith_24 rfl hl (by decide) rfl (fun ls hl => ?_)
        refine lv_iinc (v := 3) (k := 1) (lv' := [(3, .int 3), (2, .int 2), (0, .ref (bm 0)), (1, .int b)]) hx hb d_Md_slotWith_25 hl rfl (by decide) (by decide) rfl (fun ls hl => ?_)
        refine lv_goto (tgt := 4) hx hb d_Md_slotWith_28 (by decide) ?_
        refine lv_iload_n hx hb d_Md_slotWith_4 rfl (lv_at hl 0 rfl) ?_
        refine lv_iconst (v := 3) hx hb d_Md_slotWith_5 (by decide) ?_
        refine lv_icmp_ge (tgt := 31) hx hb d_Md_slotWith_6 (by decide) (fun _ => ?_) (fun h => absurd h (by decide))
        refine lv_iload_n hx hb d_Md_slotWith_31 rfl (lv_at hl 1 rfl) ?_
        exact kx_ret_i I rfl hw () (by simp only [f_Md_slotWith, if_neg h1, if_pos h2, if_pos h4]) [0, 1, 2, 3, 4] (by decide) rfl d_Md_slotWith_32
  · refine lv_iload_n hx hb d_Md_slotWith_19 rfl (lv_at hl 0 rfl) ?_
    refine lv_goto (tgt := 24) hx hb d_Md_slotWith_20 (by decide) ?_
    refine lv_istore_n (lv' := [(2, .int 0), (3, .int 0), (0, .ref (bm 0)), (1, .int b)]) hx hb d_Md_slotWith_24 rfl hl (by decide) rfl (fun ls hl => ?_)
    refine lv_iinc (v := 1) (k := 1) (lv' := [(3, .int 1), (2, .int 0), (0, .ref (bm 0)), (1, .int b)]) hx hb d_Md_slotWith_25 hl rfl (by decide) (by decide) rfl (fun ls hl => ?_)
    refine lv_goto (tgt := 4) hx hb d_Md_slotWith_28 (by decide) ?_
    refine lv_iload_n hx hb d_Md_slotWith_4 rfl (lv_at hl 0 rfl) ?_
    refine lv_iconst (v := 3) hx hb d_Md_slotWith_5 (by decide) ?_
    refine lv_icmp_ge (tgt := 31) hx hb d_Md_slotWith_6 (by decide) (fun h => absurd h (by decide)) (fun _ => ?_)
    refine lv_aload_n hx hb d_Md_slotWith_9 rfl (lv_at hl 2 rfl) ?_
    refine kx_get S hw fg_Md_62 0 rfl rfl d_Md_slotWith_10 ?_
    refine lv_iload_n hx hb d_Md_slotWith_13 rfl (lv_at hl 0 rfl) ?_
    refine kx_iald S hw 1 0 rfl rfl (j := 1) (by decide) (by unfold vp_in; decide) d_Md_slotWith_14 ?_
    refine lv_iload_n hx hb d_Md_slotWith_15 rfl (lv_at hl 3 rfl) ?_
    refine lv_icmp_ne (tgt := 23) hx hb d_Md_slotWith_16 (by decide) (fun h5 => ?_) (fun h5 => ?_)
    · refine lv_iload_n hx hb d_Md_slotWith_23 rfl (lv_at hl 1 rfl) ?_
      refine lv_istore_n (lv' := [(2, .int 0), (3, .int 1), (0, .ref (bm 0)), (1, .int b)]) hx hb d_Md_slotWith_24 rfl hl (by decide) rfl (fun ls hl => ?_)
      refine lv_iinc (v := 2) (k := 1) (lv' := [(3, .int 2), (2, .int 0), (0, .ref (bm 0)), (1, .int b)]) hx hb d_Md_slotWith_25 hl rfl (by decide) (by decide) rfl (fun ls hl => ?_)
      refine lv_goto (tgt := 4) hx hb d_Md_slotWith_28 (by decide) ?_
      refine lv_iload_n hx hb d_Md_slotWith_4 rfl (lv_at hl 0 rfl) ?_
      refine lv_iconst (v := 3) hx hb d_Md_slotWith_5 (by decide) ?_
      refine lv_icmp_ge (tgt := 31) hx hb d_Md_slotWith_6 (by decide) (fun h => absurd h (by decide)) (fun _ => ?_)
      refine lv_aload_n hx hb d_Md_slotWith_9 rfl (lv_at hl 2 rfl) ?_
      refine kx_get S hw fg_Md_62 0 rfl rfl d_Md_slotWith_10 ?_
      refine lv_iload_n hx hb d_Md_slotWith_13 rfl (lv_at hl 0 rfl) ?_
      refine kx_iald S hw 1 0 rfl rfl (j := 2) (by decide) (by unfold vp_in; decide) d_Md_slotWith_14 ?_
      refine lv_iload_n hx hb d_Md_slotWith_15 rfl (lv_at hl 3 rfl) ?_
      refine lv_icmp_ne (tgt := 23) hx hb d_Md_slotWith_16 (by decide) (fun h6 => ?_) (fun h6 => ?_)
      · refine lv_iload_n hx hb d_Md_slotWith_23 rfl (lv_at hl 1 rfl) ?_
        refine lv_istore_n (lv' := [(2, .int 0), (3, .int 2), (0, .ref (bm 0)), (1, .int b)]) hx hb d_Md_slotWith_24 rfl hl (by decide) rfl (fun ls hl => ?_)
        refine lv_iinc (v := 3) (k := 1) (lv' := [(3, .int 3), (2, .int 0), (0, .ref (bm 0)), (1, .int b)]) hx hb d_Md_slotWith_25 hl rfl (by decide) (by decide) rfl (fun ls hl => ?_)
        refine lv_goto (tgt := 4) hx hb d_Md_slotWith_28 (by decide) ?_
        refine lv_iload_n hx hb d_Md_slotWith_4 rfl (lv_at hl 0 rfl) ?_
        refine lv_iconst (v := 3) hx hb d_Md_slotWith_5 (by decide) ?_
        refine lv_icmp_ge (tgt := 31) hx hb d_Md_slotWith_6 (by decide) (fun _ => ?_) (fun h => absurd h (by decide))
        refine lv_iload_n hx hb d_Md_slotWith_31 rfl (lv_at hl 1 rfl) ?_
        exact kx_ret_i I rfl hw () (by simp only [f_Md_slotWith, if_pos h1, if_neg h5, if_neg h6]) [0, 1, 2, 3, 4] (by decide) rfl d_Md_slotWith_32
      · refine lv_iload_n hx hb d_Md_slotWith_19 rfl (lv_at hl 0 rfl) ?_
        refine lv_goto (tgt := 24) hx hb d_Md_slotWith_20 (by decide) ?_
        refine lv_istore_n (lv' := [(2, .int 2), (3, .int 2), (0, .ref (bm 0)), (1, .int b)]) hx hb d_Md_slotWith_24 rfl hl (by decide) rfl (fun ls hl => ?_)
        refine lv_iinc (v := 3) (k := 1) (lv' := [(3, .int 3), (2, .int 2), (0, .ref (bm 0)), (1, .int b)]) hx hb d_Md_slotWith_25 hl rfl (by decide) (by decide) rfl (fun ls hl => ?_)
        refine lv_goto (tgt := 4) hx hb d_Md_slotWith_28 (by decide) ?_
        refine lv_iload_n hx hb d_Md_slotWith_4 rfl (lv_at hl 0 rfl) ?_
        refine lv_iconst (v := 3) hx hb d_Md_slotWith_5 (by decide) ?_
        refine lv_icmp_ge (tgt := 31) hx hb d_Md_slotWith_6 (by decide) (fun _ => ?_) (fun h => absurd h (by decide))
        refine lv_iload_n hx hb d_Md_slotWith_31 rfl (lv_at hl 1 rfl) ?_
        exact kx_ret_i I rfl hw () (by simp only [f_Md_slotWith, if_pos h1, if_neg h5, if_pos h6]) [0, 1, 2, 3, 4] (by decide) rfl d_Md_slotWith_32
    · refine lv_iload_n hx hb d_Md_slotWith_19 rfl (lv_at hl 0 rfl) ?_
      refine lv_goto (tgt := 24) hx hb d_Md_slotWith_20 (by decide) ?_
      refine lv_istore_n (lv' := [(2, .int 1), (3, .int 1), (0, .ref (bm 0)), (1, .int b)]) hx hb d_Md_slotWith_24 rfl hl (by decide) rfl (fun ls hl => ?_)
      refine lv_iinc (v := 2) (k := 1) (lv' := [(3, .int 2), (2, .int 1), (0, .ref (bm 0)), (1, .int b)]) hx hb d_Md_slotWith_25 hl rfl (by decide) (by decide) rfl (fun ls hl => ?_)
      refine lv_goto (tgt := 4) hx hb d_Md_slotWith_28 (by decide) ?_
      refine lv_iload_n hx hb d_Md_slotWith_4 rfl (lv_at hl 0 rfl) ?_
      refine lv_iconst (v := 3) hx hb d_Md_slotWith_5 (by decide) ?_
      refine lv_icmp_ge (tgt := 31) hx hb d_Md_slotWith_6 (by decide) (fun h => absurd h (by decide)) (fun _ => ?_)
      refine lv_aload_n hx hb d_Md_slotWith_9 rfl (lv_at hl 2 rfl) ?_
      refine kx_get S hw fg_Md_62 0 rfl rfl d_Md_slotWith_10 ?_
      refine lv_iload_n hx hb d_Md_slotWith_13 rfl (lv_at hl 0 rfl) ?_
      refine kx_iald S hw 1 0 rfl rfl (j := 2) (by decide) (by unfold vp_in; decide) d_Md_slotWith_14 ?_
      refine lv_iload_n hx hb d_Md_slotWith_15 rfl (lv_at hl 3 rfl) ?_
      refine lv_icmp_ne (tgt := 23) hx hb d_Md_slotWith_16 (by decide) (fun h7 => ?_) (fun h7 => ?_)
      · refine lv_iload_n hx hb d_Md_slotWith_23 rfl (lv_at hl 1 rfl) ?_
        refine lv_istore_n (lv' := [(2, .int 1), (3, .int 2), (0, .ref (bm 0)), (1, .int b)]) hx hb d_Md_slotWith_24 rfl hl (by decide) rfl (fun ls hl => ?_)
        refine lv_iinc (v := 3) (k := 1) (lv' := [(3, .int 3), (2, .int 1), (0, .ref (bm 0)), (1, .int b)]) hx hb d_Md_slotWith_25 hl rfl (by decide) (by decide) rfl (fun ls hl => ?_)
        refine lv_goto (tgt := 4) hx hb d_Md_slotWith_28 (by decide) ?_
        refine lv_iload_n hx hb d_Md_slotWith_4 rfl (lv_at hl 0 rfl) ?_
        refine lv_iconst (v := 3) hx hb d_Md_slotWith_5 (by decide) ?_
        refine lv_icmp_ge (tgt := 31) hx hb d_Md_slotWith_6 (by decide) (fun _ => ?_) (fun h => absurd h (by decide))
        refine lv_iload_n hx hb d_Md_slotWith_31 rfl (lv_at hl 1 rfl) ?_
        exact kx_ret_i I rfl hw () (by simp only [f_Md_slotWith, if_pos h1, if_pos h5, if_neg h7]) [0, 1, 2, 3, 4] (by decide) rfl d_Md_slotWith_32
      · refine lv_iload_n hx hb d_Md_slotWith_19 rfl (lv_at hl 0 rfl) ?_
        refine lv_goto (tgt := 24) hx hb d_Md_slotWith_20 (by decide) ?_
        refine lv_istore_n (lv' := [(2, .int 2), (3, .int 2), (0, .ref (bm 0)), (1, .int b)]) hx hb d_Md_slotWith_24 rfl hl (by decide) rfl (fun ls hl => ?_)
        refine lv_iinc (v := 3) (k := 1) (lv' := [(3, .int 3), (2, .int 2), (0, .ref (bm 0)), (1, .int b)]) hx hb d_Md_slotWith_25 hl rfl (by decide) (by decide) rfl (fun ls hl => ?_)
        refine lv_goto (tgt := 4) hx hb d_Md_slotWith_28 (by decide) ?_
        refine lv_iload_n hx hb d_Md_slotWith_4 rfl (lv_at hl 0 rfl) ?_
        refine lv_iconst (v := 3) hx hb d_Md_slotWith_5 (by decide) ?_
        refine lv_icmp_ge (tgt := 31) hx hb d_Md_slotWith_6 (by decide) (fun _ => ?_) (fun h => absurd h (by decide))
        refine lv_iload_n hx hb d_Md_slotWith_31 rfl (lv_at hl 1 rfl) ?_
        exact kx_ret_i I rfl hw () (by simp only [f_Md_slotWith, if_pos h1, if_pos h5, if_pos h7]) [0, 1, 2, 3, 4] (by decide) rfl d_Md_slotWith_32
def f_Md_slotToTake (mi : kt_I) (y : kt_Ca) : Int32 :=
  if (y.1 0) < 0 then 0
  else if (y.1 1) < 0 then 1
  else if (y.2.2.2 0) ≤ (y.2.2.2 1) then (if (y.1 2) < 0 then 2
    else if (y.2.2.2 0) ≤ (y.2.2.2 2) then 0
    else 2)
  else if (y.1 2) < 0 then 2
  else if (y.2.2.2 1) ≤ (y.2.2.2 2) then 1
  else 2
set_option maxHeartbeats 4000000 in
set_option maxRecDepth 100000 in
theorem c_Md_slotToTake (l : Launch) (D : va_G) (cI cZ cO : ClassId) (bm : Nat → Nat) (mi : kt_I) (y : kt_Ca) : kx_Ci (S := Unit) l y_Md_slotToTake b_Md_slotToTake 4 (some .int) 0 0 0 D (kx_T cI cZ cO) [.ref (bm 0)] [((bm 0), .inr (6, [.int mi.1, .int mi.2.1, .int mi.2.2.1, .ref (bm 1), .ref (bm 2), .ref (bm 3), .ref (bm 4), .ref (bm 5), .ref (bm 6), .ref (bm 7), .ref (bm 8), .ref (bm 9), .int mi.2.2.2.1, .ref (bm 10), .ref (bm 11), .ref (bm 12), .ref (bm 13), .ref (bm 14), .ref (bm 15), .ref (bm 16), .ref (bm 17), .int mi.2.2.2.2.1, .int mi.2.2.2.2.2.1, .int mi.2.2.2.2.2.2.1, .int mi.2.2.2.2.2.2.2.1, .ref (bm 18), .ref (bm 19), .ref (bm 20), .ref (bm 21), .int mi.2.2.2.2.2.2.2.2])), ((bm 18), .inl (cI, 3, .inl y.1)), ((bm 19), .inl (cI, 3, .inl y.2.1)), ((bm 20), .inl (cZ, 3, .inl y.2.2.1)), ((bm 21), .inl (cI, 3, .inl y.2.2.2))] (fun rr _ => rr = f_Md_slotToTake mi y) (fun _ => [((bm 0), .inr (6, [.int mi.1, .int mi.2.1, .int mi.2.2.1, .ref (bm 1), .ref (bm 2), .ref (bm 3), .ref (bm 4), .ref (bm 5), .ref (bm 6), .ref (bm 7), .ref (bm 8), .ref (bm 9), .int mi.2.2.2.1, .ref (bm 10), .ref (bm 11), .ref (bm 12), .ref (bm 13), .ref (bm 14), .ref (bm 15), .ref (bm 16), .ref (bm 17), .int mi.2.2.2.2.1, .int mi.2.2.2.2.2.1, .int mi.2.2.2.2.2.2.1, .int mi.2.2.2.2.2.2.2.1, .ref (bm 18), .ref (bm 19), .ref (bm 20), .ref (bm 21), .int mi.2.2.2.2.2.2.2.2])), ((bm 18), .inl (cI, 3, .inl y.1)), ((bm 19), .inl (cI, 3, .inl y.2.1)), ((bm 20), .inl (cZ, 3, .inl y.2.2.1)), ((bm 21), .inl (cI, 3, .inl y.2.2.2))]) := by
  refine kx_enter_i (by decide) (Nat.le_of_ble_eq_true rfl) ?_
  intro p_ e_ s_ m_ below_ meth_ c_ ls A_ H I hl hw
  have S := I.1
  have hx := S.1
  have hb := S.2.1
  have hl : lv_has ls 4 [(0, .ref (bm 0))] := hl
  refine lv_iconst (v := 0) hx hb d_Md_slotToTake_0 (by decide) ?_
  refine lv_istore_n (lv' := [(1, .int 0), (0, .ref (bm 0))]) hx hb d_Md_slotToTake_1 rfl hl (by decide) rfl (fun ls hl => ?_)
  refine lv_iconst (v := 1) hx hb d_Md_slotToTake_2 (by decide) ?_
  refine lv_istore_n (lv' := [(2, .int 1), (1, .int 0), (0, .ref (bm 0))]) hx hb d_Md_slotToTake_3 rfl hl (by decide) rfl (fun ls hl => ?_)
  refine lv_iload_n hx hb d_Md_slotToTake_4 rfl (lv_at hl 0 rfl) ?_
  refine lv_iconst (v := 3) hx hb d_Md_slotToTake_5 (by decide) ?_
  refine lv_icmp_ge (tgt := 64) hx hb d_Md_slotToTake_6 (by decide) (fun h => absurd h (by decide)) (fun _ => ?_)
  refine lv_aload_n hx hb d_Md_slotToTake_9 rfl (lv_at hl 2 rfl) ?_
  refine kx_get S hw fg_Md_62 0 rfl rfl d_Md_slotToTake_10 ?_
  refine lv_iload_n hx hb d_Md_slotToTake_13 rfl (lv_at hl 1 rfl) ?_
  refine kx_iald S hw 1 0 rfl rfl (j := 0) (by decide) (by unfold vp_in; decide) d_Md_slotToTake_14 ?_
  refine lv_if_lt (tgt := 46) hx hb d_Md_slotToTake_15 (by decide) (fun h1 => ?_) (fun h1 => ?_)
  · refine lv_iconst (v := 0) hx hb d_Md_slotToTake_46 (by decide) ?_
    refine lv_istore_n (lv' := [(3, .int 0), (2, .int 1), (1, .int 0), (0, .ref (bm 0))]) hx hb d_Md_slotToTake_47 rfl hl (by decide) rfl (fun ls hl => ?_)
    refine lv_iload_n hx hb d_Md_slotToTake_48 rfl (lv_at hl 0 rfl) ?_
    refine lv_if_eq (tgt := 56) hx hb d_Md_slotToTake_49 (by decide) (fun _ => ?_) (fun h => absurd h (by decide))
    refine lv_iload_n hx hb d_Md_slotToTake_56 rfl (lv_at hl 2 rfl) ?_
    refine lv_istore_n (lv' := [(1, .int 0), (3, .int 0), (2, .int 1), (0, .ref (bm 0))]) hx hb d_Md_slotToTake_57 rfl hl (by decide) rfl (fun ls hl => ?_)
    refine lv_iinc (v := 2) (k := 2) (lv' := [(2, .int 2), (1, .int 0), (3, .int 0), (0, .ref (bm 0))]) hx hb d_Md_slotToTake_58 hl rfl (by decide) (by decide) rfl (fun ls hl => ?_)
    refine lv_goto (tgt := 4) hx hb d_Md_slotToTake_61 (by decide) ?_
    refine lv_iload_n hx hb d_Md_slotToTake_4 rfl (lv_at hl 0 rfl) ?_
    refine lv_iconst (v := 3) hx hb d_Md_slotToTake_5 (by decide) ?_
    refine lv_icmp_ge (tgt := 64) hx hb d_Md_slotToTake_6 (by decide) (fun h => absurd h (by decide)) (fun _ => ?_)
    refine lv_aload_n hx hb d_Md_slotToTake_9 rfl (lv_at hl 3 rfl) ?_
    refine kx_get S hw fg_Md_62 0 rfl rfl d_Md_slotToTake_10 ?_
    refine lv_iload_n hx hb d_Md_slotToTake_13 rfl (lv_at hl 1 rfl) ?_
    refine kx_iald S hw 1 0 rfl rfl (j := 0) (by decide) (by unfold vp_in; decide) d_Md_slotToTake_14 ?_
    refine lv_if_lt (tgt := 46) hx hb d_Md_slotToTake_15 (by decide) (fun _ => ?_) (fun h => absurd h1 h)
    refine lv_iconst (v := 0) hx hb d_Md_slotToTake_46 (by decide) ?_
    refine lv_istore_n (lv' := [(3, .int 0), (2, .int 2), (1, .int 0), (0, .ref (bm 0))]) hx hb d_Md_slotToTake_47 rfl hl (by decide) rfl (fun ls hl => ?_)
    refine lv_iload_n hx hb d_Md_slotToTake_48 rfl (lv_at hl 0 rfl) ?_
    refine lv_if_eq (tgt := 56) hx hb d_Md_slotToTake_49 (by decide) (fun _ => ?_) (fun h => absurd h (by decide))
    refine lv_iload_n hx hb d_Md_slotToTake_56 rfl (lv_at hl 2 rfl) ?_
    refine lv_istore_n (lv' := [(1, .int 0), (3, .int 0), (2, .int 2), (0, .ref (bm 0))]) hx hb d_Md_slotToTake_57 rfl hl (by decide) rfl (fun ls hl => ?_)
    refine lv_iinc (v := 3) (k := 2) (lv' := [(2, .int 3), (1, .int 0), (3, .int 0), (0, .ref (bm 0))]) hx hb d_Md_slotToTake_58 hl rfl (by decide) (by decide) rfl (fun ls hl => ?_)
    refine lv_goto (tgt := 4) hx hb d_Md_slotToTake_61 (by decide) ?_
    refine lv_iload_n hx hb d_Md_slotToTake_4 rfl (lv_at hl 0 rfl) ?_
    refine lv_iconst (v := 3) hx hb d_Md_slotToTake_5 (by decide) ?_
    refine lv_icmp_ge (tgt := 64) hx hb d_Md_slotToTake_6 (by decide) (fun _ => ?_) (fun h => absurd h (by decide))
    refine lv_iload_n hx hb d_Md_slotToTake_64 rfl (lv_at hl 1 rfl) ?_
    exact kx_ret_i I rfl hw () (by simp only [f_Md_slotToTake, if_pos h1]) [0, 1, 2, 3, 4] (by decide) rfl d_Md_slotToTake_65
  · refine lv_aload_n hx hb d_Md_slotToTake_18 rfl (lv_at hl 2 rfl) ?_
    refine kx_get S hw fg_Md_62 0 rfl rfl d_Md_slotToTake_19 ?_
    refine lv_iload_n hx hb d_Md_slotToTake_22 rfl (lv_at hl 0 rfl) ?_
    refine kx_iald S hw 1 0 rfl rfl (j := 1) (by decide) (by unfold vp_in; decide) d_Md_slotToTake_23 ?_
    refine lv_if_lt (tgt := 42) hx hb d_Md_slotToTake_24 (by decide) (fun h2 => ?_) (fun h2 => ?_)
    · refine lv_iconst (v := 1) hx hb d_Md_slotToTake_42 (by decide) ?_
      refine lv_goto (tgt := 47) hx hb d_Md_slotToTake_43 (by decide) ?_
      refine lv_istore_n (lv' := [(3, .int 1), (2, .int 1), (1, .int 0), (0, .ref (bm 0))]) hx hb d_Md_slotToTake_47 rfl hl (by decide) rfl (fun ls hl => ?_)
      refine lv_iload_n hx hb d_Md_slotToTake_48 rfl (lv_at hl 0 rfl) ?_
      refine lv_if_eq (tgt := 56) hx hb d_Md_slotToTake_49 (by decide) (fun h => absurd h (by decide)) (fun _ => ?_)
      refine lv_iload_n hx hb d_Md_slotToTake_52 rfl (lv_at hl 1 rfl) ?_
      refine lv_goto (tgt := 57) hx hb d_Md_slotToTake_53 (by decide) ?_
      refine lv_istore_n (lv' := [(1, .int 1), (3, .int 1), (2, .int 1), (0, .ref (bm 0))]) hx hb d_Md_slotToTake_57 rfl hl (by decide) rfl (fun ls hl => ?_)
      refine lv_iinc (v := 2) (k := 2) (lv' := [(2, .int 2), (1, .int 1), (3, .int 1), (0, .ref (bm 0))]) hx hb d_Md_slotToTake_58 hl rfl (by decide) (by decide) rfl (fun ls hl => ?_)
      refine lv_goto (tgt := 4) hx hb d_Md_slotToTake_61 (by decide) ?_
      refine lv_iload_n hx hb d_Md_slotToTake_4 rfl (lv_at hl 0 rfl) ?_
      refine lv_iconst (v := 3) hx hb d_Md_slotToTake_5 (by decide) ?_
      refine lv_icmp_ge (tgt := 64) hx hb d_Md_slotToTake_6 (by decide) (fun h => absurd h (by decide)) (fun _ => ?_)
      refine lv_aload_n hx hb d_Md_slotToTake_9 rfl (lv_at hl 3 rfl) ?_
      refine kx_get S hw fg_Md_62 0 rfl rfl d_Md_slotToTake_10 ?_
      refine lv_iload_n hx hb d_Md_slotToTake_13 rfl (lv_at hl 1 rfl) ?_
      refine kx_iald S hw 1 0 rfl rfl (j := 1) (by decide) (by unfold vp_in; decide) d_Md_slotToTake_14 ?_
      refine lv_if_lt (tgt := 46) hx hb d_Md_slotToTake_15 (by decide) (fun _ => ?_) (fun h => absurd h2 h)
      refine lv_iconst (v := 0) hx hb d_Md_slotToTake_46 (by decide) ?_
      refine lv_istore_n (lv' := [(3, .int 0), (2, .int 2), (1, .int 1), (0, .ref (bm 0))]) hx hb d_Md_slotToTake_47 rfl hl (by decide) rfl (fun ls hl => ?_)
      refine lv_iload_n hx hb d_Md_slotToTake_48 rfl (lv_at hl 0 rfl) ?_
      refine lv_if_eq (tgt := 56) hx hb d_Md_slotToTake_49 (by decide) (fun _ => ?_) (fun h => absurd h (by decide))
      refine lv_iload_n hx hb d_Md_slotToTake_56 rfl (lv_at hl 2 rfl) ?_
      refine lv_istore_n (lv' := [(1, .int 1), (3, .int 0), (2, .int 2), (0, .ref (bm 0))]) hx hb d_Md_slotToTake_57 rfl hl (by decide) rfl (fun ls hl => ?_)
      refine lv_iinc (v := 3) (k := 2) (lv' := [(2, .int 3), (1, .int 1), (3, .int 0), (0, .ref (bm 0))]) hx hb d_Md_slotToTake_58 hl rfl (by decide) (by decide) rfl (fun ls hl => ?_)
      refine lv_goto (tgt := 4) hx hb d_Md_slotToTake_61 (by decide) ?_
      refine lv_iload_n hx hb d_Md_slotToTake_4 rfl (lv_at hl 0 rfl) ?_
      refine lv_iconst (v := 3) hx hb d_Md_slotToTake_5 (by decide) ?_
      refine lv_icmp_ge (tgt := 64) hx hb d_Md_slotToTake_6 (by decide) (fun _ => ?_) (fun h => absurd h (by decide))
      refine lv_iload_n hx hb d_Md_slotToTake_64 rfl (lv_at hl 1 rfl) ?_
      exact kx_ret_i I rfl hw () (by simp only [f_Md_slotToTake, if_neg h1, if_pos h2]) [0, 1, 2, 3, 4] (by decide) rfl d_Md_slotToTake_65
    · refine lv_aload_n hx hb d_Md_slotToTake_27 rfl (lv_at hl 2 rfl) ?_
      refine kx_get S hw fg_Md_71 0 rfl rfl d_Md_slotToTake_28 ?_
      refine lv_iload_n hx hb d_Md_slotToTake_31 rfl (lv_at hl 0 rfl) ?_
      refine kx_iald S hw 4 0 rfl rfl (j := 1) (by decide) (by unfold vp_in; decide) d_Md_slotToTake_32 ?_
      refine lv_aload_n hx hb d_Md_slotToTake_33 rfl (lv_at hl 2 rfl) ?_
      refine kx_get S hw fg_Md_71 0 rfl rfl d_Md_slotToTake_34 ?_
      refine lv_iload_n hx hb d_Md_slotToTake_37 rfl (lv_at hl 1 rfl) ?_
      refine kx_iald S hw 4 0 rfl rfl (j := 0) (by decide) (by unfold vp_in; decide) d_Md_slotToTake_38 ?_
      refine lv_icmp_ge (tgt := 46) hx hb d_Md_slotToTake_39 (by decide) (fun h3 => ?_) (fun h3 => ?_)
      · refine lv_iconst (v := 0) hx hb d_Md_slotToTake_46 (by decide) ?_
        refine lv_istore_n (lv' := [(3, .int 0), (2, .int 1), (1, .int 0), (0, .ref (bm 0))]) hx hb d_Md_slotToTake_47 rfl hl (by decide) rfl (fun ls hl => ?_)
        refine lv_iload_n hx hb d_Md_slotToTake_48 rfl (lv_at hl 0 rfl) ?_
        refine lv_if_eq (tgt := 56) hx hb d_Md_slotToTake_49 (by decide) (fun _ => ?_) (fun h => absurd h (by decide))
        refine lv_iload_n hx hb d_Md_slotToTake_56 rfl (lv_at hl 2 rfl) ?_
        refine lv_istore_n (lv' := [(1, .int 0), (3, .int 0), (2, .int 1), (0, .ref (bm 0))]) hx hb d_Md_slotToTake_57 rfl hl (by decide) rfl (fun ls hl => ?_)
        refine lv_iinc (v := 2) (k := 2) (lv' := [(2, .int 2), (1, .int 0), (3, .int 0), (0, .ref (bm 0))]) hx hb d_Md_slotToTake_58 hl rfl (by decide) (by decide) rfl (fun ls hl => ?_)
        refine lv_goto (tgt := 4) hx hb d_Md_slotToTake_61 (by decide) ?_
        refine lv_iload_n hx hb d_Md_slotToTake_4 rfl (lv_at hl 0 rfl) ?_
        refine lv_iconst (v := 3) hx hb d_Md_slotToTake_5 (by decide) ?_
        refine lv_icmp_ge (tgt := 64) hx hb d_Md_slotToTake_6 (by decide) (fun h => absurd h (by decide)) (fun _ => ?_)
        refine lv_aload_n hx hb d_Md_slotToTake_9 rfl (lv_at hl 3 rfl) ?_
        refine kx_get S hw fg_Md_62 0 rfl rfl d_Md_slotToTake_10 ?_
        refine lv_iload_n hx hb d_Md_slotToTake_13 rfl (lv_at hl 1 rfl) ?_
        refine kx_iald S hw 1 0 rfl rfl (j := 0) (by decide) (by unfold vp_in; decide) d_Md_slotToTake_14 ?_
        refine lv_if_lt (tgt := 46) hx hb d_Md_slotToTake_15 (by decide) (fun h => absurd h h1) (fun _ => ?_)
        refine lv_aload_n hx hb d_Md_slotToTake_18 rfl (lv_at hl 3 rfl) ?_
        refine kx_get S hw fg_Md_62 0 rfl rfl d_Md_slotToTake_19 ?_
        refine lv_iload_n hx hb d_Md_slotToTake_22 rfl (lv_at hl 0 rfl) ?_
        refine kx_iald S hw 1 0 rfl rfl (j := 2) (by decide) (by unfold vp_in; decide) d_Md_slotToTake_23 ?_
        refine lv_if_lt (tgt := 42) hx hb d_Md_slotToTake_24 (by decide) (fun h4 => ?_) (fun h4 => ?_)
        · refine lv_iconst (v := 1) hx hb d_Md_slotToTake_42 (by decide) ?_
          refine lv_goto (tgt := 47) hx hb d_Md_slotToTake_43 (by decide) ?_
          refine lv_istore_n (lv' := [(3, .int 1), (2, .int 2), (1, .int 0), (0, .ref (bm 0))]) hx hb d_Md_slotToTake_47 rfl hl (by decide) rfl (fun ls hl => ?_)
          refine lv_iload_n hx hb d_Md_slotToTake_48 rfl (lv_at hl 0 rfl) ?_
          refine lv_if_eq (tgt := 56) hx hb d_Md_slotToTake_49 (by decide) (fun h => absurd h (by decide)) (fun _ => ?_)
          refine lv_iload_n hx hb d_Md_slotToTake_52 rfl (lv_at hl 1 rfl) ?_
          refine lv_goto (tgt := 57) hx hb d_Md_slotToTake_53 (by decide) ?_
          refine lv_istore_n (lv' := [(1, .int 2), (3, .int 1), (2, .int 2), (0, .ref (bm 0))]) hx hb d_Md_slotToTake_57 rfl hl (by decide) rfl (fun ls hl => ?_)
          refine lv_iinc (v := 3) (k := 2) (lv' := [(2, .int 3), (1, .int 2), (3, .int 1), (0, .ref (bm 0))]) hx hb d_Md_slotToTake_58 hl rfl (by decide) (by decide) rfl (fun ls hl => ?_)
          refine lv_goto (tgt := 4) hx hb d_Md_slotToTake_61 (by decide) ?_
          refine lv_iload_n hx hb d_Md_slotToTake_4 rfl (lv_at hl 0 rfl) ?_
          refine lv_iconst (v := 3) hx hb d_Md_slotToTake_5 (by decide) ?_
          refine lv_icmp_ge (tgt := 64) hx hb d_Md_slotToTake_6 (by decide) (fun _ => ?_) (fun h => absurd h (by decide))
          refine lv_iload_n hx hb d_Md_slotToTake_64 rfl (lv_at hl 1 rfl) ?_
          exact kx_ret_i I rfl hw () (by simp only [f_Md_slotToTake, if_neg h1, if_neg h2, if_pos h3, if_pos h4]) [0, 1, 2, 3, 4] (by decide) rfl d_Md_slotToTake_65
        · refine lv_aload_n hx hb d_Md_slotToTake_27 rfl (lv_at hl 3 rfl) ?_
          refine kx_get S hw fg_Md_71 0 rfl rfl d_Md_slotToTake_28 ?_
          refine lv_iload_n hx hb d_Md_slotToTake_31 rfl (lv_at hl 0 rfl) ?_
          refine kx_iald S hw 4 0 rfl rfl (j := 2) (by decide) (by unfold vp_in; decide) d_Md_slotToTake_32 ?_
          refine lv_aload_n hx hb d_Md_slotToTake_33 rfl (lv_at hl 3 rfl) ?_
          refine kx_get S hw fg_Md_71 0 rfl rfl d_Md_slotToTake_34 ?_
          refine lv_iload_n hx hb d_Md_slotToTake_37 rfl (lv_at hl 1 rfl) ?_
          refine kx_iald S hw 4 0 rfl rfl (j := 0) (by decide) (by unfold vp_in; decide) d_Md_slotToTake_38 ?_
          refine lv_icmp_ge (tgt := 46) hx hb d_Md_slotToTake_39 (by decide) (fun h5 => ?_) (fun h5 => ?_)
          · refine lv_iconst (v := 0) hx hb d_Md_slotToTake_46 (by decide) ?_
            refine lv_istore_n (lv' := [(3, .int 0), (2, .int 2), (1, .int 0), (0, .ref (bm 0))]) hx hb d_Md_slotToTake_47 rfl hl (by decide) rfl (fun ls hl => ?_)
            refine lv_iload_n hx hb d_Md_slotToTake_48 rfl (lv_at hl 0 rfl) ?_
            refine lv_if_eq (tgt := 56) hx hb d_Md_slotToTake_49 (by decide) (fun _ => ?_) (fun h => absurd h (by decide))
            refine lv_iload_n hx hb d_Md_slotToTake_56 rfl (lv_at hl 2 rfl) ?_
            refine lv_istore_n (lv' := [(1, .int 0), (3, .int 0), (2, .int 2), (0, .ref (bm 0))]) hx hb d_Md_slotToTake_57 rfl hl (by decide) rfl (fun ls hl => ?_)
            refine lv_iinc (v := 3) (k := 2) (lv' := [(2, .int 3), (1, .int 0), (3, .int 0), (0, .ref (bm 0))]) hx hb d_Md_slotToTake_58 hl rfl (by decide) (by decide) rfl (fun ls hl => ?_)
            refine lv_goto (tgt := 4) hx hb d_Md_slotToTake_61 (by decide) ?_
            refine lv_iload_n hx hb d_Md_slotToTake_4 rfl (lv_at hl 0 rfl) ?_
            refine lv_iconst (v := 3) hx hb d_Md_slotToTake_5 (by decide) ?_
            refine lv_icmp_ge (tgt := 64) hx hb d_Md_slotToTake_6 (by decide) (fun _ => ?_) (fun h => absurd h (by decide))
            refine lv_iload_n hx hb d_Md_slotToTake_64 rfl (lv_at hl 1 rfl) ?_
            exact kx_ret_i I rfl hw () (by simp only [f_Md_slotToTake, if_neg h1, if_neg h2, if_pos h3, if_neg h4, if_pos h5]) [0, 1, 2, 3, 4] (by decide) rfl d_Md_slotToTake_65
          · refine lv_iconst (v := 1) hx hb d_Md_slotToTake_42 (by decide) ?_
            refine lv_goto (tgt := 47) hx hb d_Md_slotToTake_43 (by decide) ?_
            refine lv_istore_n (lv' := [(3, .int 1), (2, .int 2), (1, .int 0), (0, .ref (bm 0))]) hx hb d_Md_slotToTake_47 rfl hl (by decide) rfl (fun ls hl => ?_)
            refine lv_iload_n hx hb d_Md_slotToTake_48 rfl (lv_at hl 0 rfl) ?_
            refine lv_if_eq (tgt := 56) hx hb d_Md_slotToTake_49 (by decide) (fun h => absurd h (by decide)) (fun _ => ?_)
            refine lv_iload_n hx hb d_Md_slotToTake_52 rfl (lv_at hl 1 rfl) ?_
            refine lv_goto (tgt := 57) hx hb d_Md_slotToTake_53 (by decide) ?_
            refine lv_istore_n (lv' := [(1, .int 2), (3, .int 1), (2, .int 2), (0, .ref (bm 0))]) hx hb d_Md_slotToTake_57 rfl hl (by decide) rfl (fun ls hl => ?_)
            refine lv_iinc (v := 3) (k := 2) (lv' := [(2, .int 3), (1, .int 2), (3, .int 1), (0, .ref (bm 0))]) hx hb d_Md_slotToTake_58 hl rfl (by decide) (by decide) rfl (fun ls hl => ?_)
            refine lv_goto (tgt := 4) hx hb d_Md_slotToTake_61 (by decide) ?_
            refine lv_iload_n hx hb d_Md_slotToTake_4 rfl (lv_at hl 0 rfl) ?_
            refine lv_iconst (v := 3) hx hb d_Md_slotToTake_5 (by decide) ?_
            refine lv_icmp_ge (tgt := 64) hx hb d_Md_slotToTake_6 (by decide) (fun _ => ?_) (fun h => absurd h (by decide))
            refine lv_iload_n hx hb d_Md_slotToTake_64 rfl (lv_at hl 1 rfl) ?_
            exact kx_ret_i I rfl hw () (by simp only [f_Md_slotToTake, if_neg h1, if_neg h2, if_pos h3, if_neg h4, if_neg h5]) [0, 1, 2, 3, 4] (by decide) rfl d_Md_slotToTake_65
      · refine lv_iconst (v := 1) hx hb d_Md_slotToTake_42 (by decide) ?_
        refine lv_goto (tgt := 47) hx hb d_Md_slotToTake_43 (by decide) ?_
        refine lv_istore_n (lv' := [(3, .int 1), (2, .int 1), (1, .int 0), (0, .ref (bm 0))]) hx hb d_Md_slotToTake_47 rfl hl (by decide) rfl (fun ls hl => ?_)
        refine lv_iload_n hx hb d_Md_slotToTake_48 rfl (lv_at hl 0 rfl) ?_
        refine lv_if_eq (tgt := 56) hx hb d_Md_slotToTake_49 (by decide) (fun h => absurd h (by decide)) (fun _ => ?_)
        refine lv_iload_n hx hb d_Md_slotToTake_52 rfl (lv_at hl 1 rfl) ?_
        refine lv_goto (tgt := 57) hx hb d_Md_slotToTake_53 (by decide) ?_
        refine lv_istore_n (lv' := [(1, .int 1), (3, .int 1), (2, .int 1), (0, .ref (bm 0))]) hx hb d_Md_slotToTake_57 rfl hl (by decide) rfl (fun ls hl => ?_)
        refine lv_iinc (v := 2) (k := 2) (lv' := [(2, .int 2), (1, .int 1), (3, .int 1), (0, .ref (bm 0))]) hx hb d_Md_slotToTake_58 hl rfl (by decide) (by decide) rfl (fun ls hl => ?_)
        refine lv_goto (tgt := 4) hx hb d_Md_slotToTake_61 (by decide) ?_
        refine lv_iload_n hx hb d_Md_slotToTake_4 rfl (lv_at hl 0 rfl) ?_
        refine lv_iconst (v := 3) hx hb d_Md_slotToTake_5 (by decide) ?_
        refine lv_icmp_ge (tgt := 64) hx hb d_Md_slotToTake_6 (by decide) (fun h => absurd h (by decide)) (fun _ => ?_)
        refine lv_aload_n hx hb d_Md_slotToTake_9 rfl (lv_at hl 3 rfl) ?_
        refine kx_get S hw fg_Md_62 0 rfl rfl d_Md_slotToTake_10 ?_
        refine lv_iload_n hx hb d_Md_slotToTake_13 rfl (lv_at hl 1 rfl) ?_
        refine kx_iald S hw 1 0 rfl rfl (j := 1) (by decide) (by unfold vp_in; decide) d_Md_slotToTake_14 ?_
        refine lv_if_lt (tgt := 46) hx hb d_Md_slotToTake_15 (by decide) (fun h => absurd h h2) (fun _ => ?_)
        refine lv_aload_n hx hb d_Md_slotToTake_18 rfl (lv_at hl 3 rfl) ?_
        refine kx_get S hw fg_Md_62 0 rfl rfl d_Md_slotToTake_19 ?_
        refine lv_iload_n hx hb d_Md_slotToTake_22 rfl (lv_at hl 0 rfl) ?_
        refine kx_iald S hw 1 0 rfl rfl (j := 2) (by decide) (by unfold vp_in; decide) d_Md_slotToTake_23 ?_
        refine lv_if_lt (tgt := 42) hx hb d_Md_slotToTake_24 (by decide) (fun h6 => ?_) (fun h6 => ?_)
        · refine lv_iconst (v := 1) hx hb d_Md_slotToTake_42 (by decide) ?_
          refine lv_goto (tgt := 47) hx hb d_Md_slotToTake_43 (by decide) ?_
          refine lv_istore_n (lv' := [(3, .int 1), (2, .int 2), (1, .int 1), (0, .ref (bm 0))]) hx hb d_Md_slotToTake_47 rfl hl (by decide) rfl (fun ls hl => ?_)
          refine lv_iload_n hx hb d_Md_slotToTake_48 rfl (lv_at hl 0 rfl) ?_
          refine lv_if_eq (tgt := 56) hx hb d_Md_slotToTake_49 (by decide) (fun h => absurd h (by decide)) (fun _ => ?_)
          refine lv_iload_n hx hb d_Md_slotToTake_52 rfl (lv_at hl 1 rfl) ?_
          refine lv_goto (tgt := 57) hx hb d_Md_slotToTake_53 (by decide) ?_
          refine lv_istore_n (lv' := [(1, .int 2), (3, .int 1), (2, .int 2), (0, .ref (bm 0))]) hx hb d_Md_slotToTake_57 rfl hl (by decide) rfl (fun ls hl => ?_)
          refine lv_iinc (v := 3) (k := 2) (lv' := [(2, .int 3), (1, .int 2), (3, .int 1), (0, .ref (bm 0))]) hx hb d_Md_slotToTake_58 hl rfl (by decide) (by decide) rfl (fun ls hl => ?_)
          refine lv_goto (tgt := 4) hx hb d_Md_slotToTake_61 (by decide) ?_
          refine lv_iload_n hx hb d_Md_slotToTake_4 rfl (lv_at hl 0 rfl) ?_
          refine lv_iconst (v := 3) hx hb d_Md_slotToTake_5 (by decide) ?_
          refine lv_icmp_ge (tgt := 64) hx hb d_Md_slotToTake_6 (by decide) (fun _ => ?_) (fun h => absurd h (by decide))
          refine lv_iload_n hx hb d_Md_slotToTake_64 rfl (lv_at hl 1 rfl) ?_
          exact kx_ret_i I rfl hw () (by simp only [f_Md_slotToTake, if_neg h1, if_neg h2, if_neg h3, if_pos h6]) [0, 1, 2, 3, 4] (by decide) rfl d_Md_slotToTake_65
        · refine lv_aload_n hx hb d_Md_slotToTake_27 rfl (lv_at hl 3 rfl) ?_
          refine kx_get S hw fg_Md_71 0 rfl rfl d_Md_slotToTake_28 ?_
          refine lv_iload_n hx hb d_Md_slotToTake_31 rfl (lv_at hl 0 rfl) ?_
          refine kx_iald S hw 4 0 rfl rfl (j := 2) (by decide) (by unfold vp_in; decide) d_Md_slotToTake_32 ?_
          refine lv_aload_n hx hb d_Md_slotToTake_33 rfl (lv_at hl 3 rfl) ?_
          refine kx_get S hw fg_Md_71 0 rfl rfl d_Md_slotToTake_34 ?_
          refine lv_iload_n hx hb d_Md_slotToTake_37 rfl (lv_at hl 1 rfl) ?_
          refine kx_iald S hw 4 0 rfl rfl (j := 1) (by decide) (by unfold vp_in; decide) d_Md_slotToTake_38 ?_
          refine lv_icmp_ge (tgt := 46) hx hb d_Md_slotToTake_39 (by decide) (fun h7 => ?_) (fun h7 => ?_)
          · refine lv_iconst (v := 0) hx hb d_Md_slotToTake_46 (by decide) ?_
            refine lv_istore_n (lv' := [(3, .int 0), (2, .int 2), (1, .int 1), (0, .ref (bm 0))]) hx hb d_Md_slotToTake_47 rfl hl (by decide) rfl (fun ls hl => ?_)
            refine lv_iload_n hx hb d_Md_slotToTake_48 rfl (lv_at hl 0 rfl) ?_
            refine lv_if_eq (tgt := 56) hx hb d_Md_slotToTake_49 (by decide) (fun _ => ?_) (fun h => absurd h (by decide))
            refine lv_iload_n hx hb d_Md_slotToTake_56 rfl (lv_at hl 2 rfl) ?_
            refine lv_istore_n (lv' := [(1, .int 1), (3, .int 0), (2, .int 2), (0, .ref (bm 0))]) hx hb d_Md_slotToTake_57 rfl hl (by decide) rfl (fun ls hl => ?_)
            refine lv_iinc (v := 3) (k := 2) (lv' := [(2, .int 3), (1, .int 1), (3, .int 0), (0, .ref (bm 0))]) hx hb d_Md_slotToTake_58 hl rfl (by decide) (by decide) rfl (fun ls hl => ?_)
            refine lv_goto (tgt := 4) hx hb d_Md_slotToTake_61 (by decide) ?_
            refine lv_iload_n hx hb d_Md_slotToTake_4 rfl (lv_at hl 0 rfl) ?_
            refine lv_iconst (v := 3) hx hb d_Md_slotToTake_5 (by decide) ?_
            refine lv_icmp_ge (tgt := 64) hx hb d_Md_slotToTake_6 (by decide) (fun _ => ?_) (fun h => absurd h (by decide))
            refine lv_iload_n hx hb d_Md_slotToTake_64 rfl (lv_at hl 1 rfl) ?_
            exact kx_ret_i I rfl hw () (by simp only [f_Md_slotToTake, if_neg h1, if_neg h2, if_neg h3, if_neg h6, if_pos h7]) [0, 1, 2, 3, 4] (by decide) rfl d_Md_slotToTake_65
          · refine lv_iconst (v := 1) hx hb d_Md_slotToTake_42 (by decide) ?_
            refine lv_goto (tgt := 47) hx hb d_Md_slotToTake_43 (by decide) ?_
            refine lv_istore_n (lv' := [(3, .int 1), (2, .int 2), (1, .int 1), (0, .ref (bm 0))]) hx hb d_Md_slotToTake_47 rfl hl (by decide) rfl (fun ls hl => ?_)
            refine lv_iload_n hx hb d_Md_slotToTake_48 rfl (lv_at hl 0 rfl) ?_
            refine lv_if_eq (tgt := 56) hx hb d_Md_slotToTake_49 (by decide) (fun h => absurd h (by decide)) (fun _ => ?_)
            refine lv_iload_n hx hb d_Md_slotToTake_52 rfl (lv_at hl 1 rfl) ?_
            refine lv_goto (tgt := 57) hx hb d_Md_slotToTake_53 (by decide) ?_
            refine lv_istore_n (lv' := [(1, .int 2), (3, .int 1), (2, .int 2), (0, .ref (bm 0))]) hx hb d_Md_slotToTake_57 rfl hl (by decide) rfl (fun ls hl => ?_)
            refine lv_iinc (v := 3) (k := 2) (lv' := [(2, .int 3), (1, .int 2), (3, .int 1), (0, .ref (bm 0))]) hx hb d_Md_slotToTake_58 hl rfl (by decide) (by decide) rfl (fun ls hl => ?_)
            refine lv_goto (tgt := 4) hx hb d_Md_slotToTake_61 (by decide) ?_
            refine lv_iload_n hx hb d_Md_slotToTake_4 rfl (lv_at hl 0 rfl) ?_
            refine lv_iconst (v := 3) hx hb d_Md_slotToTake_5 (by decide) ?_
            refine lv_icmp_ge (tgt := 64) hx hb d_Md_slotToTake_6 (by decide) (fun _ => ?_) (fun h => absurd h (by decide))
            refine lv_iload_n hx hb d_Md_slotToTake_64 rfl (lv_at hl 1 rfl) ?_
            exact kx_ret_i I rfl hw () (by simp only [f_Md_slotToTake, if_neg h1, if_neg h2, if_neg h3, if_neg h6, if_neg h7]) [0, 1, 2, 3, 4] (by decide) rfl d_Md_slotToTake_65
def f_Md_use (mi : kt_I) (y : kt_Ca) (s : Int32) : kt_I × kt_Ca :=
  ((mi.1, mi.2.1, mi.2.2.1, mi.2.2.2.1, mi.2.2.2.2.1, mi.2.2.2.2.2.1, mi.2.2.2.2.2.2.1, mi.2.2.2.2.2.2.2.1, mi.2.2.2.2.2.2.2.2 + 1), (y.1, y.2.1, y.2.2.1, upd y.2.2.2 s.toNatClampNeg (mi.2.2.2.2.2.2.2.2 + 1)))
set_option maxHeartbeats 4000000 in
set_option maxRecDepth 100000 in
theorem c_Md_use (l : Launch) (D : va_G) (cI cZ cO : ClassId) (bm : Nat → Nat) (mi : kt_I) (y : kt_Ca) (s : Int32) (hs : vp_in s 3) : kx_Cv (S := kt_I × kt_Ca) l y_Md_use b_Md_use 2 0 0 0 D (kx_T cI cZ cO) [.ref (bm 0), .int s] [((bm 0), .inr (6, [.int mi.1, .int mi.2.1, .int mi.2.2.1, .ref (bm 1), .ref (bm 2), .ref (bm 3), .ref (bm 4), .ref (bm 5), .ref (bm 6), .ref (bm 7), .ref (bm 8), .ref (bm 9), .int mi.2.2.2.1, .ref (bm 10), .ref (bm 11), .ref (bm 12), .ref (bm 13), .ref (bm 14), .ref (bm 15), .ref (bm 16), .ref (bm 17), .int mi.2.2.2.2.1, .int mi.2.2.2.2.2.1, .int mi.2.2.2.2.2.2.1, .int mi.2.2.2.2.2.2.2.1, .ref (bm 18), .ref (bm 19), .ref (bm 20), .ref (bm 21), .int mi.2.2.2.2.2.2.2.2])), ((bm 18), .inl (cI, 3, .inl y.1)), ((bm 19), .inl (cI, 3, .inl y.2.1)), ((bm 20), .inl (cZ, 3, .inl y.2.2.1)), ((bm 21), .inl (cI, 3, .inl y.2.2.2))] (fun zz => zz = f_Md_use mi y s) (fun zz => [((bm 0), .inr (6, [.int zz.1.1, .int zz.1.2.1, .int zz.1.2.2.1, .ref (bm 1), .ref (bm 2), .ref (bm 3), .ref (bm 4), .ref (bm 5), .ref (bm 6), .ref (bm 7), .ref (bm 8), .ref (bm 9), .int zz.1.2.2.2.1, .ref (bm 10), .ref (bm 11), .ref (bm 12), .ref (bm 13), .ref (bm 14), .ref (bm 15), .ref (bm 16), .ref (bm 17), .int zz.1.2.2.2.2.1, .int zz.1.2.2.2.2.2.1, .int zz.1.2.2.2.2.2.2.1, .int zz.1.2.2.2.2.2.2.2.1, .ref (bm 18), .ref (bm 19), .ref (bm 20), .ref (bm 21), .int zz.1.2.2.2.2.2.2.2.2])), ((bm 18), .inl (cI, 3, .inl zz.2.1)), ((bm 19), .inl (cI, 3, .inl zz.2.2.1)), ((bm 20), .inl (cZ, 3, .inl zz.2.2.2.1)), ((bm 21), .inl (cI, 3, .inl zz.2.2.2.2))]) := by
  refine kx_enter_v (by decide) (Nat.le_of_ble_eq_true rfl) ?_
  intro p_ e_ s_ m_ below_ meth_ c_ ls A_ H I hl hw
  have S := I.1
  have hx := S.1
  have hb := S.2.1
  have hl : lv_has ls 2 [(0, .ref (bm 0)), (1, .int s)] := hl
  refine lv_aload_n hx hb d_Md_use_0 rfl (lv_at hl 0 rfl) ?_
  refine lv_dup hx hb d_Md_use_1 rfl ?_
  refine kx_get S hw fg_Md_122 0 rfl rfl d_Md_use_2 ?_
  refine lv_iconst (v := 1) hx hb d_Md_use_5 (by decide) ?_
  refine lv_iadd hx hb d_Md_use_6 ?_
  refine kx_put S hw fp_Md_122 0 rfl rfl rfl (Nat.le_of_ble_eq_true rfl) d_Md_use_7 (fun H locs hw => ?_)
  have hw : kx_w D (kx_T cI cZ cO) A_ s_ [((bm 0), .inr (6, [.int mi.1, .int mi.2.1, .int mi.2.2.1, .ref (bm 1), .ref (bm 2), .ref (bm 3), .ref (bm 4), .ref (bm 5), .ref (bm 6), .ref (bm 7), .ref (bm 8), .ref (bm 9), .int mi.2.2.2.1, .ref (bm 10), .ref (bm 11), .ref (bm 12), .ref (bm 13), .ref (bm 14), .ref (bm 15), .ref (bm 16), .ref (bm 17), .int mi.2.2.2.2.1, .int mi.2.2.2.2.2.1, .int mi.2.2.2.2.2.2.1, .int mi.2.2.2.2.2.2.2.1, .ref (bm 18), .ref (bm 19), .ref (bm 20), .ref (bm 21), .int (mi.2.2.2.2.2.2.2.2 + 1)])), ((bm 18), .inl (cI, 3, .inl y.1)), ((bm 19), .inl (cI, 3, .inl y.2.1)), ((bm 20), .inl (cZ, 3, .inl y.2.2.1)), ((bm 21), .inl (cI, 3, .inl y.2.2.2))] H locs := hw
  refine lv_aload_n hx hb d_Md_use_10 rfl (lv_at hl 0 rfl) ?_
  refine kx_get S hw fg_Md_71 0 rfl rfl d_Md_use_11 ?_
  refine lv_iload_n hx hb d_Md_use_14 rfl (lv_at hl 1 rfl) ?_
  refine lv_aload_n hx hb d_Md_use_15 rfl (lv_at hl 0 rfl) ?_
  refine kx_get S hw fg_Md_122 0 rfl rfl d_Md_use_16 ?_
  refine kx_iast S hw 4 0 rfl rfl (j := s.toNatClampNeg) rfl (hs) d_Md_use_19 (fun H locs hw => ?_)
  have hw : kx_w D (kx_T cI cZ cO) A_ s_ [((bm 0), .inr (6, [.int mi.1, .int mi.2.1, .int mi.2.2.1, .ref (bm 1), .ref (bm 2), .ref (bm 3), .ref (bm 4), .ref (bm 5), .ref (bm 6), .ref (bm 7), .ref (bm 8), .ref (bm 9), .int mi.2.2.2.1, .ref (bm 10), .ref (bm 11), .ref (bm 12), .ref (bm 13), .ref (bm 14), .ref (bm 15), .ref (bm 16), .ref (bm 17), .int mi.2.2.2.2.1, .int mi.2.2.2.2.2.1, .int mi.2.2.2.2.2.2.1, .int mi.2.2.2.2.2.2.2.1, .ref (bm 18), .ref (bm 19), .ref (bm 20), .ref (bm 21), .int (mi.2.2.2.2.2.2.2.2 + 1)])), ((bm 18), .inl (cI, 3, .inl y.1)), ((bm 19), .inl (cI, 3, .inl y.2.1)), ((bm 20), .inl (cZ, 3, .inl y.2.2.1)), ((bm 21), .inl (cI, 3, .inl (upd y.2.2.2 s.toNatClampNeg (mi.2.2.2.2.2.2.2.2 + 1))))] H locs := hw
  exact kx_ret_v I rfl hw ((mi.1, mi.2.1, mi.2.2.1, mi.2.2.2.1, mi.2.2.2.2.1, mi.2.2.2.2.2.1, mi.2.2.2.2.2.2.1, mi.2.2.2.2.2.2.2.1, mi.2.2.2.2.2.2.2.2 + 1), (y.1, y.2.1, y.2.2.1, upd y.2.2.2 s.toNatClampNeg (mi.2.2.2.2.2.2.2.2 + 1))) (by simp only [f_Md_use]) [0, 1, 2, 3, 4] (by decide) rfl d_Md_use_20
def f_Md_fill (mi : kt_I) (w : kt_W) (y : kt_Ca) (s : Int32) (u : Int32) : kt_I × kt_W × kt_Ca :=
  match f_Md_use mi (upd y.1 s.toNatClampNeg (w.2.1 u.toNatClampNeg), upd y.2.1 s.toNatClampNeg (w.2.2.1 u.toNatClampNeg), upd y.2.2.1 s.toNatClampNeg 1, y.2.2.2) s with
  | (mi1, y1) => match f_Md_end mi1 w u 2 0 with
    | w2 => (mi1, w2, y1)
set_option maxHeartbeats 4000000 in
set_option maxRecDepth 100000 in
theorem c_Md_fill (l : Launch) (D : va_G) (cI cZ cO : ClassId) (bm : Nat → Nat) (mi : kt_I) (w : kt_W) (y : kt_Ca) (s : Int32) (u : Int32) (hs : vp_in s 3) (hu : vp_in u 4) : kx_Cv (S := kt_I × kt_W × kt_Ca) l y_Md_fill b_Md_fill 3 1 0 0 D (kx_T cI cZ cO) [.ref (bm 0), .int s, .int u] [((bm 0), .inr (6, [.int mi.1, .int mi.2.1, .int mi.2.2.1, .ref (bm 1), .ref (bm 2), .ref (bm 3), .ref (bm 4), .ref (bm 5), .ref (bm 6), .ref (bm 7), .ref (bm 8), .ref (bm 9), .int mi.2.2.2.1, .ref (bm 10), .ref (bm 11), .ref (bm 12), .ref (bm 13), .ref (bm 14), .ref (bm 15), .ref (bm 16), .ref (bm 17), .int mi.2.2.2.2.1, .int mi.2.2.2.2.2.1, .int mi.2.2.2.2.2.2.1, .int mi.2.2.2.2.2.2.2.1, .ref (bm 18), .ref (bm 19), .ref (bm 20), .ref (bm 21), .int mi.2.2.2.2.2.2.2.2])), ((bm 1), .inl (cI, 4, .inl w.1)), ((bm 2), .inl (cI, 4, .inl w.2.1)), ((bm 3), .inl (cI, 4, .inl w.2.2.1)), ((bm 4), .inl (cI, 4, .inl w.2.2.2.1)), ((bm 5), .inl (cI, 4, .inl w.2.2.2.2.1)), ((bm 6), .inl (cI, 4, .inl w.2.2.2.2.2.1)), ((bm 7), .inl (cI, 4, .inl w.2.2.2.2.2.2)), ((bm 18), .inl (cI, 3, .inl y.1)), ((bm 19), .inl (cI, 3, .inl y.2.1)), ((bm 20), .inl (cZ, 3, .inl y.2.2.1)), ((bm 21), .inl (cI, 3, .inl y.2.2.2))] (fun zz => zz = f_Md_fill mi w y s u) (fun zz => [((bm 0), .inr (6, [.int zz.1.1, .int zz.1.2.1, .int zz.1.2.2.1, .ref (bm 1), .ref (bm 2), .ref (bm 3), .ref (bm 4), .ref (bm 5), .ref (bm 6), .ref (bm 7), .ref (bm 8), .ref (bm 9), .int zz.1.2.2.2.1, .ref (bm 10), .ref (bm 11), .ref (bm 12), .ref (bm 13), .ref (bm 14), .ref (bm 15), .ref (bm 16), .ref (bm 17), .int zz.1.2.2.2.2.1, .int zz.1.2.2.2.2.2.1, .int zz.1.2.2.2.2.2.2.1, .int zz.1.2.2.2.2.2.2.2.1, .ref (bm 18), .ref (bm 19), .ref (bm 20), .ref (bm 21), .int zz.1.2.2.2.2.2.2.2.2])), ((bm 1), .inl (cI, 4, .inl zz.2.1.1)), ((bm 2), .inl (cI, 4, .inl zz.2.1.2.1)), ((bm 3), .inl (cI, 4, .inl zz.2.1.2.2.1)), ((bm 4), .inl (cI, 4, .inl zz.2.1.2.2.2.1)), ((bm 5), .inl (cI, 4, .inl zz.2.1.2.2.2.2.1)), ((bm 6), .inl (cI, 4, .inl zz.2.1.2.2.2.2.2.1)), ((bm 7), .inl (cI, 4, .inl zz.2.1.2.2.2.2.2.2)), ((bm 18), .inl (cI, 3, .inl zz.2.2.1)), ((bm 19), .inl (cI, 3, .inl zz.2.2.2.1)), ((bm 20), .inl (cZ, 3, .inl zz.2.2.2.2.1)), ((bm 21), .inl (cI, 3, .inl zz.2.2.2.2.2))]) := by
  refine kx_enter_v (by decide) (Nat.le_of_ble_eq_true rfl) ?_
  intro p_ e_ s_ m_ below_ meth_ c_ ls A_ H I hl hw
  have S := I.1
  have hx := S.1
  have hb := S.2.1
  have hl : lv_has ls 3 [(0, .ref (bm 0)), (1, .int s), (2, .int u)] := hl
  refine lv_aload_n hx hb d_Md_fill_0 rfl (lv_at hl 0 rfl) ?_
  refine kx_get S hw fg_Md_62 0 rfl rfl d_Md_fill_1 ?_
  refine lv_iload_n hx hb d_Md_fill_4 rfl (lv_at hl 1 rfl) ?_
  refine lv_aload_n hx hb d_Md_fill_5 rfl (lv_at hl 0 rfl) ?_
  refine kx_get S hw fg_Md_13 0 rfl rfl d_Md_fill_6 ?_
  refine lv_iload_n hx hb d_Md_fill_9 rfl (lv_at hl 2 rfl) ?_
  refine kx_iald S hw 2 0 rfl rfl (j := u.toNatClampNeg) rfl (hu) d_Md_fill_10 ?_
  refine kx_iast S hw 8 0 rfl rfl (j := s.toNatClampNeg) rfl (hs) d_Md_fill_11 (fun H locs hw => ?_)
  have hw : kx_w D (kx_T cI cZ cO) A_ s_ [((bm 0), .inr (6, [.int mi.1, .int mi.2.1, .int mi.2.2.1, .ref (bm 1), .ref (bm 2), .ref (bm 3), .ref (bm 4), .ref (bm 5), .ref (bm 6), .ref (bm 7), .ref (bm 8), .ref (bm 9), .int mi.2.2.2.1, .ref (bm 10), .ref (bm 11), .ref (bm 12), .ref (bm 13), .ref (bm 14), .ref (bm 15), .ref (bm 16), .ref (bm 17), .int mi.2.2.2.2.1, .int mi.2.2.2.2.2.1, .int mi.2.2.2.2.2.2.1, .int mi.2.2.2.2.2.2.2.1, .ref (bm 18), .ref (bm 19), .ref (bm 20), .ref (bm 21), .int mi.2.2.2.2.2.2.2.2])), ((bm 1), .inl (cI, 4, .inl w.1)), ((bm 2), .inl (cI, 4, .inl w.2.1)), ((bm 3), .inl (cI, 4, .inl w.2.2.1)), ((bm 4), .inl (cI, 4, .inl w.2.2.2.1)), ((bm 5), .inl (cI, 4, .inl w.2.2.2.2.1)), ((bm 6), .inl (cI, 4, .inl w.2.2.2.2.2.1)), ((bm 7), .inl (cI, 4, .inl w.2.2.2.2.2.2)), ((bm 18), .inl (cI, 3, .inl (upd y.1 s.toNatClampNeg (w.2.1 u.toNatClampNeg)))), ((bm 19), .inl (cI, 3, .inl y.2.1)), ((bm 20), .inl (cZ, 3, .inl y.2.2.1)), ((bm 21), .inl (cI, 3, .inl y.2.2.2))] H locs := hw
  refine lv_aload_n hx hb d_Md_fill_12 rfl (lv_at hl 0 rfl) ?_
  refine kx_get S hw fg_Md_65 0 rfl rfl d_Md_fill_13 ?_
  refine lv_iload_n hx hb d_Md_fill_16 rfl (lv_at hl 1 rfl) ?_
  refine lv_aload_n hx hb d_Md_fill_17 rfl (lv_at hl 0 rfl) ?_
  refine kx_get S hw fg_Md_16 0 rfl rfl d_Md_fill_18 ?_
  refine lv_iload_n hx hb d_Md_fill_21 rfl (lv_at hl 2 rfl) ?_
  refine kx_iald S hw 3 0 rfl rfl (j := u.toNatClampNeg) rfl (hu) d_Md_fill_22 ?_
  refine kx_iast S hw 9 0 rfl rfl (j := s.toNatClampNeg) rfl (hs) d_Md_fill_23 (fun H locs hw => ?_)
  have hw : kx_w D (kx_T cI cZ cO) A_ s_ [((bm 0), .inr (6, [.int mi.1, .int mi.2.1, .int mi.2.2.1, .ref (bm 1), .ref (bm 2), .ref (bm 3), .ref (bm 4), .ref (bm 5), .ref (bm 6), .ref (bm 7), .ref (bm 8), .ref (bm 9), .int mi.2.2.2.1, .ref (bm 10), .ref (bm 11), .ref (bm 12), .ref (bm 13), .ref (bm 14), .ref (bm 15), .ref (bm 16), .ref (bm 17), .int mi.2.2.2.2.1, .int mi.2.2.2.2.2.1, .int mi.2.2.2.2.2.2.1, .int mi.2.2.2.2.2.2.2.1, .ref (bm 18), .ref (bm 19), .ref (bm 20), .ref (bm 21), .int mi.2.2.2.2.2.2.2.2])), ((bm 1), .inl (cI, 4, .inl w.1)), ((bm 2), .inl (cI, 4, .inl w.2.1)), ((bm 3), .inl (cI, 4, .inl w.2.2.1)), ((bm 4), .inl (cI, 4, .inl w.2.2.2.1)), ((bm 5), .inl (cI, 4, .inl w.2.2.2.2.1)), ((bm 6), .inl (cI, 4, .inl w.2.2.2.2.2.1)), ((bm 7), .inl (cI, 4, .inl w.2.2.2.2.2.2)), ((bm 18), .inl (cI, 3, .inl (upd y.1 s.toNatClampNeg (w.2.1 u.toNatClampNeg)))), ((bm 19), .inl (cI, 3, .inl (upd y.2.1 s.toNatClampNeg (w.2.2.1 u.toNatClampNeg)))), ((bm 20), .inl (cZ, 3, .inl y.2.2.1)), ((bm 21), .inl (cI, 3, .inl y.2.2.2))] H locs := hw
  refine lv_aload_n hx hb d_Md_fill_24 rfl (lv_at hl 0 rfl) ?_
  refine kx_get S hw fg_Md_68 0 rfl rfl d_Md_fill_25 ?_
  refine lv_iload_n hx hb d_Md_fill_28 rfl (lv_at hl 1 rfl) ?_
  refine lv_iconst (v := 1) hx hb d_Md_fill_29 (by decide) ?_
  refine kx_zast S hw 10 1 rfl rfl (j := s.toNatClampNeg) rfl (by decide) (hs) d_Md_fill_30 (fun H locs hw => ?_)
  have hw : kx_w D (kx_T cI cZ cO) A_ s_ [((bm 0), .inr (6, [.int mi.1, .int mi.2.1, .int mi.2.2.1, .ref (bm 1), .ref (bm 2), .ref (bm 3), .ref (bm 4), .ref (bm 5), .ref (bm 6), .ref (bm 7), .ref (bm 8), .ref (bm 9), .int mi.2.2.2.1, .ref (bm 10), .ref (bm 11), .ref (bm 12), .ref (bm 13), .ref (bm 14), .ref (bm 15), .ref (bm 16), .ref (bm 17), .int mi.2.2.2.2.1, .int mi.2.2.2.2.2.1, .int mi.2.2.2.2.2.2.1, .int mi.2.2.2.2.2.2.2.1, .ref (bm 18), .ref (bm 19), .ref (bm 20), .ref (bm 21), .int mi.2.2.2.2.2.2.2.2])), ((bm 1), .inl (cI, 4, .inl w.1)), ((bm 2), .inl (cI, 4, .inl w.2.1)), ((bm 3), .inl (cI, 4, .inl w.2.2.1)), ((bm 4), .inl (cI, 4, .inl w.2.2.2.1)), ((bm 5), .inl (cI, 4, .inl w.2.2.2.2.1)), ((bm 6), .inl (cI, 4, .inl w.2.2.2.2.2.1)), ((bm 7), .inl (cI, 4, .inl w.2.2.2.2.2.2)), ((bm 18), .inl (cI, 3, .inl (upd y.1 s.toNatClampNeg (w.2.1 u.toNatClampNeg)))), ((bm 19), .inl (cI, 3, .inl (upd y.2.1 s.toNatClampNeg (w.2.2.1 u.toNatClampNeg)))), ((bm 20), .inl (cZ, 3, .inl (upd y.2.2.1 s.toNatClampNeg 1))), ((bm 21), .inl (cI, 3, .inl y.2.2.2))] H locs := hw
  refine lv_aload_n hx hb d_Md_fill_31 rfl (lv_at hl 0 rfl) ?_
  refine lv_iload_n hx hb d_Md_fill_32 rfl (lv_at hl 1 rfl) ?_
  refine kx_call_v (wc := [((bm 0), .inr (6, [.int mi.1, .int mi.2.1, .int mi.2.2.1, .ref (bm 1), .ref (bm 2), .ref (bm 3), .ref (bm 4), .ref (bm 5), .ref (bm 6), .ref (bm 7), .ref (bm 8), .ref (bm 9), .int mi.2.2.2.1, .ref (bm 10), .ref (bm 11), .ref (bm 12), .ref (bm 13), .ref (bm 14), .ref (bm 15), .ref (bm 16), .ref (bm 17), .int mi.2.2.2.2.1, .int mi.2.2.2.2.2.1, .int mi.2.2.2.2.2.2.1, .int mi.2.2.2.2.2.2.2.1, .ref (bm 18), .ref (bm 19), .ref (bm 20), .ref (bm 21), .int mi.2.2.2.2.2.2.2.2])), ((bm 18), .inl (cI, 3, .inl (upd y.1 s.toNatClampNeg (w.2.1 u.toNatClampNeg)))), ((bm 19), .inl (cI, 3, .inl (upd y.2.1 s.toNatClampNeg (w.2.2.1 u.toNatClampNeg)))), ((bm 20), .inl (cZ, 3, .inl (upd y.2.2.1 s.toNatClampNeg 1))), ((bm 21), .inl (cI, 3, .inl y.2.2.2))]) (wr := [((bm 1), .inl (cI, 4, .inl w.1)), ((bm 2), .inl (cI, 4, .inl w.2.1)), ((bm 3), .inl (cI, 4, .inl w.2.2.1)), ((bm 4), .inl (cI, 4, .inl w.2.2.2.1)), ((bm 5), .inl (cI, 4, .inl w.2.2.2.2.1)), ((bm 6), .inl (cI, 4, .inl w.2.2.2.2.2.1)), ((bm 7), .inl (cI, 4, .inl w.2.2.2.2.2.2))]) (rest := []) hw [0, 8, 9, 10, 11] [1, 2, 3, 4, 5, 6, 7] rfl rfl (by decide) (by decide) (kx_runV S hw fc_Md_125 rfl 0 rfl [0, 8, 9, 10, 11] (by decide) rfl (c_Md_use l D cI cZ cO bm mi (upd y.1 s.toNatClampNeg (w.2.1 u.toNatClampNeg), upd y.2.1 s.toNatClampNeg (w.2.2.1 u.toNatClampNeg), upd y.2.2.1 s.toNatClampNeg 1, y.2.2.2) s (hs) H.size) rfl hl.1 rfl (Nat.le_of_ble_eq_true rfl) d_Md_fill_33 (by decide) (by decide)) (fun u1 H locs hp1 hw => ?_)
  obtain ⟨mi1, y1⟩ := u1
  have hw : kx_w D (kx_T cI cZ cO) A_ s_ [((bm 1), .inl (cI, 4, .inl w.1)), ((bm 2), .inl (cI, 4, .inl w.2.1)), ((bm 3), .inl (cI, 4, .inl w.2.2.1)), ((bm 4), .inl (cI, 4, .inl w.2.2.2.1)), ((bm 5), .inl (cI, 4, .inl w.2.2.2.2.1)), ((bm 6), .inl (cI, 4, .inl w.2.2.2.2.2.1)), ((bm 7), .inl (cI, 4, .inl w.2.2.2.2.2.2)), ((bm 0), .inr (6, [.int mi1.1, .int mi1.2.1, .int mi1.2.2.1, .ref (bm 1), .ref (bm 2), .ref (bm 3), .ref (bm 4), .ref (bm 5), .ref (bm 6), .ref (bm 7), .ref (bm 8), .ref (bm 9), .int mi1.2.2.2.1, .ref (bm 10), .ref (bm 11), .ref (bm 12), .ref (bm 13), .ref (bm 14), .ref (bm 15), .ref (bm 16), .ref (bm 17), .int mi1.2.2.2.2.1, .int mi1.2.2.2.2.2.1, .int mi1.2.2.2.2.2.2.1, .int mi1.2.2.2.2.2.2.2.1, .ref (bm 18), .ref (bm 19), .ref (bm 20), .ref (bm 21), .int mi1.2.2.2.2.2.2.2.2])), ((bm 18), .inl (cI, 3, .inl y1.1)), ((bm 19), .inl (cI, 3, .inl y1.2.1)), ((bm 20), .inl (cZ, 3, .inl y1.2.2.1)), ((bm 21), .inl (cI, 3, .inl y1.2.2.2))] H locs := hw
  refine lv_aload_n hx hb d_Md_fill_36 rfl (lv_at hl 0 rfl) ?_
  refine lv_iload_n hx hb d_Md_fill_37 rfl (lv_at hl 2 rfl) ?_
  refine lv_iconst (v := 2) hx hb d_Md_fill_38 (by decide) ?_
  refine lv_iconst (v := 0) hx hb d_Md_fill_39 (by decide) ?_
  refine kx_call_v (wc := [((bm 0), .inr (6, [.int mi1.1, .int mi1.2.1, .int mi1.2.2.1, .ref (bm 1), .ref (bm 2), .ref (bm 3), .ref (bm 4), .ref (bm 5), .ref (bm 6), .ref (bm 7), .ref (bm 8), .ref (bm 9), .int mi1.2.2.2.1, .ref (bm 10), .ref (bm 11), .ref (bm 12), .ref (bm 13), .ref (bm 14), .ref (bm 15), .ref (bm 16), .ref (bm 17), .int mi1.2.2.2.2.1, .int mi1.2.2.2.2.2.1, .int mi1.2.2.2.2.2.2.1, .int mi1.2.2.2.2.2.2.2.1, .ref (bm 18), .ref (bm 19), .ref (bm 20), .ref (bm 21), .int mi1.2.2.2.2.2.2.2.2])), ((bm 1), .inl (cI, 4, .inl w.1)), ((bm 2), .inl (cI, 4, .inl w.2.1)), ((bm 3), .inl (cI, 4, .inl w.2.2.1)), ((bm 4), .inl (cI, 4, .inl w.2.2.2.1)), ((bm 5), .inl (cI, 4, .inl w.2.2.2.2.1)), ((bm 6), .inl (cI, 4, .inl w.2.2.2.2.2.1)), ((bm 7), .inl (cI, 4, .inl w.2.2.2.2.2.2))]) (wr := [((bm 18), .inl (cI, 3, .inl y1.1)), ((bm 19), .inl (cI, 3, .inl y1.2.1)), ((bm 20), .inl (cZ, 3, .inl y1.2.2.1)), ((bm 21), .inl (cI, 3, .inl y1.2.2.2))]) (rest := []) hw [7, 0, 1, 2, 3, 4, 5, 6] [8, 9, 10, 11] rfl rfl (by decide) (by decide) (kx_runV S hw fc_Md_128 rfl 7 rfl [7, 0, 1, 2, 3, 4, 5, 6] (by decide) rfl (c_Md_end l D cI cZ cO bm mi1 w u 2 0 (hu) H.size) rfl hl.1 rfl (Nat.le_of_ble_eq_true rfl) d_Md_fill_40 (by decide) (by decide)) (fun u2 H locs hp2 hw => ?_)
  obtain ⟨w2, rfl⟩ : ∃ z, z = u2 := ⟨_, rfl⟩
  have hw : kx_w D (kx_T cI cZ cO) A_ s_ [((bm 18), .inl (cI, 3, .inl y1.1)), ((bm 19), .inl (cI, 3, .inl y1.2.1)), ((bm 20), .inl (cZ, 3, .inl y1.2.2.1)), ((bm 21), .inl (cI, 3, .inl y1.2.2.2)), ((bm 0), .inr (6, [.int mi1.1, .int mi1.2.1, .int mi1.2.2.1, .ref (bm 1), .ref (bm 2), .ref (bm 3), .ref (bm 4), .ref (bm 5), .ref (bm 6), .ref (bm 7), .ref (bm 8), .ref (bm 9), .int mi1.2.2.2.1, .ref (bm 10), .ref (bm 11), .ref (bm 12), .ref (bm 13), .ref (bm 14), .ref (bm 15), .ref (bm 16), .ref (bm 17), .int mi1.2.2.2.2.1, .int mi1.2.2.2.2.2.1, .int mi1.2.2.2.2.2.2.1, .int mi1.2.2.2.2.2.2.2.1, .ref (bm 18), .ref (bm 19), .ref (bm 20), .ref (bm 21), .int mi1.2.2.2.2.2.2.2.2])), ((bm 1), .inl (cI, 4, .inl w2.1)), ((bm 2), .inl (cI, 4, .inl w2.2.1)), ((bm 3), .inl (cI, 4, .inl w2.2.2.1)), ((bm 4), .inl (cI, 4, .inl w2.2.2.2.1)), ((bm 5), .inl (cI, 4, .inl w2.2.2.2.2.1)), ((bm 6), .inl (cI, 4, .inl w2.2.2.2.2.2.1)), ((bm 7), .inl (cI, 4, .inl w2.2.2.2.2.2.2))] H locs := hw
  exact kx_ret_v I rfl hw (mi1, w2, y1) (by simp only [f_Md_fill, ← hp1, ← hp2]) [4, 5, 6, 7, 8, 9, 10, 11, 0, 1, 2, 3] (by decide) rfl d_Md_fill_43
