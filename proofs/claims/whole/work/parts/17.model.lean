theorem mm_446 : Cond.fieldLink "RebornDriversModel" 22 "RebornDriversModel" "state" "[I" ∈ kx_tbl := List.mem_filter.mpr ⟨List.mem_append_right _ (List.mem_of_getElem? (i := 446) (by decide +kernel)), by decide +kernel⟩
theorem mm_441 : Cond.fieldLink "RebornDriversModel" 78 "RebornDriversModel" "begun" "I" ∈ kx_tbl := List.mem_filter.mpr ⟨List.mem_append_right _ (List.mem_of_getElem? (i := 441) (by decide +kernel)), by decide +kernel⟩
theorem mm_442 : Cond.fieldLink "RebornDriversModel" 7 "RebornDriversModel" "kind" "[I" ∈ kx_tbl := List.mem_filter.mpr ⟨List.mem_append_right _ (List.mem_of_getElem? (i := 442) (by decide +kernel)), by decide +kernel⟩
theorem mm_443 : Cond.fieldLink "RebornDriversModel" 13 "RebornDriversModel" "block" "[I" ∈ kx_tbl := List.mem_filter.mpr ⟨List.mem_append_right _ (List.mem_of_getElem? (i := 443) (by decide +kernel)), by decide +kernel⟩
theorem mm_444 : Cond.fieldLink "RebornDriversModel" 16 "RebornDriversModel" "number" "[I" ∈ kx_tbl := List.mem_filter.mpr ⟨List.mem_append_right _ (List.mem_of_getElem? (i := 444) (by decide +kernel)), by decide +kernel⟩
theorem mm_445 : Cond.fieldLink "RebornDriversModel" 19 "RebornDriversModel" "order" "[I" ∈ kx_tbl := List.mem_filter.mpr ⟨List.mem_append_right _ (List.mem_of_getElem? (i := 445) (by decide +kernel)), by decide +kernel⟩
theorem mm_447 : Cond.fieldLink "RebornDriversModel" 25 "RebornDriversModel" "result" "[I" ∈ kx_tbl := List.mem_filter.mpr ⟨List.mem_append_right _ (List.mem_of_getElem? (i := 447) (by decide +kernel)), by decide +kernel⟩
theorem mm_448 : Cond.fieldLink "RebornDriversModel" 28 "RebornDriversModel" "flushes" "[I" ∈ kx_tbl := List.mem_filter.mpr ⟨List.mem_append_right _ (List.mem_of_getElem? (i := 448) (by decide +kernel)), by decide +kernel⟩
theorem mm_537 : Cond.code ⟨"RebornDriversModel", "begin", "(IIII)Z"⟩ prog_8_method_2_code 5 (some .boolean) ∈ kx_tbl := List.mem_filter.mpr ⟨List.mem_append_right _ (List.mem_of_getElem? (i := 537) (by decide +kernel)), by decide +kernel⟩
theorem mm_8 : Cond.initialized "RebornDriversModel" ∈ kx_tbl := List.mem_filter.mpr ⟨List.mem_append_right _ (List.mem_of_getElem? (i := 8) (by decide +kernel)), by decide +kernel⟩
theorem mm_534 : Cond.methodLink "RebornDriversModel" 81 ⟨"RebornDriversModel", "begin", "(IIII)Z"⟩ ∈ kx_tbl := List.mem_filter.mpr ⟨List.mem_append_right _ (List.mem_of_getElem? (i := 534) (by decide +kernel)), by decide +kernel⟩
theorem mm_536 : Cond.instanceMethod ⟨"RebornDriversModel", "begin", "(IIII)Z"⟩ ∈ kx_tbl := List.mem_filter.mpr ⟨List.mem_append_right _ (List.mem_of_getElem? (i := 536) (by decide +kernel)), by decide +kernel⟩
theorem mm_581 : Cond.code ⟨"RebornDriversModel", "stands", "(II)Z"⟩ prog_8_method_7_code 3 (some .boolean) ∈ kx_tbl := List.mem_filter.mpr ⟨List.mem_append_right _ (List.mem_of_getElem? (i := 581) (by decide +kernel)), by decide +kernel⟩
theorem mm_578 : Cond.methodLink "RebornDriversModel" 85 ⟨"RebornDriversModel", "stands", "(II)Z"⟩ ∈ kx_tbl := List.mem_filter.mpr ⟨List.mem_append_right _ (List.mem_of_getElem? (i := 578) (by decide +kernel)), by decide +kernel⟩
theorem mm_580 : Cond.instanceMethod ⟨"RebornDriversModel", "stands", "(II)Z"⟩ ∈ kx_tbl := List.mem_filter.mpr ⟨List.mem_append_right _ (List.mem_of_getElem? (i := 580) (by decide +kernel)), by decide +kernel⟩
theorem mm_449 : Cond.fieldLink "RebornDriversModel" 31 "RebornDriversModel" "device" "[I" ∈ kx_tbl := List.mem_filter.mpr ⟨List.mem_append_right _ (List.mem_of_getElem? (i := 449) (by decide +kernel)), by decide +kernel⟩
theorem mm_464 : Cond.fieldLink "RebornDriversModel" 62 "RebornDriversModel" "held" "[I" ∈ kx_tbl := List.mem_filter.mpr ⟨List.mem_append_right _ (List.mem_of_getElem? (i := 464) (by decide +kernel)), by decide +kernel⟩
theorem mm_466 : Cond.fieldLink "RebornDriversModel" 68 "RebornDriversModel" "dirty" "[Z" ∈ kx_tbl := List.mem_filter.mpr ⟨List.mem_append_right _ (List.mem_of_getElem? (i := 466) (by decide +kernel)), by decide +kernel⟩
theorem mm_465 : Cond.fieldLink "RebornDriversModel" 65 "RebornDriversModel" "value" "[I" ∈ kx_tbl := List.mem_filter.mpr ⟨List.mem_append_right _ (List.mem_of_getElem? (i := 465) (by decide +kernel)), by decide +kernel⟩
theorem mm_451 : Cond.fieldLink "RebornDriversModel" 111 "RebornDriversModel" "put" "I" ∈ kx_tbl := List.mem_filter.mpr ⟨List.mem_append_right _ (List.mem_of_getElem? (i := 451) (by decide +kernel)), by decide +kernel⟩
theorem mm_450 : Cond.fieldLink "RebornDriversModel" 34 "RebornDriversModel" "output" "[I" ∈ kx_tbl := List.mem_filter.mpr ⟨List.mem_append_right _ (List.mem_of_getElem? (i := 450) (by decide +kernel)), by decide +kernel⟩
theorem mm_452 : Cond.fieldLink "RebornDriversModel" 37 "RebornDriversModel" "endpoint" "[I" ∈ kx_tbl := List.mem_filter.mpr ⟨List.mem_append_right _ (List.mem_of_getElem? (i := 452) (by decide +kernel)), by decide +kernel⟩
theorem mm_453 : Cond.fieldLink "RebornDriversModel" 40 "RebornDriversModel" "health" "[I" ∈ kx_tbl := List.mem_filter.mpr ⟨List.mem_append_right _ (List.mem_of_getElem? (i := 453) (by decide +kernel)), by decide +kernel⟩
theorem mm_455 : Cond.fieldLink "RebornDriversModel" 46 "RebornDriversModel" "stage" "[I" ∈ kx_tbl := List.mem_filter.mpr ⟨List.mem_append_right _ (List.mem_of_getElem? (i := 455) (by decide +kernel)), by decide +kernel⟩
theorem mm_456 : Cond.fieldLink "RebornDriversModel" 49 "RebornDriversModel" "refusals" "[I" ∈ kx_tbl := List.mem_filter.mpr ⟨List.mem_append_right _ (List.mem_of_getElem? (i := 456) (by decide +kernel)), by decide +kernel⟩
theorem mm_457 : Cond.fieldLink "RebornDriversModel" 52 "RebornDriversModel" "silent" "[Z" ∈ kx_tbl := List.mem_filter.mpr ⟨List.mem_append_right _ (List.mem_of_getElem? (i := 457) (by decide +kernel)), by decide +kernel⟩
theorem mm_458 : Cond.fieldLink "RebornDriversModel" 56 "RebornDriversModel" "request" "[I" ∈ kx_tbl := List.mem_filter.mpr ⟨List.mem_append_right _ (List.mem_of_getElem? (i := 458) (by decide +kernel)), by decide +kernel⟩
theorem mm_440 : Cond.fieldLink "RebornDriversModel" 89 "RebornDriversModel" "now" "I" ∈ kx_tbl := List.mem_filter.mpr ⟨List.mem_append_right _ (List.mem_of_getElem? (i := 440) (by decide +kernel)), by decide +kernel⟩
theorem mm_454 : Cond.fieldLink "RebornDriversModel" 43 "RebornDriversModel" "bad" "[I" ∈ kx_tbl := List.mem_filter.mpr ⟨List.mem_append_right _ (List.mem_of_getElem? (i := 454) (by decide +kernel)), by decide +kernel⟩
theorem fg_Md_22 : kx_f "RebornDriversModel" 22 6 7 := ⟨R_Md, F_Md, 30, rfl, by decide, in_Md, Or.inl mm_446⟩
theorem fg_Md_78 : kx_f "RebornDriversModel" 78 6 2 := ⟨R_Md, F_Md, 30, rfl, by decide, in_Md, Or.inl mm_441⟩
theorem fp_Md_78 : kx_q "RebornDriversModel" 78 6 2 (.int) := ⟨R_Md, F_Md, 30, t_Md, rfl, by decide, in_Md, Or.inl mm_441, t_Md_ok, n_Md, rfl, by decide +kernel⟩
theorem fg_Md_7 : kx_f "RebornDriversModel" 7 6 3 := ⟨R_Md, F_Md, 30, rfl, by decide, in_Md, Or.inl mm_442⟩
theorem fg_Md_13 : kx_f "RebornDriversModel" 13 6 4 := ⟨R_Md, F_Md, 30, rfl, by decide, in_Md, Or.inl mm_443⟩
theorem fg_Md_16 : kx_f "RebornDriversModel" 16 6 5 := ⟨R_Md, F_Md, 30, rfl, by decide, in_Md, Or.inl mm_444⟩
theorem fg_Md_19 : kx_f "RebornDriversModel" 19 6 6 := ⟨R_Md, F_Md, 30, rfl, by decide, in_Md, Or.inl mm_445⟩
theorem fg_Md_25 : kx_f "RebornDriversModel" 25 6 8 := ⟨R_Md, F_Md, 30, rfl, by decide, in_Md, Or.inl mm_447⟩
theorem fg_Md_28 : kx_f "RebornDriversModel" 28 6 9 := ⟨R_Md, F_Md, 30, rfl, by decide, in_Md, Or.inl mm_448⟩
theorem sel_Md_begin : Cond.selects "RebornDriversModel" y_Md_begin y_Md_begin ∈ kx_tbl := List.mem_filter.mpr ⟨List.mem_append_left _ (by decide +kernel), by decide +kernel⟩
theorem fc_Md_81 : kx_m "RebornDriversModel" 81 y_Md_begin b_Md_begin 5 (some .boolean) 4 ∧ Cond.instanceMethod y_Md_begin ∈ kx_tbl ∧ Cond.selects "RebornDriversModel" y_Md_begin y_Md_begin ∈ kx_tbl := ⟨⟨mm_537, mm_8, by decide +kernel, Or.inl mm_534⟩, mm_536, sel_Md_begin⟩
theorem sel_Md_stands : Cond.selects "RebornDriversModel" y_Md_stands y_Md_stands ∈ kx_tbl := List.mem_filter.mpr ⟨List.mem_append_left _ (by decide +kernel), by decide +kernel⟩
theorem fc_Md_85 : kx_m "RebornDriversModel" 85 y_Md_stands b_Md_stands 3 (some .boolean) 2 ∧ Cond.instanceMethod y_Md_stands ∈ kx_tbl ∧ Cond.selects "RebornDriversModel" y_Md_stands y_Md_stands ∈ kx_tbl := ⟨⟨mm_581, mm_8, by decide +kernel, Or.inl mm_578⟩, mm_580, sel_Md_stands⟩
theorem fg_Md_31 : kx_f "RebornDriversModel" 31 6 10 := ⟨R_Md, F_Md, 30, rfl, by decide, in_Md, Or.inl mm_449⟩
theorem fg_Md_62 : kx_f "RebornDriversModel" 62 6 25 := ⟨R_Md, F_Md, 30, rfl, by decide, in_Md, Or.inl mm_464⟩
theorem fg_Md_68 : kx_f "RebornDriversModel" 68 6 27 := ⟨R_Md, F_Md, 30, rfl, by decide, in_Md, Or.inl mm_466⟩
theorem fg_Md_65 : kx_f "RebornDriversModel" 65 6 26 := ⟨R_Md, F_Md, 30, rfl, by decide, in_Md, Or.inl mm_465⟩
theorem fg_Md_111 : kx_f "RebornDriversModel" 111 6 12 := ⟨R_Md, F_Md, 30, rfl, by decide, in_Md, Or.inl mm_451⟩
theorem fg_Md_34 : kx_f "RebornDriversModel" 34 6 11 := ⟨R_Md, F_Md, 30, rfl, by decide, in_Md, Or.inl mm_450⟩
theorem fg_Md_37 : kx_f "RebornDriversModel" 37 6 13 := ⟨R_Md, F_Md, 30, rfl, by decide, in_Md, Or.inl mm_452⟩
theorem fg_Md_40 : kx_f "RebornDriversModel" 40 6 14 := ⟨R_Md, F_Md, 30, rfl, by decide, in_Md, Or.inl mm_453⟩
theorem fg_Md_46 : kx_f "RebornDriversModel" 46 6 16 := ⟨R_Md, F_Md, 30, rfl, by decide, in_Md, Or.inl mm_455⟩
theorem fg_Md_49 : kx_f "RebornDriversModel" 49 6 17 := ⟨R_Md, F_Md, 30, rfl, by decide, in_Md, Or.inl mm_456⟩
theorem fg_Md_52 : kx_f "RebornDriversModel" 52 6 18 := ⟨R_Md, F_Md, 30, rfl, by decide, in_Md, Or.inl mm_457⟩
theorem fg_Md_56 : kx_f "RebornDriversModel" 56 6 19 := ⟨R_Md, F_Md, 30, rfl, by decide, in_Md, Or.inl mm_458⟩
theorem fg_Md_89 : kx_f "RebornDriversModel" 89 6 1 := ⟨R_Md, F_Md, 30, rfl, by decide, in_Md, Or.inl mm_440⟩
theorem fg_Md_43 : kx_f "RebornDriversModel" 43 6 15 := ⟨R_Md, F_Md, 30, rfl, by decide, in_Md, Or.inl mm_454⟩

theorem kx_i6 {x N : Int32} {n : Nat} (hN : N.toInt + 1 = n) (h0 : ¬ x < 0) (h1 : ¬ N < x) : vp_in x n := by
  rw [Int32.lt_iff_toInt_lt, show (0 : Int32).toInt = 0 from rfl] at h0
  rw [Int32.lt_iff_toInt_lt] at h1
  exact vp_in_iff.mpr ⟨by omega, by omega⟩
abbrev kt_I : Type := Int32 × Int32 × Int32 × Int32 × Int32 × Int32 × Int32 × Int32 × Int32
abbrev kt_W : Type := (Nat → Int32) × (Nat → Int32) × (Nat → Int32) × (Nat → Int32) × (Nat → Int32) × (Nat → Int32) × (Nat → Int32)
abbrev kt_E : Type := (Nat → Int32) × (Nat → Int32) × (Nat → Int32) × (Nat → Int32) × (Nat → Int32) × (Nat → Int32) × (Nat → Int32) × (Nat → Int32)
def f_Md_begin (mi : kt_I) (w : kt_W) (u : Int32) (k : Int32) (b : Int32) (v : Int32) : Int32 × kt_I × kt_W :=
  if u < 0 then (0, mi, w)
  else if 3 < u then (0, mi, w)
  else if (w.2.2.2.2.1 u.toNatClampNeg) = 1 then (0, mi, w)
  else (1, (mi.1, mi.2.1, mi.2.2.1 + 1, mi.2.2.2.1, mi.2.2.2.2.1, mi.2.2.2.2.2.1, mi.2.2.2.2.2.2.1, mi.2.2.2.2.2.2.2.1, mi.2.2.2.2.2.2.2.2), (upd w.1 u.toNatClampNeg k, upd w.2.1 u.toNatClampNeg b, upd w.2.2.1 u.toNatClampNeg v, upd w.2.2.2.1 u.toNatClampNeg (mi.2.2.1 + 1), upd w.2.2.2.2.1 u.toNatClampNeg 1, upd w.2.2.2.2.2.1 u.toNatClampNeg 0, upd w.2.2.2.2.2.2 u.toNatClampNeg 0))
set_option maxHeartbeats 4000000 in
set_option maxRecDepth 100000 in
theorem c_Md_begin (l : Launch) (D : va_G) (cI cZ cO : ClassId) (bm : Nat → Nat) (mi : kt_I) (w : kt_W) (u : Int32) (k : Int32) (b : Int32) (v : Int32) : kx_Ci (S := kt_I × kt_W) l y_Md_begin b_Md_begin 5 (some .boolean) 0 0 0 D (kx_T cI cZ cO) [.ref (bm 0), .int u, .int k, .int b, .int v] [((bm 0), .inr (6, [.int mi.1, .int mi.2.1, .int mi.2.2.1, .ref (bm 1), .ref (bm 2), .ref (bm 3), .ref (bm 4), .ref (bm 5), .ref (bm 6), .ref (bm 7), .ref (bm 8), .ref (bm 9), .int mi.2.2.2.1, .ref (bm 10), .ref (bm 11), .ref (bm 12), .ref (bm 13), .ref (bm 14), .ref (bm 15), .ref (bm 16), .ref (bm 17), .int mi.2.2.2.2.1, .int mi.2.2.2.2.2.1, .int mi.2.2.2.2.2.2.1, .int mi.2.2.2.2.2.2.2.1, .ref (bm 18), .ref (bm 19), .ref (bm 20), .ref (bm 21), .int mi.2.2.2.2.2.2.2.2])), ((bm 1), .inl (cI, 4, .inl w.1)), ((bm 2), .inl (cI, 4, .inl w.2.1)), ((bm 3), .inl (cI, 4, .inl w.2.2.1)), ((bm 4), .inl (cI, 4, .inl w.2.2.2.1)), ((bm 5), .inl (cI, 4, .inl w.2.2.2.2.1)), ((bm 6), .inl (cI, 4, .inl w.2.2.2.2.2.1)), ((bm 7), .inl (cI, 4, .inl w.2.2.2.2.2.2))] (fun rr zz => (rr, zz) = f_Md_begin mi w u k b v ∧ kx_b rr) (fun zz => [((bm 0), .inr (6, [.int zz.1.1, .int zz.1.2.1, .int zz.1.2.2.1, .ref (bm 1), .ref (bm 2), .ref (bm 3), .ref (bm 4), .ref (bm 5), .ref (bm 6), .ref (bm 7), .ref (bm 8), .ref (bm 9), .int zz.1.2.2.2.1, .ref (bm 10), .ref (bm 11), .ref (bm 12), .ref (bm 13), .ref (bm 14), .ref (bm 15), .ref (bm 16), .ref (bm 17), .int zz.1.2.2.2.2.1, .int zz.1.2.2.2.2.2.1, .int zz.1.2.2.2.2.2.2.1, .int zz.1.2.2.2.2.2.2.2.1, .ref (bm 18), .ref (bm 19), .ref (bm 20), .ref (bm 21), .int zz.1.2.2.2.2.2.2.2.2])), ((bm 1), .inl (cI, 4, .inl zz.2.1)), ((bm 2), .inl (cI, 4, .inl zz.2.2.1)), ((bm 3), .inl (cI, 4, .inl zz.2.2.2.1)), ((bm 4), .inl (cI, 4, .inl zz.2.2.2.2.1)), ((bm 5), .inl (cI, 4, .inl zz.2.2.2.2.2.1)), ((bm 6), .inl (cI, 4, .inl zz.2.2.2.2.2.2.1)), ((bm 7), .inl (cI, 4, .inl zz.2.2.2.2.2.2.2))]) := by
  refine kx_enter_i (by decide) (Nat.le_of_ble_eq_true rfl) ?_
  intro p_ e_ s_ m_ below_ meth_ c_ ls A_ H I hl hw
  have S := I.1
  have hx := S.1
  have hb := S.2.1
  have hl : lv_has ls 5 [(0, .ref (bm 0)), (1, .int u), (2, .int k), (3, .int b), (4, .int v)] := hl
  refine lv_iload_n hx hb d_Md_begin_0 rfl (lv_at hl 1 rfl) ?_
  refine lv_if_lt (tgt := 19) hx hb d_Md_begin_1 (by decide) (fun h1 => ?_) (fun h1 => ?_)
  · refine lv_iconst (v := 0) hx hb d_Md_begin_19 (by decide) ?_
    exact kx_ret_z I rfl hw (Or.inl rfl) (mi, w) ⟨(by simp only [f_Md_begin, if_pos h1]), (Or.inl rfl)⟩ [0, 1, 2, 3, 4, 5, 6, 7] (by decide) rfl d_Md_begin_20
  · refine lv_iload_n hx hb d_Md_begin_4 rfl (lv_at hl 1 rfl) ?_
    refine lv_iconst (v := 3) hx hb d_Md_begin_5 (by decide) ?_
    refine lv_icmp_gt (tgt := 19) hx hb d_Md_begin_6 (by decide) (fun h2 => ?_) (fun h2 => ?_)
    · refine lv_iconst (v := 0) hx hb d_Md_begin_19 (by decide) ?_
      exact kx_ret_z I rfl hw (Or.inl rfl) (mi, w) ⟨(by simp only [f_Md_begin, if_neg h1, if_pos h2]), (Or.inl rfl)⟩ [0, 1, 2, 3, 4, 5, 6, 7] (by decide) rfl d_Md_begin_20
    · refine lv_aload_n hx hb d_Md_begin_9 rfl (lv_at hl 0 rfl) ?_
      refine kx_get S hw fg_Md_22 0 rfl rfl d_Md_begin_10 ?_
      refine lv_iload_n hx hb d_Md_begin_13 rfl (lv_at hl 1 rfl) ?_
      refine kx_iald S hw 5 0 rfl rfl (j := u.toNatClampNeg) rfl (by first | exact kx_i6 (N := 3) rfl h1 h2 | exact kx_i6 (N := 3) rfl h1 (Int32.not_lt.mpr h2)) d_Md_begin_14 ?_
      refine lv_iconst (v := 1) hx hb d_Md_begin_15 (by decide) ?_
      refine lv_icmp_ne (tgt := 21) hx hb d_Md_begin_16 (by decide) (fun h3 => ?_) (fun h3 => ?_)
      · refine lv_aload_n hx hb d_Md_begin_21 rfl (lv_at hl 0 rfl) ?_
        refine lv_dup hx hb d_Md_begin_22 rfl ?_
        refine kx_get S hw fg_Md_78 0 rfl rfl d_Md_begin_23 ?_
        refine lv_iconst (v := 1) hx hb d_Md_begin_26 (by decide) ?_
        refine lv_iadd hx hb d_Md_begin_27 ?_
        refine kx_put S hw fp_Md_78 0 rfl rfl rfl (Nat.le_of_ble_eq_true rfl) d_Md_begin_28 (fun H locs hw => ?_)
        have hw : kx_w D (kx_T cI cZ cO) A_ s_ [((bm 0), .inr (6, [.int mi.1, .int mi.2.1, .int (mi.2.2.1 + 1), .ref (bm 1), .ref (bm 2), .ref (bm 3), .ref (bm 4), .ref (bm 5), .ref (bm 6), .ref (bm 7), .ref (bm 8), .ref (bm 9), .int mi.2.2.2.1, .ref (bm 10), .ref (bm 11), .ref (bm 12), .ref (bm 13), .ref (bm 14), .ref (bm 15), .ref (bm 16), .ref (bm 17), .int mi.2.2.2.2.1, .int mi.2.2.2.2.2.1, .int mi.2.2.2.2.2.2.1, .int mi.2.2.2.2.2.2.2.1, .ref (bm 18), .ref (bm 19), .ref (bm 20), .ref (bm 21), .int mi.2.2.2.2.2.2.2.2])), ((bm 1), .inl (cI, 4, .inl w.1)), ((bm 2), .inl (cI, 4, .inl w.2.1)), ((bm 3), .inl (cI, 4, .inl w.2.2.1)), ((bm 4), .inl (cI, 4, .inl w.2.2.2.1)), ((bm 5), .inl (cI, 4, .inl w.2.2.2.2.1)), ((bm 6), .inl (cI, 4, .inl w.2.2.2.2.2.1)), ((bm 7), .inl (cI, 4, .inl w.2.2.2.2.2.2))] H locs := hw
        refine lv_aload_n hx hb d_Md_begin_31 rfl (lv_at hl 0 rfl) ?_
        refine kx_get S hw fg_Md_7 0 rfl rfl d_Md_begin_32 ?_
        refine lv_iload_n hx hb d_Md_begin_35 rfl (lv_at hl 1 rfl) ?_
        refine lv_iload_n hx hb d_Md_begin_36 rfl (lv_at hl 2 rfl) ?_
        refine kx_iast S hw 1 0 rfl rfl (j := u.toNatClampNeg) rfl (by first | exact kx_i6 (N := 3) rfl h1 h2 | exact kx_i6 (N := 3) rfl h1 (Int32.not_lt.mpr h2)) d_Md_begin_37 (fun H locs hw => ?_)
        have hw : kx_w D (kx_T cI cZ cO) A_ s_ [((bm 0), .inr (6, [.int mi.1, .int mi.2.1, .int (mi.2.2.1 + 1), .ref (bm 1), .ref (bm 2), .ref (bm 3), .ref (bm 4), .ref (bm 5), .ref (bm 6), .ref (bm 7), .ref (bm 8), .ref (bm 9), .int mi.2.2.2.1, .ref (bm 10), .ref (bm 11), .ref (bm 12), .ref (bm 13), .ref (bm 14), .ref (bm 15), .ref (bm 16), .ref (bm 17), .int mi.2.2.2.2.1, .int mi.2.2.2.2.2.1, .int mi.2.2.2.2.2.2.1, .int mi.2.2.2.2.2.2.2.1, .ref (bm 18), .ref (bm 19), .ref (bm 20), .ref (bm 21), .int mi.2.2.2.2.2.2.2.2])), ((bm 1), .inl (cI, 4, .inl (upd w.1 u.toNatClampNeg k))), ((bm 2), .inl (cI, 4, .inl w.2.1)), ((bm 3), .inl (cI, 4, .inl w.2.2.1)), ((bm 4), .inl (cI, 4, .inl w.2.2.2.1)), ((bm 5), .inl (cI, 4, .inl w.2.2.2.2.1)), ((bm 6), .inl (cI, 4, .inl w.2.2.2.2.2.1)), ((bm 7), .inl (cI, 4, .inl w.2.2.2.2.2.2))] H locs := hw
        refine lv_aload_n hx hb d_Md_begin_38 rfl (lv_at hl 0 rfl) ?_
        refine kx_get S hw fg_Md_13 0 rfl rfl d_Md_begin_39 ?_
        refine lv_iload_n hx hb d_Md_begin_42 rfl (lv_at hl 1 rfl) ?_
        refine lv_iload_n hx hb d_Md_begin_43 rfl (lv_at hl 3 rfl) ?_
        refine kx_iast S hw 2 0 rfl rfl (j := u.toNatClampNeg) rfl (by first | exact kx_i6 (N := 3) rfl h1 h2 | exact kx_i6 (N := 3) rfl h1 (Int32.not_lt.mpr h2)) d_Md_begin_44 (fun H locs hw => ?_)
        have hw : kx_w D (kx_T cI cZ cO) A_ s_ [((bm 0), .inr (6, [.int mi.1, .int mi.2.1, .int (mi.2.2.1 + 1), .ref (bm 1), .ref (bm 2), .ref (bm 3), .ref (bm 4), .ref (bm 5), .ref (bm 6), .ref (bm 7), .ref (bm 8), .ref (bm 9), .int mi.2.2.2.1, .ref (bm 10), .ref (bm 11), .ref (bm 12), .ref (bm 13), .ref (bm 14), .ref (bm 15), .ref (bm 16), .ref (bm 17), .int mi.2.2.2.2.1, .int mi.2.2.2.2.2.1, .int mi.2.2.2.2.2.2.1, .int mi.2.2.2.2.2.2.2.1, .ref (bm 18), .ref (bm 19), .ref (bm 20), .ref (bm 21), .int mi.2.2.2.2.2.2.2.2])), ((bm 1), .inl (cI, 4, .inl (upd w.1 u.toNatClampNeg k))), ((bm 2), .inl (cI, 4, .inl (upd w.2.1 u.toNatClampNeg b))), ((bm 3), .inl (cI, 4, .inl w.2.2.1)), ((bm 4), .inl (cI, 4, .inl w.2.2.2.1)), ((bm 5), .inl (cI, 4, .inl w.2.2.2.2.1)), ((bm 6), .inl (cI, 4, .inl w.2.2.2.2.2.1)), ((bm 7), .inl (cI, 4, .inl w.2.2.2.2.2.2))] H locs := hw
        refine lv_aload_n hx hb d_Md_begin_45 rfl (lv_at hl 0 rfl) ?_
        refine kx_get S hw fg_Md_16 0 rfl rfl d_Md_begin_46 ?_
        refine lv_iload_n hx hb d_Md_begin_49 rfl (lv_at hl 1 rfl) ?_
        refine lv_iload hx hb d_Md_begin_50 (lv_at hl 4 rfl) ?_
        refine kx_iast S hw 3 0 rfl rfl (j := u.toNatClampNeg) rfl (by first | exact kx_i6 (N := 3) rfl h1 h2 | exact kx_i6 (N := 3) rfl h1 (Int32.not_lt.mpr h2)) d_Md_begin_52 (fun H locs hw => ?_)
        have hw : kx_w D (kx_T cI cZ cO) A_ s_ [((bm 0), .inr (6, [.int mi.1, .int mi.2.1, .int (mi.2.2.1 + 1), .ref (bm 1), .ref (bm 2), .ref (bm 3), .ref (bm 4), .ref (bm 5), .ref (bm 6), .ref (bm 7), .ref (bm 8), .ref (bm 9), .int mi.2.2.2.1, .ref (bm 10), .ref (bm 11), .ref (bm 12), .ref (bm 13), .ref (bm 14), .ref (bm 15), .ref (bm 16), .ref (bm 17), .int mi.2.2.2.2.1, .int mi.2.2.2.2.2.1, .int mi.2.2.2.2.2.2.1, .int mi.2.2.2.2.2.2.2.1, .ref (bm 18), .ref (bm 19), .ref (bm 20), .ref (bm 21), .int mi.2.2.2.2.2.2.2.2])), ((bm 1), .inl (cI, 4, .inl (upd w.1 u.toNatClampNeg k))), ((bm 2), .inl (cI, 4, .inl (upd w.2.1 u.toNatClampNeg b))), ((bm 3), .inl (cI, 4, .inl (upd w.2.2.1 u.toNatClampNeg v))), ((bm 4), .inl (cI, 4, .inl w.2.2.2.1)), ((bm 5), .inl (cI, 4, .inl w.2.2.2.2.1)), ((bm 6), .inl (cI, 4, .inl w.2.2.2.2.2.1)), ((bm 7), .inl (cI, 4, .inl w.2.2.2.2.2.2))] H locs := hw
        refine lv_aload_n hx hb d_Md_begin_53 rfl (lv_at hl 0 rfl) ?_
        refine kx_get S hw fg_Md_19 0 rfl rfl d_Md_begin_54 ?_
        refine lv_iload_n hx hb d_Md_begin_57 rfl (lv_at hl 1 rfl) ?_
        refine lv_aload_n hx hb d_Md_begin_58 rfl (lv_at hl 0 rfl) ?_
        refine kx_get S hw fg_Md_78 0 rfl rfl d_Md_begin_59 ?_
        refine kx_iast S hw 4 0 rfl rfl (j := u.toNatClampNeg) rfl (by first | exact kx_i6 (N := 3) rfl h1 h2 | exact kx_i6 (N := 3) rfl h1 (Int32.not_lt.mpr h2)) d_Md_begin_62 (fun H locs hw => ?_)
        have hw : kx_w D (kx_T cI cZ cO) A_ s_ [((bm 0), .inr (6, [.int mi.1, .int mi.2.1, .int (mi.2.2.1 + 1), .ref (bm 1), .ref (bm 2), .ref (bm 3), .ref (bm 4), .ref (bm 5), .ref (bm 6), .ref (bm 7), .ref (bm 8), .ref (bm 9), .int mi.2.2.2.1, .ref (bm 10), .ref (bm 11), .ref (bm 12), .ref (bm 13), .ref (bm 14), .ref (bm 15), .ref (bm 16), .ref (bm 17), .int mi.2.2.2.2.1, .int mi.2.2.2.2.2.1, .int mi.2.2.2.2.2.2.1, .int mi.2.2.2.2.2.2.2.1, .ref (bm 18), .ref (bm 19), .ref (bm 20), .ref (bm 21), .int mi.2.2.2.2.2.2.2.2])), ((bm 1), .inl (cI, 4, .inl (upd w.1 u.toNatClampNeg k))), ((bm 2), .inl (cI, 4, .inl (upd w.2.1 u.toNatClampNeg b))), ((bm 3), .inl (cI, 4, .inl (upd w.2.2.1 u.toNatClampNeg v))), ((bm 4), .inl (cI, 4, .inl (upd w.2.2.2.1 u.toNatClampNeg (mi.2.2.1 + 1)))), ((bm 5), .inl (cI, 4, .inl w.2.2.2.2.1)), ((bm 6), .inl (cI, 4, .inl w.2.2.2.2.2.1)), ((bm 7), .inl (cI, 4, .inl w.2.2.2.2.2.2))] H locs := hw
        refine lv_aload_n hx hb d_Md_begin_63 rfl (lv_at hl 0 rfl) ?_
        refine kx_get S hw fg_Md_22 0 rfl rfl d_Md_begin_64 ?_
        refine lv_iload_n hx hb d_Md_begin_67 rfl (lv_at hl 1 rfl) ?_
        refine lv_iconst (v := 1) hx hb d_Md_begin_68 (by decide) ?_
        refine kx_iast S hw 5 0 rfl rfl (j := u.toNatClampNeg) rfl (by first | exact kx_i6 (N := 3) rfl h1 h2 | exact kx_i6 (N := 3) rfl h1 (Int32.not_lt.mpr h2)) d_Md_begin_69 (fun H locs hw => ?_)
        have hw : kx_w D (kx_T cI cZ cO) A_ s_ [((bm 0), .inr (6, [.int mi.1, .int mi.2.1, .int (mi.2.2.1 + 1), .ref (bm 1), .ref (bm 2), .ref (bm 3), .ref (bm 4), .ref (bm 5), .ref (bm 6), .ref (bm 7), .ref (bm 8), .ref (bm 9), .int mi.2.2.2.1, .ref (bm 10), .ref (bm 11), .ref (bm 12), .ref (bm 13), .ref (bm 14), .ref (bm 15), .ref (bm 16), .ref (bm 17), .int mi.2.2.2.2.1, .int mi.2.2.2.2.2.1, .int mi.2.2.2.2.2.2.1, .int mi.2.2.2.2.2.2.2.1, .ref (bm 18), .ref (bm 19), .ref (bm 20), .ref (bm 21), .int mi.2.2.2.2.2.2.2.2])), ((bm 1), .inl (cI, 4, .inl (upd w.1 u.toNatClampNeg k))), ((bm 2), .inl (cI, 4, .inl (upd w.2.1 u.toNatClampNeg b))), ((bm 3), .inl (cI, 4, .inl (upd w.2.2.1 u.toNatClampNeg v))), ((bm 4), .inl (cI, 4, .inl (upd w.2.2.2.1 u.toNatClampNeg (mi.2.2.1 + 1)))), ((bm 5), .inl (cI, 4, .inl (upd w.2.2.2.2.1 u.toNatClampNeg 1))), ((bm 6), .inl (cI, 4, .inl w.2.2.2.2.2.1)), ((bm 7), .inl (cI, 4, .inl w.2.2.2.2.2.2))] H locs := hw
        refine lv_aload_n hx hb d_Md_begin_70 rfl (lv_at hl 0 rfl) ?_
        refine kx_get S hw fg_Md_25 0 rfl rfl d_Md_begin_71 ?_
        refine lv_iload_n hx hb d_Md_begin_74 rfl (lv_at hl 1 rfl) ?_
        refine lv_iconst (v := 0) hx hb d_Md_begin_75 (by decide) ?_
        refine kx_iast S hw 6 0 rfl rfl (j := u.toNatClampNeg) rfl (by first | exact kx_i6 (N := 3) rfl h1 h2 | exact kx_i6 (N := 3) rfl h1 (Int32.not_lt.mpr h2)) d_Md_begin_76 (fun H locs hw => ?_)
        have hw : kx_w D (kx_T cI cZ cO) A_ s_ [((bm 0), .inr (6, [.int mi.1, .int mi.2.1, .int (mi.2.2.1 + 1), .ref (bm 1), .ref (bm 2), .ref (bm 3), .ref (bm 4), .ref (bm 5), .ref (bm 6), .ref (bm 7), .ref (bm 8), .ref (bm 9), .int mi.2.2.2.1, .ref (bm 10), .ref (bm 11), .ref (bm 12), .ref (bm 13), .ref (bm 14), .ref (bm 15), .ref (bm 16), .ref (bm 17), .int mi.2.2.2.2.1, .int mi.2.2.2.2.2.1, .int mi.2.2.2.2.2.2.1, .int mi.2.2.2.2.2.2.2.1, .ref (bm 18), .ref (bm 19), .ref (bm 20), .ref (bm 21), .int mi.2.2.2.2.2.2.2.2])), ((bm 1), .inl (cI, 4, .inl (upd w.1 u.toNatClampNeg k))), ((bm 2), .inl (cI, 4, .inl (upd w.2.1 u.toNatClampNeg b))), ((bm 3), .inl (cI, 4, .inl (upd w.2.2.1 u.toNatClampNeg v))), ((bm 4), .inl (cI, 4, .inl (upd w.2.2.2.1 u.toNatClampNeg (mi.2.2.1 + 1)))), ((bm 5), .inl (cI, 4, .inl (upd w.2.2.2.2.1 u.toNatClampNeg 1))), ((bm 6), .inl (cI, 4, .inl (upd w.2.2.2.2.2.1 u.toNatClampNeg 0))), ((bm 7), .inl (cI, 4, .inl w.2.2.2.2.2.2))] H locs := hw
        refine lv_aload_n hx hb d_Md_begin_77 rfl (lv_at hl 0 rfl) ?_
        refine kx_get S hw fg_Md_28 0 rfl rfl d_Md_begin_78 ?_
        refine lv_iload_n hx hb d_Md_begin_81 rfl (lv_at hl 1 rfl) ?_
        refine lv_iconst (v := 0) hx hb d_Md_begin_82 (by decide) ?_
        refine kx_iast S hw 7 0 rfl rfl (j := u.toNatClampNeg) rfl (by first | exact kx_i6 (N := 3) rfl h1 h2 | exact kx_i6 (N := 3) rfl h1 (Int32.not_lt.mpr h2)) d_Md_begin_83 (fun H locs hw => ?_)
        have hw : kx_w D (kx_T cI cZ cO) A_ s_ [((bm 0), .inr (6, [.int mi.1, .int mi.2.1, .int (mi.2.2.1 + 1), .ref (bm 1), .ref (bm 2), .ref (bm 3), .ref (bm 4), .ref (bm 5), .ref (bm 6), .ref (bm 7), .ref (bm 8), .ref (bm 9), .int mi.2.2.2.1, .ref (bm 10), .ref (bm 11), .ref (bm 12), .ref (bm 13), .ref (bm 14), .ref (bm 15), .ref (bm 16), .ref (bm 17), .int mi.2.2.2.2.1, .int mi.2.2.2.2.2.1, .int mi.2.2.2.2.2.2.1, .int mi.2.2.2.2.2.2.2.1, .ref (bm 18), .ref (bm 19), .ref (bm 20), .ref (bm 21), .int mi.2.2.2.2.2.2.2.2])), ((bm 1), .inl (cI, 4, .inl (upd w.1 u.toNatClampNeg k))), ((bm 2), .inl (cI, 4, .inl (upd w.2.1 u.toNatClampNeg b))), ((bm 3), .inl (cI, 4, .inl (upd w.2.2.1 u.toNatClampNeg v))), ((bm 4), .inl (cI, 4, .inl (upd w.2.2.2.1 u.toNatClampNeg (mi.2.2.1 + 1)))), ((bm 5), .inl (cI, 4, .inl (upd w.2.2.2.2.1 u.toNatClampNeg 1))), ((bm 6), .inl (cI, 4, .inl (upd w.2.2.2.2.2.1 u.toNatClampNeg 0))), ((bm 7), .inl (cI, 4, .inl (upd w.2.2.2.2.2.2 u.toNatClampNeg 0)))] H locs := hw
        refine lv_iconst (v := 1) hx hb d_Md_begin_84 (by decide) ?_
        exact kx_ret_z I rfl hw (Or.inr rfl) ((mi.1, mi.2.1, mi.2.2.1 + 1, mi.2.2.2.1, mi.2.2.2.2.1, mi.2.2.2.2.2.1, mi.2.2.2.2.2.2.1, mi.2.2.2.2.2.2.2.1, mi.2.2.2.2.2.2.2.2), (upd w.1 u.toNatClampNeg k, upd w.2.1 u.toNatClampNeg b, upd w.2.2.1 u.toNatClampNeg v, upd w.2.2.2.1 u.toNatClampNeg (mi.2.2.1 + 1), upd w.2.2.2.2.1 u.toNatClampNeg 1, upd w.2.2.2.2.2.1 u.toNatClampNeg 0, upd w.2.2.2.2.2.2 u.toNatClampNeg 0)) ⟨(by simp only [f_Md_begin, if_neg h1, if_neg h2, if_neg h3]), (Or.inr rfl)⟩ [0, 1, 2, 3, 4, 5, 6, 7] (by decide) rfl d_Md_begin_85
      · refine lv_iconst (v := 0) hx hb d_Md_begin_19 (by decide) ?_
        exact kx_ret_z I rfl hw (Or.inl rfl) (mi, w) ⟨(by simp only [f_Md_begin, if_neg h1, if_neg h2, if_pos h3]), (Or.inl rfl)⟩ [0, 1, 2, 3, 4, 5, 6, 7] (by decide) rfl d_Md_begin_20
def f_Md_read (mi : kt_I) (w : kt_W) (u : Int32) (b : Int32) : Int32 × kt_I × kt_W :=
  if b < 0 then (0, mi, w)
  else if 15 < b then (0, mi, w)
  else match f_Md_begin mi w u 1 b 0 with
  | (r3, mi3, w3) => if r3 = 0 then (0, mi3, w3)
    else (1, mi3, w3)
set_option maxHeartbeats 4000000 in
set_option maxRecDepth 100000 in
theorem c_Md_read (l : Launch) (D : va_G) (cI cZ cO : ClassId) (bm : Nat → Nat) (mi : kt_I) (w : kt_W) (u : Int32) (b : Int32) : kx_Ci (S := kt_I × kt_W) l y_Md_read b_Md_read 3 (some .boolean) 1 0 0 D (kx_T cI cZ cO) [.ref (bm 0), .int u, .int b] [((bm 0), .inr (6, [.int mi.1, .int mi.2.1, .int mi.2.2.1, .ref (bm 1), .ref (bm 2), .ref (bm 3), .ref (bm 4), .ref (bm 5), .ref (bm 6), .ref (bm 7), .ref (bm 8), .ref (bm 9), .int mi.2.2.2.1, .ref (bm 10), .ref (bm 11), .ref (bm 12), .ref (bm 13), .ref (bm 14), .ref (bm 15), .ref (bm 16), .ref (bm 17), .int mi.2.2.2.2.1, .int mi.2.2.2.2.2.1, .int mi.2.2.2.2.2.2.1, .int mi.2.2.2.2.2.2.2.1, .ref (bm 18), .ref (bm 19), .ref (bm 20), .ref (bm 21), .int mi.2.2.2.2.2.2.2.2])), ((bm 1), .inl (cI, 4, .inl w.1)), ((bm 2), .inl (cI, 4, .inl w.2.1)), ((bm 3), .inl (cI, 4, .inl w.2.2.1)), ((bm 4), .inl (cI, 4, .inl w.2.2.2.1)), ((bm 5), .inl (cI, 4, .inl w.2.2.2.2.1)), ((bm 6), .inl (cI, 4, .inl w.2.2.2.2.2.1)), ((bm 7), .inl (cI, 4, .inl w.2.2.2.2.2.2))] (fun rr zz => (rr, zz) = f_Md_read mi w u b ∧ kx_b rr) (fun zz => [((bm 0), .inr (6, [.int zz.1.1, .int zz.1.2.1, .int zz.1.2.2.1, .ref (bm 1), .ref (bm 2), .ref (bm 3), .ref (bm 4), .ref (bm 5), .ref (bm 6), .ref (bm 7), .ref (bm 8), .ref (bm 9), .int zz.1.2.2.2.1, .ref (bm 10), .ref (bm 11), .ref (bm 12), .ref (bm 13), .ref (bm 14), .ref (bm 15), .ref (bm 16), .ref (bm 17), .int zz.1.2.2.2.2.1, .int zz.1.2.2.2.2.2.1, .int zz.1.2.2.2.2.2.2.1, .int zz.1.2.2.2.2.2.2.2.1, .ref (bm 18), .ref (bm 19), .ref (bm 20), .ref (bm 21), .int zz.1.2.2.2.2.2.2.2.2])), ((bm 1), .inl (cI, 4, .inl zz.2.1)), ((bm 2), .inl (cI, 4, .inl zz.2.2.1)), ((bm 3), .inl (cI, 4, .inl zz.2.2.2.1)), ((bm 4), .inl (cI, 4, .inl zz.2.2.2.2.1)), ((bm 5), .inl (cI, 4, .inl zz.2.2.2.2.2.1)), ((bm 6), .inl (cI, 4, .inl zz.2.2.2.2.2.2.1)), ((bm 7), .inl (cI, 4, .inl zz.2.2.2.2.2.2.2))]) := by
  refine kx_enter_i (by decide) (Nat.le_of_ble_eq_true rfl) ?_
  intro p_ e_ s_ m_ below_ meth_ c_ ls A_ H I hl hw
  have S := I.1
  have hx := S.1
  have hb := S.2.1
  have hl : lv_has ls 3 [(0, .ref (bm 0)), (1, .int u), (2, .int b)] := hl
  refine lv_iload_n hx hb d_Md_read_0 rfl (lv_at hl 2 rfl) ?_
  refine lv_if_lt (tgt := 25) hx hb d_Md_read_1 (by decide) (fun h1 => ?_) (fun h1 => ?_)
  · refine lv_iconst (v := 0) hx hb d_Md_read_25 (by decide) ?_
    exact kx_ret_z I rfl hw (Or.inl rfl) (mi, w) ⟨(by simp only [f_Md_read, if_pos h1]), (Or.inl rfl)⟩ [0, 1, 2, 3, 4, 5, 6, 7] (by decide) rfl d_Md_read_26
  · refine lv_iload_n hx hb d_Md_read_4 rfl (lv_at hl 2 rfl) ?_
    refine lv_bipush (v := 15) hx hb d_Md_read_5 (by decide) ?_
    refine lv_icmp_gt (tgt := 25) hx hb d_Md_read_7 (by decide) (fun h2 => ?_) (fun h2 => ?_)
    · refine lv_iconst (v := 0) hx hb d_Md_read_25 (by decide) ?_
      exact kx_ret_z I rfl hw (Or.inl rfl) (mi, w) ⟨(by simp only [f_Md_read, if_neg h1, if_pos h2]), (Or.inl rfl)⟩ [0, 1, 2, 3, 4, 5, 6, 7] (by decide) rfl d_Md_read_26
    · refine lv_aload_n hx hb d_Md_read_10 rfl (lv_at hl 0 rfl) ?_
      refine lv_iload_n hx hb d_Md_read_11 rfl (lv_at hl 1 rfl) ?_
      refine lv_iconst (v := 1) hx hb d_Md_read_12 (by decide) ?_
      refine lv_iload_n hx hb d_Md_read_13 rfl (lv_at hl 2 rfl) ?_
      refine lv_iconst (v := 0) hx hb d_Md_read_14 (by decide) ?_
      refine kx_call_i (wc := [((bm 0), .inr (6, [.int mi.1, .int mi.2.1, .int mi.2.2.1, .ref (bm 1), .ref (bm 2), .ref (bm 3), .ref (bm 4), .ref (bm 5), .ref (bm 6), .ref (bm 7), .ref (bm 8), .ref (bm 9), .int mi.2.2.2.1, .ref (bm 10), .ref (bm 11), .ref (bm 12), .ref (bm 13), .ref (bm 14), .ref (bm 15), .ref (bm 16), .ref (bm 17), .int mi.2.2.2.2.1, .int mi.2.2.2.2.2.1, .int mi.2.2.2.2.2.2.1, .int mi.2.2.2.2.2.2.2.1, .ref (bm 18), .ref (bm 19), .ref (bm 20), .ref (bm 21), .int mi.2.2.2.2.2.2.2.2])), ((bm 1), .inl (cI, 4, .inl w.1)), ((bm 2), .inl (cI, 4, .inl w.2.1)), ((bm 3), .inl (cI, 4, .inl w.2.2.1)), ((bm 4), .inl (cI, 4, .inl w.2.2.2.1)), ((bm 5), .inl (cI, 4, .inl w.2.2.2.2.1)), ((bm 6), .inl (cI, 4, .inl w.2.2.2.2.2.1)), ((bm 7), .inl (cI, 4, .inl w.2.2.2.2.2.2))]) (wr := []) (rest := []) hw [0, 1, 2, 3, 4, 5, 6, 7] [] rfl rfl (by decide) (by decide) (kx_runV S hw fc_Md_81 rfl 0 rfl [0, 1, 2, 3, 4, 5, 6, 7] (by decide) rfl (c_Md_begin l D cI cZ cO bm mi w u 1 b 0 H.size) rfl hl.1 rfl (Nat.le_of_ble_eq_true rfl) d_Md_read_15 (by decide) (by decide)) (fun r3 u3 H locs hp3 hw => ?_)
      obtain ⟨mi3, w3⟩ := u3
      obtain ⟨hp3, hb3⟩ := hp3
      have hw : kx_w D (kx_T cI cZ cO) A_ s_ [((bm 0), .inr (6, [.int mi3.1, .int mi3.2.1, .int mi3.2.2.1, .ref (bm 1), .ref (bm 2), .ref (bm 3), .ref (bm 4), .ref (bm 5), .ref (bm 6), .ref (bm 7), .ref (bm 8), .ref (bm 9), .int mi3.2.2.2.1, .ref (bm 10), .ref (bm 11), .ref (bm 12), .ref (bm 13), .ref (bm 14), .ref (bm 15), .ref (bm 16), .ref (bm 17), .int mi3.2.2.2.2.1, .int mi3.2.2.2.2.2.1, .int mi3.2.2.2.2.2.2.1, .int mi3.2.2.2.2.2.2.2.1, .ref (bm 18), .ref (bm 19), .ref (bm 20), .ref (bm 21), .int mi3.2.2.2.2.2.2.2.2])), ((bm 1), .inl (cI, 4, .inl w3.1)), ((bm 2), .inl (cI, 4, .inl w3.2.1)), ((bm 3), .inl (cI, 4, .inl w3.2.2.1)), ((bm 4), .inl (cI, 4, .inl w3.2.2.2.1)), ((bm 5), .inl (cI, 4, .inl w3.2.2.2.2.1)), ((bm 6), .inl (cI, 4, .inl w3.2.2.2.2.2.1)), ((bm 7), .inl (cI, 4, .inl w3.2.2.2.2.2.2))] H locs := hw
      refine lv_if_eq (tgt := 25) hx hb d_Md_read_18 (by decide) (fun h4 => ?_) (fun h4 => ?_)
      · refine lv_iconst (v := 0) hx hb d_Md_read_25 (by decide) ?_
        exact kx_ret_z I rfl hw (Or.inl rfl) (mi3, w3) ⟨(by simp only [f_Md_read, if_neg h1, if_neg h2, ← hp3, if_pos h4]), (Or.inl rfl)⟩ [0, 1, 2, 3, 4, 5, 6, 7] (by decide) rfl d_Md_read_26
      · refine lv_iconst (v := 1) hx hb d_Md_read_21 (by decide) ?_
        refine lv_goto (tgt := 26) hx hb d_Md_read_22 (by decide) ?_
        exact kx_ret_z I rfl hw (Or.inr rfl) (mi3, w3) ⟨(by simp only [f_Md_read, if_neg h1, if_neg h2, ← hp3, if_neg h4]), (Or.inr rfl)⟩ [0, 1, 2, 3, 4, 5, 6, 7] (by decide) rfl d_Md_read_26
def f_Md_write (mi : kt_I) (w : kt_W) (u : Int32) (b : Int32) (v : Int32) : Int32 × kt_I × kt_W :=
  if b < 0 then (0, mi, w)
  else if 15 < b then (0, mi, w)
  else match f_Md_begin mi w u 2 b v with
  | (r3, mi3, w3) => if r3 = 0 then (0, mi3, w3)
    else (1, mi3, w3)
set_option maxHeartbeats 4000000 in
set_option maxRecDepth 100000 in
theorem c_Md_write (l : Launch) (D : va_G) (cI cZ cO : ClassId) (bm : Nat → Nat) (mi : kt_I) (w : kt_W) (u : Int32) (b : Int32) (v : Int32) : kx_Ci (S := kt_I × kt_W) l y_Md_write b_Md_write 4 (some .boolean) 1 0 0 D (kx_T cI cZ cO) [.ref (bm 0), .int u, .int b, .int v] [((bm 0), .inr (6, [.int mi.1, .int mi.2.1, .int mi.2.2.1, .ref (bm 1), .ref (bm 2), .ref (bm 3), .ref (bm 4), .ref (bm 5), .ref (bm 6), .ref (bm 7), .ref (bm 8), .ref (bm 9), .int mi.2.2.2.1, .ref (bm 10), .ref (bm 11), .ref (bm 12), .ref (bm 13), .ref (bm 14), .ref (bm 15), .ref (bm 16), .ref (bm 17), .int mi.2.2.2.2.1, .int mi.2.2.2.2.2.1, .int mi.2.2.2.2.2.2.1, .int mi.2.2.2.2.2.2.2.1, .ref (bm 18), .ref (bm 19), .ref (bm 20), .ref (bm 21), .int mi.2.2.2.2.2.2.2.2])), ((bm 1), .inl (cI, 4, .inl w.1)), ((bm 2), .inl (cI, 4, .inl w.2.1)), ((bm 3), .inl (cI, 4, .inl w.2.2.1)), ((bm 4), .inl (cI, 4, .inl w.2.2.2.1)), ((bm 5), .inl (cI, 4, .inl w.2.2.2.2.1)), ((bm 6), .inl (cI, 4, .inl w.2.2.2.2.2.1)), ((bm 7), .inl (cI, 4, .inl w.2.2.2.2.2.2))] (fun rr zz => (rr, zz) = f_Md_write mi w u b v ∧ kx_b rr) (fun zz => [((bm 0), .inr (6, [.int zz.1.1, .int zz.1.2.1, .int zz.1.2.2.1, .ref (bm 1), .ref (bm 2), .ref (bm 3), .ref (bm 4), .ref (bm 5), .ref (bm 6), .ref (bm 7), .ref (bm 8), .ref (bm 9), .int zz.1.2.2.2.1, .ref (bm 10), .ref (bm 11), .ref (bm 12), .ref (bm 13), .ref (bm 14), .ref (bm 15), .ref (bm 16), .ref (bm 17), .int zz.1.2.2.2.2.1, .int zz.1.2.2.2.2.2.1, .int zz.1.2.2.2.2.2.2.1, .int zz.1.2.2.2.2.2.2.2.1, .ref (bm 18), .ref (bm 19), .ref (bm 20), .ref (bm 21), .int zz.1.2.2.2.2.2.2.2.2])), ((bm 1), .inl (cI, 4, .inl zz.2.1)), ((bm 2), .inl (cI, 4, .inl zz.2.2.1)), ((bm 3), .inl (cI, 4, .inl zz.2.2.2.1)), ((bm 4), .inl (cI, 4, .inl zz.2.2.2.2.1)), ((bm 5), .inl (cI, 4, .inl zz.2.2.2.2.2.1)), ((bm 6), .inl (cI, 4, .inl zz.2.2.2.2.2.2.1)), ((bm 7), .inl (cI, 4, .inl zz.2.2.2.2.2.2.2))]) := by
  refine kx_enter_i (by decide) (Nat.le_of_ble_eq_true rfl) ?_
  intro p_ e_ s_ m_ below_ meth_ c_ ls A_ H I hl hw
  have S := I.1
  have hx := S.1
  have hb := S.2.1
  have hl : lv_has ls 4 [(0, .ref (bm 0)), (1, .int u), (2, .int b), (3, .int v)] := hl
  refine lv_iload_n hx hb d_Md_write_0 rfl (lv_at hl 2 rfl) ?_
  refine lv_if_lt (tgt := 25) hx hb d_Md_write_1 (by decide) (fun h1 => ?_) (fun h1 => ?_)
  · refine lv_iconst (v := 0) hx hb d_Md_write_25 (by decide) ?_
    exact kx_ret_z I rfl hw (Or.inl rfl) (mi, w) ⟨(by simp only [f_Md_write, if_pos h1]), (Or.inl rfl)⟩ [0, 1, 2, 3, 4, 5, 6, 7] (by decide) rfl d_Md_write_26
  · refine lv_iload_n hx hb d_Md_write_4 rfl (lv_at hl 2 rfl) ?_
    refine lv_bipush (v := 15) hx hb d_Md_write_5 (by decide) ?_
    refine lv_icmp_gt (tgt := 25) hx hb d_Md_write_7 (by decide) (fun h2 => ?_) (fun h2 => ?_)
    · refine lv_iconst (v := 0) hx hb d_Md_write_25 (by decide) ?_
      exact kx_ret_z I rfl hw (Or.inl rfl) (mi, w) ⟨(by simp only [f_Md_write, if_neg h1, if_pos h2]), (Or.inl rfl)⟩ [0, 1, 2, 3, 4, 5, 6, 7] (by decide) rfl d_Md_write_26
    · refine lv_aload_n hx hb d_Md_write_10 rfl (lv_at hl 0 rfl) ?_
      refine lv_iload_n hx hb d_Md_write_11 rfl (lv_at hl 1 rfl) ?_
      refine lv_iconst (v := 2) hx hb d_Md_write_12 (by decide) ?_
      refine lv_iload_n hx hb d_Md_write_13 rfl (lv_at hl 2 rfl) ?_
      refine lv_iload_n hx hb d_Md_write_14 rfl (lv_at hl 3 rfl) ?_
      refine kx_call_i (wc := [((bm 0), .inr (6, [.int mi.1, .int mi.2.1, .int mi.2.2.1, .ref (bm 1), .ref (bm 2), .ref (bm 3), .ref (bm 4), .ref (bm 5), .ref (bm 6), .ref (bm 7), .ref (bm 8), .ref (bm 9), .int mi.2.2.2.1, .ref (bm 10), .ref (bm 11), .ref (bm 12), .ref (bm 13), .ref (bm 14), .ref (bm 15), .ref (bm 16), .ref (bm 17), .int mi.2.2.2.2.1, .int mi.2.2.2.2.2.1, .int mi.2.2.2.2.2.2.1, .int mi.2.2.2.2.2.2.2.1, .ref (bm 18), .ref (bm 19), .ref (bm 20), .ref (bm 21), .int mi.2.2.2.2.2.2.2.2])), ((bm 1), .inl (cI, 4, .inl w.1)), ((bm 2), .inl (cI, 4, .inl w.2.1)), ((bm 3), .inl (cI, 4, .inl w.2.2.1)), ((bm 4), .inl (cI, 4, .inl w.2.2.2.1)), ((bm 5), .inl (cI, 4, .inl w.2.2.2.2.1)), ((bm 6), .inl (cI, 4, .inl w.2.2.2.2.2.1)), ((bm 7), .inl (cI, 4, .inl w.2.2.2.2.2.2))]) (wr := []) (rest := []) hw [0, 1, 2, 3, 4, 5, 6, 7] [] rfl rfl (by decide) (by decide) (kx_runV S hw fc_Md_81 rfl 0 rfl [0, 1, 2, 3, 4, 5, 6, 7] (by decide) rfl (c_Md_begin l D cI cZ cO bm mi w u 2 b v H.size) rfl hl.1 rfl (Nat.le_of_ble_eq_true rfl) d_Md_write_15 (by decide) (by decide)) (fun r3 u3 H locs hp3 hw => ?_)
      obtain ⟨mi3, w3⟩ := u3
      obtain ⟨hp3, hb3⟩ := hp3
      have hw : kx_w D (kx_T cI cZ cO) A_ s_ [((bm 0), .inr (6, [.int mi3.1, .int mi3.2.1, .int mi3.2.2.1, .ref (bm 1), .ref (bm 2), .ref (bm 3), .ref (bm 4), .ref (bm 5), .ref (bm 6), .ref (bm 7), .ref (bm 8), .ref (bm 9), .int mi3.2.2.2.1, .ref (bm 10), .ref (bm 11), .ref (bm 12), .ref (bm 13), .ref (bm 14), .ref (bm 15), .ref (bm 16), .ref (bm 17), .int mi3.2.2.2.2.1, .int mi3.2.2.2.2.2.1, .int mi3.2.2.2.2.2.2.1, .int mi3.2.2.2.2.2.2.2.1, .ref (bm 18), .ref (bm 19), .ref (bm 20), .ref (bm 21), .int mi3.2.2.2.2.2.2.2.2])), ((bm 1), .inl (cI, 4, .inl w3.1)), ((bm 2), .inl (cI, 4, .inl w3.2.1)), ((bm 3), .inl (cI, 4, .inl w3.2.2.1)), ((bm 4), .inl (cI, 4, .inl w3.2.2.2.1)), ((bm 5), .inl (cI, 4, .inl w3.2.2.2.2.1)), ((bm 6), .inl (cI, 4, .inl w3.2.2.2.2.2.1)), ((bm 7), .inl (cI, 4, .inl w3.2.2.2.2.2.2))] H locs := hw
      refine lv_if_eq (tgt := 25) hx hb d_Md_write_18 (by decide) (fun h4 => ?_) (fun h4 => ?_)
      · refine lv_iconst (v := 0) hx hb d_Md_write_25 (by decide) ?_
        exact kx_ret_z I rfl hw (Or.inl rfl) (mi3, w3) ⟨(by simp only [f_Md_write, if_neg h1, if_neg h2, ← hp3, if_pos h4]), (Or.inl rfl)⟩ [0, 1, 2, 3, 4, 5, 6, 7] (by decide) rfl d_Md_write_26
      · refine lv_iconst (v := 1) hx hb d_Md_write_21 (by decide) ?_
        refine lv_goto (tgt := 26) hx hb d_Md_write_22 (by decide) ?_
        exact kx_ret_z I rfl hw (Or.inr rfl) (mi3, w3) ⟨(by simp only [f_Md_write, if_neg h1, if_neg h2, ← hp3, if_neg h4]), (Or.inr rfl)⟩ [0, 1, 2, 3, 4, 5, 6, 7] (by decide) rfl d_Md_write_26
def f_Md_sync (mi : kt_I) (w : kt_W) (u : Int32) : Int32 × kt_I × kt_W :=
  match f_Md_begin mi w u 3 0 0 with
  | (r1, mi1, w1) => (r1, mi1, w1)
set_option maxHeartbeats 4000000 in
set_option maxRecDepth 100000 in
theorem c_Md_sync (l : Launch) (D : va_G) (cI cZ cO : ClassId) (bm : Nat → Nat) (mi : kt_I) (w : kt_W) (u : Int32) : kx_Ci (S := kt_I × kt_W) l y_Md_sync b_Md_sync 2 (some .boolean) 1 0 0 D (kx_T cI cZ cO) [.ref (bm 0), .int u] [((bm 0), .inr (6, [.int mi.1, .int mi.2.1, .int mi.2.2.1, .ref (bm 1), .ref (bm 2), .ref (bm 3), .ref (bm 4), .ref (bm 5), .ref (bm 6), .ref (bm 7), .ref (bm 8), .ref (bm 9), .int mi.2.2.2.1, .ref (bm 10), .ref (bm 11), .ref (bm 12), .ref (bm 13), .ref (bm 14), .ref (bm 15), .ref (bm 16), .ref (bm 17), .int mi.2.2.2.2.1, .int mi.2.2.2.2.2.1, .int mi.2.2.2.2.2.2.1, .int mi.2.2.2.2.2.2.2.1, .ref (bm 18), .ref (bm 19), .ref (bm 20), .ref (bm 21), .int mi.2.2.2.2.2.2.2.2])), ((bm 1), .inl (cI, 4, .inl w.1)), ((bm 2), .inl (cI, 4, .inl w.2.1)), ((bm 3), .inl (cI, 4, .inl w.2.2.1)), ((bm 4), .inl (cI, 4, .inl w.2.2.2.1)), ((bm 5), .inl (cI, 4, .inl w.2.2.2.2.1)), ((bm 6), .inl (cI, 4, .inl w.2.2.2.2.2.1)), ((bm 7), .inl (cI, 4, .inl w.2.2.2.2.2.2))] (fun rr zz => (rr, zz) = f_Md_sync mi w u ∧ kx_b rr) (fun zz => [((bm 0), .inr (6, [.int zz.1.1, .int zz.1.2.1, .int zz.1.2.2.1, .ref (bm 1), .ref (bm 2), .ref (bm 3), .ref (bm 4), .ref (bm 5), .ref (bm 6), .ref (bm 7), .ref (bm 8), .ref (bm 9), .int zz.1.2.2.2.1, .ref (bm 10), .ref (bm 11), .ref (bm 12), .ref (bm 13), .ref (bm 14), .ref (bm 15), .ref (bm 16), .ref (bm 17), .int zz.1.2.2.2.2.1, .int zz.1.2.2.2.2.2.1, .int zz.1.2.2.2.2.2.2.1, .int zz.1.2.2.2.2.2.2.2.1, .ref (bm 18), .ref (bm 19), .ref (bm 20), .ref (bm 21), .int zz.1.2.2.2.2.2.2.2.2])), ((bm 1), .inl (cI, 4, .inl zz.2.1)), ((bm 2), .inl (cI, 4, .inl zz.2.2.1)), ((bm 3), .inl (cI, 4, .inl zz.2.2.2.1)), ((bm 4), .inl (cI, 4, .inl zz.2.2.2.2.1)), ((bm 5), .inl (cI, 4, .inl zz.2.2.2.2.2.1)), ((bm 6), .inl (cI, 4, .inl zz.2.2.2.2.2.2.1)), ((bm 7), .inl (cI, 4, .inl zz.2.2.2.2.2.2.2))]) := by
  refine kx_enter_i (by decide) (Nat.le_of_ble_eq_true rfl) ?_
  intro p_ e_ s_ m_ below_ meth_ c_ ls A_ H I hl hw
  have S := I.1
  have hx := S.1
  have hb := S.2.1
  have hl : lv_has ls 2 [(0, .ref (bm 0)), (1, .int u)] := hl
  refine lv_aload_n hx hb d_Md_sync_0 rfl (lv_at hl 0 rfl) ?_
  refine lv_iload_n hx hb d_Md_sync_1 rfl (lv_at hl 1 rfl) ?_
  refine lv_iconst (v := 3) hx hb d_Md_sync_2 (by decide) ?_
  refine lv_iconst (v := 0) hx hb d_Md_sync_3 (by decide) ?_
  refine lv_iconst (v := 0) hx hb d_Md_sync_4 (by decide) ?_
  refine kx_call_i (wc := [((bm 0), .inr (6, [.int mi.1, .int mi.2.1, .int mi.2.2.1, .ref (bm 1), .ref (bm 2), .ref (bm 3), .ref (bm 4), .ref (bm 5), .ref (bm 6), .ref (bm 7), .ref (bm 8), .ref (bm 9), .int mi.2.2.2.1, .ref (bm 10), .ref (bm 11), .ref (bm 12), .ref (bm 13), .ref (bm 14), .ref (bm 15), .ref (bm 16), .ref (bm 17), .int mi.2.2.2.2.1, .int mi.2.2.2.2.2.1, .int mi.2.2.2.2.2.2.1, .int mi.2.2.2.2.2.2.2.1, .ref (bm 18), .ref (bm 19), .ref (bm 20), .ref (bm 21), .int mi.2.2.2.2.2.2.2.2])), ((bm 1), .inl (cI, 4, .inl w.1)), ((bm 2), .inl (cI, 4, .inl w.2.1)), ((bm 3), .inl (cI, 4, .inl w.2.2.1)), ((bm 4), .inl (cI, 4, .inl w.2.2.2.1)), ((bm 5), .inl (cI, 4, .inl w.2.2.2.2.1)), ((bm 6), .inl (cI, 4, .inl w.2.2.2.2.2.1)), ((bm 7), .inl (cI, 4, .inl w.2.2.2.2.2.2))]) (wr := []) (rest := []) hw [0, 1, 2, 3, 4, 5, 6, 7] [] rfl rfl (by decide) (by decide) (kx_runV S hw fc_Md_81 rfl 0 rfl [0, 1, 2, 3, 4, 5, 6, 7] (by decide) rfl (c_Md_begin l D cI cZ cO bm mi w u 3 0 0 H.size) rfl hl.1 rfl (Nat.le_of_ble_eq_true rfl) d_Md_sync_5 (by decide) (by decide)) (fun r1 u1 H locs hp1 hw => ?_)
  obtain ⟨mi1, w1⟩ := u1
  obtain ⟨hp1, hb1⟩ := hp1
  have hw : kx_w D (kx_T cI cZ cO) A_ s_ [((bm 0), .inr (6, [.int mi1.1, .int mi1.2.1, .int mi1.2.2.1, .ref (bm 1), .ref (bm 2), .ref (bm 3), .ref (bm 4), .ref (bm 5), .ref (bm 6), .ref (bm 7), .ref (bm 8), .ref (bm 9), .int mi1.2.2.2.1, .ref (bm 10), .ref (bm 11), .ref (bm 12), .ref (bm 13), .ref (bm 14), .ref (bm 15), .ref (bm 16), .ref (bm 17), .int mi1.2.2.2.2.1, .int mi1.2.2.2.2.2.1, .int mi1.2.2.2.2.2.2.1, .int mi1.2.2.2.2.2.2.2.1, .ref (bm 18), .ref (bm 19), .ref (bm 20), .ref (bm 21), .int mi1.2.2.2.2.2.2.2.2])), ((bm 1), .inl (cI, 4, .inl w1.1)), ((bm 2), .inl (cI, 4, .inl w1.2.1)), ((bm 3), .inl (cI, 4, .inl w1.2.2.1)), ((bm 4), .inl (cI, 4, .inl w1.2.2.2.1)), ((bm 5), .inl (cI, 4, .inl w1.2.2.2.2.1)), ((bm 6), .inl (cI, 4, .inl w1.2.2.2.2.2.1)), ((bm 7), .inl (cI, 4, .inl w1.2.2.2.2.2.2))] H locs := hw
  exact kx_ret_z I rfl hw hb1 (mi1, w1) ⟨(by simp only [f_Md_sync, ← hp1]), hb1⟩ [0, 1, 2, 3, 4, 5, 6, 7] (by decide) rfl d_Md_sync_8
def f_Md_print (mi : kt_I) (w : kt_W) (u : Int32) (c : Int32) : Int32 × kt_I × kt_W :=
  if c < 32 then (0, mi, w)
  else if 126 < c then (0, mi, w)
  else match f_Md_begin mi w u 4 0 c with
  | (r3, mi3, w3) => if r3 = 0 then (0, mi3, w3)
    else (1, mi3, w3)
set_option maxHeartbeats 4000000 in
set_option maxRecDepth 100000 in
theorem c_Md_print (l : Launch) (D : va_G) (cI cZ cO : ClassId) (bm : Nat → Nat) (mi : kt_I) (w : kt_W) (u : Int32) (c : Int32) : kx_Ci (S := kt_I × kt_W) l y_Md_print b_Md_print 3 (some .boolean) 1 0 0 D (kx_T cI cZ cO) [.ref (bm 0), .int u, .int c] [((bm 0), .inr (6, [.int mi.1, .int mi.2.1, .int mi.2.2.1, .ref (bm 1), .ref (bm 2), .ref (bm 3), .ref (bm 4), .ref (bm 5), .ref (bm 6), .ref (bm 7), .ref (bm 8), .ref (bm 9), .int mi.2.2.2.1, .ref (bm 10), .ref (bm 11), .ref (bm 12), .ref (bm 13), .ref (bm 14), .ref (bm 15), .ref (bm 16), .ref (bm 17), .int mi.2.2.2.2.1, .int mi.2.2.2.2.2.1, .int mi.2.2.2.2.2.2.1, .int mi.2.2.2.2.2.2.2.1, .ref (bm 18), .ref (bm 19), .ref (bm 20), .ref (bm 21), .int mi.2.2.2.2.2.2.2.2])), ((bm 1), .inl (cI, 4, .inl w.1)), ((bm 2), .inl (cI, 4, .inl w.2.1)), ((bm 3), .inl (cI, 4, .inl w.2.2.1)), ((bm 4), .inl (cI, 4, .inl w.2.2.2.1)), ((bm 5), .inl (cI, 4, .inl w.2.2.2.2.1)), ((bm 6), .inl (cI, 4, .inl w.2.2.2.2.2.1)), ((bm 7), .inl (cI, 4, .inl w.2.2.2.2.2.2))] (fun rr zz => (rr, zz) = f_Md_print mi w u c ∧ kx_b rr) (fun zz => [((bm 0), .inr (6, [.int zz.1.1, .int zz.1.2.1, .int zz.1.2.2.1, .ref (bm 1), .ref (bm 2), .ref (bm 3), .ref (bm 4), .ref (bm 5), .ref (bm 6), .ref (bm 7), .ref (bm 8), .ref (bm 9), .int zz.1.2.2.2.1, .ref (bm 10), .ref (bm 11), .ref (bm 12), .ref (bm 13), .ref (bm 14), .ref (bm 15), .ref (bm 16), .ref (bm 17), .int zz.1.2.2.2.2.1, .int zz.1.2.2.2.2.2.1, .int zz.1.2.2.2.2.2.2.1, .int zz.1.2.2.2.2.2.2.2.1, .ref (bm 18), .ref (bm 19), .ref (bm 20), .ref (bm 21), .int zz.1.2.2.2.2.2.2.2.2])), ((bm 1), .inl (cI, 4, .inl zz.2.1)), ((bm 2), .inl (cI, 4, .inl zz.2.2.1)), ((bm 3), .inl (cI, 4, .inl zz.2.2.2.1)), ((bm 4), .inl (cI, 4, .inl zz.2.2.2.2.1)), ((bm 5), .inl (cI, 4, .inl zz.2.2.2.2.2.1)), ((bm 6), .inl (cI, 4, .inl zz.2.2.2.2.2.2.1)), ((bm 7), .inl (cI, 4, .inl zz.2.2.2.2.2.2.2))]) := by
  refine kx_enter_i (by decide) (Nat.le_of_ble_eq_true rfl) ?_
  intro p_ e_ s_ m_ below_ meth_ c_ ls A_ H I hl hw
  have S := I.1
  have hx := S.1
  have hb := S.2.1
  have hl : lv_has ls 3 [(0, .ref (bm 0)), (1, .int u), (2, .int c)] := hl
  refine lv_iload_n hx hb d_Md_print_0 rfl (lv_at hl 2 rfl) ?_
  refine lv_bipush (v := 32) hx hb d_Md_print_1 (by decide) ?_
  refine lv_icmp_lt (tgt := 27) hx hb d_Md_print_3 (by decide) (fun h1 => ?_) (fun h1 => ?_)
  · refine lv_iconst (v := 0) hx hb d_Md_print_27 (by decide) ?_
    exact kx_ret_z I rfl hw (Or.inl rfl) (mi, w) ⟨(by simp only [f_Md_print, if_pos h1]), (Or.inl rfl)⟩ [0, 1, 2, 3, 4, 5, 6, 7] (by decide) rfl d_Md_print_28
  · refine lv_iload_n hx hb d_Md_print_6 rfl (lv_at hl 2 rfl) ?_
    refine lv_bipush (v := 126) hx hb d_Md_print_7 (by decide) ?_
    refine lv_icmp_gt (tgt := 27) hx hb d_Md_print_9 (by decide) (fun h2 => ?_) (fun h2 => ?_)
    · refine lv_iconst (v := 0) hx hb d_Md_print_27 (by decide) ?_
      exact kx_ret_z I rfl hw (Or.inl rfl) (mi, w) ⟨(by simp only [f_Md_print, if_neg h1, if_pos h2]), (Or.inl rfl)⟩ [0, 1, 2, 3, 4, 5, 6, 7] (by decide) rfl d_Md_print_28
    · refine lv_aload_n hx hb d_Md_print_12 rfl (lv_at hl 0 rfl) ?_
      refine lv_iload_n hx hb d_Md_print_13 rfl (lv_at hl 1 rfl) ?_
      refine lv_iconst (v := 4) hx hb d_Md_print_14 (by decide) ?_
      refine lv_iconst (v := 0) hx hb d_Md_print_15 (by decide) ?_
      refine lv_iload_n hx hb d_Md_print_16 rfl (lv_at hl 2 rfl) ?_
      refine kx_call_i (wc := [((bm 0), .inr (6, [.int mi.1, .int mi.2.1, .int mi.2.2.1, .ref (bm 1), .ref (bm 2), .ref (bm 3), .ref (bm 4), .ref (bm 5), .ref (bm 6), .ref (bm 7), .ref (bm 8), .ref (bm 9), .int mi.2.2.2.1, .ref (bm 10), .ref (bm 11), .ref (bm 12), .ref (bm 13), .ref (bm 14), .ref (bm 15), .ref (bm 16), .ref (bm 17), .int mi.2.2.2.2.1, .int mi.2.2.2.2.2.1, .int mi.2.2.2.2.2.2.1, .int mi.2.2.2.2.2.2.2.1, .ref (bm 18), .ref (bm 19), .ref (bm 20), .ref (bm 21), .int mi.2.2.2.2.2.2.2.2])), ((bm 1), .inl (cI, 4, .inl w.1)), ((bm 2), .inl (cI, 4, .inl w.2.1)), ((bm 3), .inl (cI, 4, .inl w.2.2.1)), ((bm 4), .inl (cI, 4, .inl w.2.2.2.1)), ((bm 5), .inl (cI, 4, .inl w.2.2.2.2.1)), ((bm 6), .inl (cI, 4, .inl w.2.2.2.2.2.1)), ((bm 7), .inl (cI, 4, .inl w.2.2.2.2.2.2))]) (wr := []) (rest := []) hw [0, 1, 2, 3, 4, 5, 6, 7] [] rfl rfl (by decide) (by decide) (kx_runV S hw fc_Md_81 rfl 0 rfl [0, 1, 2, 3, 4, 5, 6, 7] (by decide) rfl (c_Md_begin l D cI cZ cO bm mi w u 4 0 c H.size) rfl hl.1 rfl (Nat.le_of_ble_eq_true rfl) d_Md_print_17 (by decide) (by decide)) (fun r3 u3 H locs hp3 hw => ?_)
      obtain ⟨mi3, w3⟩ := u3
      obtain ⟨hp3, hb3⟩ := hp3
      have hw : kx_w D (kx_T cI cZ cO) A_ s_ [((bm 0), .inr (6, [.int mi3.1, .int mi3.2.1, .int mi3.2.2.1, .ref (bm 1), .ref (bm 2), .ref (bm 3), .ref (bm 4), .ref (bm 5), .ref (bm 6), .ref (bm 7), .ref (bm 8), .ref (bm 9), .int mi3.2.2.2.1, .ref (bm 10), .ref (bm 11), .ref (bm 12), .ref (bm 13), .ref (bm 14), .ref (bm 15), .ref (bm 16), .ref (bm 17), .int mi3.2.2.2.2.1, .int mi3.2.2.2.2.2.1, .int mi3.2.2.2.2.2.2.1, .int mi3.2.2.2.2.2.2.2.1, .ref (bm 18), .ref (bm 19), .ref (bm 20), .ref (bm 21), .int mi3.2.2.2.2.2.2.2.2])), ((bm 1), .inl (cI, 4, .inl w3.1)), ((bm 2), .inl (cI, 4, .inl w3.2.1)), ((bm 3), .inl (cI, 4, .inl w3.2.2.1)), ((bm 4), .inl (cI, 4, .inl w3.2.2.2.1)), ((bm 5), .inl (cI, 4, .inl w3.2.2.2.2.1)), ((bm 6), .inl (cI, 4, .inl w3.2.2.2.2.2.1)), ((bm 7), .inl (cI, 4, .inl w3.2.2.2.2.2.2))] H locs := hw
      refine lv_if_eq (tgt := 27) hx hb d_Md_print_20 (by decide) (fun h4 => ?_) (fun h4 => ?_)
      · refine lv_iconst (v := 0) hx hb d_Md_print_27 (by decide) ?_
        exact kx_ret_z I rfl hw (Or.inl rfl) (mi3, w3) ⟨(by simp only [f_Md_print, if_neg h1, if_neg h2, ← hp3, if_pos h4]), (Or.inl rfl)⟩ [0, 1, 2, 3, 4, 5, 6, 7] (by decide) rfl d_Md_print_28
      · refine lv_iconst (v := 1) hx hb d_Md_print_23 (by decide) ?_
        refine lv_goto (tgt := 28) hx hb d_Md_print_24 (by decide) ?_
        exact kx_ret_z I rfl hw (Or.inr rfl) (mi3, w3) ⟨(by simp only [f_Md_print, if_neg h1, if_neg h2, ← hp3, if_neg h4]), (Or.inr rfl)⟩ [0, 1, 2, 3, 4, 5, 6, 7] (by decide) rfl d_Md_print_28
def f_Md_stands (mi : kt_I) (w : kt_W) (u : Int32) (s : Int32) : Int32 :=
  if (w.2.2.2.2.1 u.toNatClampNeg) = 1 then (if (w.1 u.toNatClampNeg) = 4 then (if 1 = s then 1
      else 0)
    else if 0 = s then 1
    else 0)
  else 0
set_option maxHeartbeats 4000000 in
set_option maxRecDepth 100000 in
theorem c_Md_stands (l : Launch) (D : va_G) (cI cZ cO : ClassId) (bm : Nat → Nat) (mi : kt_I) (w : kt_W) (u : Int32) (s : Int32) (hu : vp_in u 4) : kx_Ci (S := Unit) l y_Md_stands b_Md_stands 3 (some .boolean) 0 0 0 D (kx_T cI cZ cO) [.ref (bm 0), .int u, .int s] [((bm 0), .inr (6, [.int mi.1, .int mi.2.1, .int mi.2.2.1, .ref (bm 1), .ref (bm 2), .ref (bm 3), .ref (bm 4), .ref (bm 5), .ref (bm 6), .ref (bm 7), .ref (bm 8), .ref (bm 9), .int mi.2.2.2.1, .ref (bm 10), .ref (bm 11), .ref (bm 12), .ref (bm 13), .ref (bm 14), .ref (bm 15), .ref (bm 16), .ref (bm 17), .int mi.2.2.2.2.1, .int mi.2.2.2.2.2.1, .int mi.2.2.2.2.2.2.1, .int mi.2.2.2.2.2.2.2.1, .ref (bm 18), .ref (bm 19), .ref (bm 20), .ref (bm 21), .int mi.2.2.2.2.2.2.2.2])), ((bm 1), .inl (cI, 4, .inl w.1)), ((bm 2), .inl (cI, 4, .inl w.2.1)), ((bm 3), .inl (cI, 4, .inl w.2.2.1)), ((bm 4), .inl (cI, 4, .inl w.2.2.2.1)), ((bm 5), .inl (cI, 4, .inl w.2.2.2.2.1)), ((bm 6), .inl (cI, 4, .inl w.2.2.2.2.2.1)), ((bm 7), .inl (cI, 4, .inl w.2.2.2.2.2.2))] (fun rr _ => rr = f_Md_stands mi w u s ∧ kx_b rr) (fun _ => [((bm 0), .inr (6, [.int mi.1, .int mi.2.1, .int mi.2.2.1, .ref (bm 1), .ref (bm 2), .ref (bm 3), .ref (bm 4), .ref (bm 5), .ref (bm 6), .ref (bm 7), .ref (bm 8), .ref (bm 9), .int mi.2.2.2.1, .ref (bm 10), .ref (bm 11), .ref (bm 12), .ref (bm 13), .ref (bm 14), .ref (bm 15), .ref (bm 16), .ref (bm 17), .int mi.2.2.2.2.1, .int mi.2.2.2.2.2.1, .int mi.2.2.2.2.2.2.1, .int mi.2.2.2.2.2.2.2.1, .ref (bm 18), .ref (bm 19), .ref (bm 20), .ref (bm 21), .int mi.2.2.2.2.2.2.2.2])), ((bm 1), .inl (cI, 4, .inl w.1)), ((bm 2), .inl (cI, 4, .inl w.2.1)), ((bm 3), .inl (cI, 4, .inl w.2.2.1)), ((bm 4), .inl (cI, 4, .inl w.2.2.2.1)), ((bm 5), .inl (cI, 4, .inl w.2.2.2.2.1)), ((bm 6), .inl (cI, 4, .inl w.2.2.2.2.2.1)), ((bm 7), .inl (cI, 4, .inl w.2.2.2.2.2.2))]) := by
  refine kx_enter_i (by decide) (Nat.le_of_ble_eq_true rfl) ?_
  intro p_ e_ s_ m_ below_ meth_ c_ ls A_ H I hl hw
  have S := I.1
  have hx := S.1
  have hb := S.2.1
  have hl : lv_has ls 3 [(0, .ref (bm 0)), (1, .int u), (2, .int s)] := hl
  refine lv_aload_n hx hb d_Md_stands_0 rfl (lv_at hl 0 rfl) ?_
  refine kx_get S hw fg_Md_22 0 rfl rfl d_Md_stands_1 ?_
  refine lv_iload_n hx hb d_Md_stands_4 rfl (lv_at hl 1 rfl) ?_
  refine kx_iald S hw 5 0 rfl rfl (j := u.toNatClampNeg) rfl (hu) d_Md_stands_5 ?_
  refine lv_iconst (v := 1) hx hb d_Md_stands_6 (by decide) ?_
  refine lv_icmp_ne (tgt := 33) hx hb d_Md_stands_7 (by decide) (fun h1 => ?_) (fun h1 => ?_)
  · refine lv_iconst (v := 0) hx hb d_Md_stands_33 (by decide) ?_
    exact kx_ret_z I rfl hw (Or.inl rfl) () ⟨(by simp only [f_Md_stands, if_neg h1]), (Or.inl rfl)⟩ [0, 1, 2, 3, 4, 5, 6, 7] (by decide) rfl d_Md_stands_34
  · refine lv_aload_n hx hb d_Md_stands_10 rfl (lv_at hl 0 rfl) ?_
    refine kx_get S hw fg_Md_7 0 rfl rfl d_Md_stands_11 ?_
    refine lv_iload_n hx hb d_Md_stands_14 rfl (lv_at hl 1 rfl) ?_
    refine kx_iald S hw 1 0 rfl rfl (j := u.toNatClampNeg) rfl (hu) d_Md_stands_15 ?_
    refine lv_iconst (v := 4) hx hb d_Md_stands_16 (by decide) ?_
    refine lv_icmp_ne (tgt := 24) hx hb d_Md_stands_17 (by decide) (fun h2 => ?_) (fun h2 => ?_)
    · refine lv_iconst (v := 0) hx hb d_Md_stands_24 (by decide) ?_
      refine lv_iload_n hx hb d_Md_stands_25 rfl (lv_at hl 2 rfl) ?_
      refine lv_icmp_ne (tgt := 33) hx hb d_Md_stands_26 (by decide) (fun h3 => ?_) (fun h3 => ?_)
      · refine lv_iconst (v := 0) hx hb d_Md_stands_33 (by decide) ?_
        exact kx_ret_z I rfl hw (Or.inl rfl) () ⟨(by simp only [f_Md_stands, if_pos h1, if_neg h2, if_neg h3]), (Or.inl rfl)⟩ [0, 1, 2, 3, 4, 5, 6, 7] (by decide) rfl d_Md_stands_34
      · refine lv_iconst (v := 1) hx hb d_Md_stands_29 (by decide) ?_
        refine lv_goto (tgt := 34) hx hb d_Md_stands_30 (by decide) ?_
        exact kx_ret_z I rfl hw (Or.inr rfl) () ⟨(by simp only [f_Md_stands, if_pos h1, if_neg h2, if_pos h3]), (Or.inr rfl)⟩ [0, 1, 2, 3, 4, 5, 6, 7] (by decide) rfl d_Md_stands_34
    · refine lv_iconst (v := 1) hx hb d_Md_stands_20 (by decide) ?_
      refine lv_goto (tgt := 25) hx hb d_Md_stands_21 (by decide) ?_
      refine lv_iload_n hx hb d_Md_stands_25 rfl (lv_at hl 2 rfl) ?_
      refine lv_icmp_ne (tgt := 33) hx hb d_Md_stands_26 (by decide) (fun h4 => ?_) (fun h4 => ?_)
      · refine lv_iconst (v := 0) hx hb d_Md_stands_33 (by decide) ?_
        exact kx_ret_z I rfl hw (Or.inl rfl) () ⟨(by simp only [f_Md_stands, if_pos h1, if_pos h2, if_neg h4]), (Or.inl rfl)⟩ [0, 1, 2, 3, 4, 5, 6, 7] (by decide) rfl d_Md_stands_34
      · refine lv_iconst (v := 1) hx hb d_Md_stands_29 (by decide) ?_
        refine lv_goto (tgt := 34) hx hb d_Md_stands_30 (by decide) ?_
        exact kx_ret_z I rfl hw (Or.inr rfl) () ⟨(by simp only [f_Md_stands, if_pos h1, if_pos h2, if_pos h4]), (Or.inr rfl)⟩ [0, 1, 2, 3, 4, 5, 6, 7] (by decide) rfl d_Md_stands_34
def f_Md_end (mi : kt_I) (w : kt_W) (u : Int32) (k : Int32) (v : Int32) : kt_W :=
  (w.1, w.2.1, w.2.2.1, w.2.2.2.1, upd w.2.2.2.2.1 u.toNatClampNeg k, upd w.2.2.2.2.2.1 u.toNatClampNeg v, w.2.2.2.2.2.2)
set_option maxHeartbeats 4000000 in
set_option maxRecDepth 100000 in
theorem c_Md_end (l : Launch) (D : va_G) (cI cZ cO : ClassId) (bm : Nat → Nat) (mi : kt_I) (w : kt_W) (u : Int32) (k : Int32) (v : Int32) (hu : vp_in u 4) : kx_Cv (S := kt_W) l y_Md_end b_Md_end 4 0 0 0 D (kx_T cI cZ cO) [.ref (bm 0), .int u, .int k, .int v] [((bm 0), .inr (6, [.int mi.1, .int mi.2.1, .int mi.2.2.1, .ref (bm 1), .ref (bm 2), .ref (bm 3), .ref (bm 4), .ref (bm 5), .ref (bm 6), .ref (bm 7), .ref (bm 8), .ref (bm 9), .int mi.2.2.2.1, .ref (bm 10), .ref (bm 11), .ref (bm 12), .ref (bm 13), .ref (bm 14), .ref (bm 15), .ref (bm 16), .ref (bm 17), .int mi.2.2.2.2.1, .int mi.2.2.2.2.2.1, .int mi.2.2.2.2.2.2.1, .int mi.2.2.2.2.2.2.2.1, .ref (bm 18), .ref (bm 19), .ref (bm 20), .ref (bm 21), .int mi.2.2.2.2.2.2.2.2])), ((bm 1), .inl (cI, 4, .inl w.1)), ((bm 2), .inl (cI, 4, .inl w.2.1)), ((bm 3), .inl (cI, 4, .inl w.2.2.1)), ((bm 4), .inl (cI, 4, .inl w.2.2.2.1)), ((bm 5), .inl (cI, 4, .inl w.2.2.2.2.1)), ((bm 6), .inl (cI, 4, .inl w.2.2.2.2.2.1)), ((bm 7), .inl (cI, 4, .inl w.2.2.2.2.2.2))] (fun zz => zz = f_Md_end mi w u k v) (fun zz => [((bm 0), .inr (6, [.int mi.1, .int mi.2.1, .int mi.2.2.1, .ref (bm 1), .ref (bm 2), .ref (bm 3), .ref (bm 4), .ref (bm 5), .ref (bm 6), .ref (bm 7), .ref (bm 8), .ref (bm 9), .int mi.2.2.2.1, .ref (bm 10), .ref (bm 11), .ref (bm 12), .ref (bm 13), .ref (bm 14), .ref (bm 15), .ref (bm 16), .ref (bm 17), .int mi.2.2.2.2.1, .int mi.2.2.2.2.2.1, .int mi.2.2.2.2.2.2.1, .int mi.2.2.2.2.2.2.2.1, .ref (bm 18), .ref (bm 19), .ref (bm 20), .ref (bm 21), .int mi.2.2.2.2.2.2.2.2])), ((bm 1), .inl (cI, 4, .inl zz.1)), ((bm 2), .inl (cI, 4, .inl zz.2.1)), ((bm 3), .inl (cI, 4, .inl zz.2.2.1)), ((bm 4), .inl (cI, 4, .inl zz.2.2.2.1)), ((bm 5), .inl (cI, 4, .inl zz.2.2.2.2.1)), ((bm 6), .inl (cI, 4, .inl zz.2.2.2.2.2.1)), ((bm 7), .inl (cI, 4, .inl zz.2.2.2.2.2.2))]) := by
  refine kx_enter_v (by decide) (Nat.le_of_ble_eq_true rfl) ?_
  intro p_ e_ s_ m_ below_ meth_ c_ ls A_ H I hl hw
  have S := I.1
  have hx := S.1
  have hb := S.2.1
  have hl : lv_has ls 4 [(0, .ref (bm 0)), (1, .int u), (2, .int k), (3, .int v)] := hl
  refine lv_aload_n hx hb d_Md_end_0 rfl (lv_at hl 0 rfl) ?_
  refine kx_get S hw fg_Md_22 0 rfl rfl d_Md_end_1 ?_
  refine lv_iload_n hx hb d_Md_end_4 rfl (lv_at hl 1 rfl) ?_
  refine lv_iload_n hx hb d_Md_end_5 rfl (lv_at hl 2 rfl) ?_
  refine kx_iast S hw 5 0 rfl rfl (j := u.toNatClampNeg) rfl (hu) d_Md_end_6 (fun H locs hw => ?_)
  have hw : kx_w D (kx_T cI cZ cO) A_ s_ [((bm 0), .inr (6, [.int mi.1, .int mi.2.1, .int mi.2.2.1, .ref (bm 1), .ref (bm 2), .ref (bm 3), .ref (bm 4), .ref (bm 5), .ref (bm 6), .ref (bm 7), .ref (bm 8), .ref (bm 9), .int mi.2.2.2.1, .ref (bm 10), .ref (bm 11), .ref (bm 12), .ref (bm 13), .ref (bm 14), .ref (bm 15), .ref (bm 16), .ref (bm 17), .int mi.2.2.2.2.1, .int mi.2.2.2.2.2.1, .int mi.2.2.2.2.2.2.1, .int mi.2.2.2.2.2.2.2.1, .ref (bm 18), .ref (bm 19), .ref (bm 20), .ref (bm 21), .int mi.2.2.2.2.2.2.2.2])), ((bm 1), .inl (cI, 4, .inl w.1)), ((bm 2), .inl (cI, 4, .inl w.2.1)), ((bm 3), .inl (cI, 4, .inl w.2.2.1)), ((bm 4), .inl (cI, 4, .inl w.2.2.2.1)), ((bm 5), .inl (cI, 4, .inl (upd w.2.2.2.2.1 u.toNatClampNeg k))), ((bm 6), .inl (cI, 4, .inl w.2.2.2.2.2.1)), ((bm 7), .inl (cI, 4, .inl w.2.2.2.2.2.2))] H locs := hw
  refine lv_aload_n hx hb d_Md_end_7 rfl (lv_at hl 0 rfl) ?_
  refine kx_get S hw fg_Md_25 0 rfl rfl d_Md_end_8 ?_
  refine lv_iload_n hx hb d_Md_end_11 rfl (lv_at hl 1 rfl) ?_
  refine lv_iload_n hx hb d_Md_end_12 rfl (lv_at hl 3 rfl) ?_
  refine kx_iast S hw 6 0 rfl rfl (j := u.toNatClampNeg) rfl (hu) d_Md_end_13 (fun H locs hw => ?_)
  have hw : kx_w D (kx_T cI cZ cO) A_ s_ [((bm 0), .inr (6, [.int mi.1, .int mi.2.1, .int mi.2.2.1, .ref (bm 1), .ref (bm 2), .ref (bm 3), .ref (bm 4), .ref (bm 5), .ref (bm 6), .ref (bm 7), .ref (bm 8), .ref (bm 9), .int mi.2.2.2.1, .ref (bm 10), .ref (bm 11), .ref (bm 12), .ref (bm 13), .ref (bm 14), .ref (bm 15), .ref (bm 16), .ref (bm 17), .int mi.2.2.2.2.1, .int mi.2.2.2.2.2.1, .int mi.2.2.2.2.2.2.1, .int mi.2.2.2.2.2.2.2.1, .ref (bm 18), .ref (bm 19), .ref (bm 20), .ref (bm 21), .int mi.2.2.2.2.2.2.2.2])), ((bm 1), .inl (cI, 4, .inl w.1)), ((bm 2), .inl (cI, 4, .inl w.2.1)), ((bm 3), .inl (cI, 4, .inl w.2.2.1)), ((bm 4), .inl (cI, 4, .inl w.2.2.2.1)), ((bm 5), .inl (cI, 4, .inl (upd w.2.2.2.2.1 u.toNatClampNeg k))), ((bm 6), .inl (cI, 4, .inl (upd w.2.2.2.2.2.1 u.toNatClampNeg v))), ((bm 7), .inl (cI, 4, .inl w.2.2.2.2.2.2))] H locs := hw
  exact kx_ret_v I rfl hw (w.1, w.2.1, w.2.2.1, w.2.2.2.1, upd w.2.2.2.2.1 u.toNatClampNeg k, upd w.2.2.2.2.2.1 u.toNatClampNeg v, w.2.2.2.2.2.2) (by simp only [f_Md_end]) [0, 1, 2, 3, 4, 5, 6, 7] (by decide) rfl d_Md_end_14
def f_Md_pending (mi : kt_I) (w : kt_W) : Int32 :=
  if (w.2.2.2.2.1 0) = 1 then (if (w.2.2.2.2.1 1) = 1 then (if (w.2.2.2.2.1 2) = 1 then (if (w.2.2.2.2.1 3) = 1 then 4
        else 3)
      else if (w.2.2.2.2.1 3) = 1 then 3
      else 2)
    else if (w.2.2.2.2.1 2) = 1 then (if (w.2.2.2.2.1 3) = 1 then 3
      else 2)
    else if (w.2.2.2.2.1 3) = 1 then 2
    else 1)
  else if (w.2.2.2.2.1 1) = 1 then (if (w.2.2.2.2.1 2) = 1 then (if (w.2.2.2.2.1 3) = 1 then 3
      else 2)
    else if (w.2.2.2.2.1 3) = 1 then 2
    else 1)
  else if (w.2.2.2.2.1 2) = 1 then (if (w.2.2.2.2.1 3) = 1 then 2
    else 1)
  else if (w.2.2.2.2.1 3) = 1 then 1
  else 0
set_option maxHeartbeats 4000000 in
set_option maxRecDepth 100000 in
theorem c_Md_pending (l : Launch) (D : va_G) (cI cZ cO : ClassId) (bm : Nat → Nat) (mi : kt_I) (w : kt_W) : kx_Ci (S := Unit) l y_Md_pending b_Md_pending 3 (some .int) 0 0 0 D (kx_T cI cZ cO) [.ref (bm 0)] [((bm 0), .inr (6, [.int mi.1, .int mi.2.1, .int mi.2.2.1, .ref (bm 1), .ref (bm 2), .ref (bm 3), .ref (bm 4), .ref (bm 5), .ref (bm 6), .ref (bm 7), .ref (bm 8), .ref (bm 9), .int mi.2.2.2.1, .ref (bm 10), .ref (bm 11), .ref (bm 12), .ref (bm 13), .ref (bm 14), .ref (bm 15), .ref (bm 16), .ref (bm 17), .int mi.2.2.2.2.1, .int mi.2.2.2.2.2.1, .int mi.2.2.2.2.2.2.1, .int mi.2.2.2.2.2.2.2.1, .ref (bm 18), .ref (bm 19), .ref (bm 20), .ref (bm 21), .int mi.2.2.2.2.2.2.2.2])), ((bm 1), .inl (cI, 4, .inl w.1)), ((bm 2), .inl (cI, 4, .inl w.2.1)), ((bm 3), .inl (cI, 4, .inl w.2.2.1)), ((bm 4), .inl (cI, 4, .inl w.2.2.2.1)), ((bm 5), .inl (cI, 4, .inl w.2.2.2.2.1)), ((bm 6), .inl (cI, 4, .inl w.2.2.2.2.2.1)), ((bm 7), .inl (cI, 4, .inl w.2.2.2.2.2.2))] (fun rr _ => rr = f_Md_pending mi w) (fun _ => [((bm 0), .inr (6, [.int mi.1, .int mi.2.1, .int mi.2.2.1, .ref (bm 1), .ref (bm 2), .ref (bm 3), .ref (bm 4), .ref (bm 5), .ref (bm 6), .ref (bm 7), .ref (bm 8), .ref (bm 9), .int mi.2.2.2.1, .ref (bm 10), .ref (bm 11), .ref (bm 12), .ref (bm 13), .ref (bm 14), .ref (bm 15), .ref (bm 16), .ref (bm 17), .int mi.2.2.2.2.1, .int mi.2.2.2.2.2.1, .int mi.2.2.2.2.2.2.1, .int mi.2.2.2.2.2.2.2.1, .ref (bm 18), .ref (bm 19), .ref (bm 20), .ref (bm 21), .int mi.2.2.2.2.2.2.2.2])), ((bm 1), .inl (cI, 4, .inl w.1)), ((bm 2), .inl (cI, 4, .inl w.2.1)), ((bm 3), .inl (cI, 4, .inl w.2.2.1)), ((bm 4), .inl (cI, 4, .inl w.2.2.2.1)), ((bm 5), .inl (cI, 4, .inl w.2.2.2.2.1)), ((bm 6), .inl (cI, 4, .inl w.2.2.2.2.2.1)), ((bm 7), .inl (cI, 4, .inl w.2.2.2.2.2.2))]) := by
  refine kx_enter_i (by decide) (Nat.le_of_ble_eq_true rfl) ?_
  intro p_ e_ s_ m_ below_ meth_ c_ ls A_ H I hl hw
  have S := I.1
  have hx := S.1
  have hb := S.2.1
  have hl : lv_has ls 3 [(0, .ref (bm 0))] := hl
  refine lv_iconst (v := 0) hx hb d_Md_pending_0 (by decide) ?_
  refine lv_istore_n (lv' := [(1, .int 0), (0, .ref (bm 0))]) hx hb d_Md_pending_1 rfl hl (by decide) rfl (fun ls hl => ?_)
  refine lv_iconst (v := 0) hx hb d_Md_pending_2 (by decide) ?_
  refine lv_istore_n (lv' := [(2, .int 0), (1, .int 0), (0, .ref (bm 0))]) hx hb d_Md_pending_3 rfl hl (by decide) rfl (fun ls hl => ?_)
  refine lv_iload_n hx hb d_Md_pending_4 rfl (lv_at hl 0 rfl) ?_
  refine lv_iconst (v := 4) hx hb d_Md_pending_5 (by decide) ?_
  refine lv_icmp_ge (tgt := 33) hx hb d_Md_pending_6 (by decide) (fun h => absurd h (by decide)) (fun _ => ?_)
  refine lv_iload_n hx hb d_Md_pending_9 rfl (lv_at hl 1 rfl) ?_
  refine lv_aload_n hx hb d_Md_pending_10 rfl (lv_at hl 2 rfl) ?_
  refine kx_get S hw fg_Md_22 0 rfl rfl d_Md_pending_11 ?_
  refine lv_iload_n hx hb d_Md_pending_14 rfl (lv_at hl 0 rfl) ?_
  refine kx_iald S hw 5 0 rfl rfl (j := 0) (by decide) (by unfold vp_in; decide) d_Md_pending_15 ?_
  refine lv_iconst (v := 1) hx hb d_Md_pending_16 (by decide) ?_
  refine lv_icmp_ne (tgt := 24) hx hb d_Md_pending_17 (by decide) (fun h1 => ?_) (fun h1 => ?_)
  · refine lv_iconst (v := 0) hx hb d_Md_pending_24 (by decide) ?_
    refine lv_iadd hx hb d_Md_pending_25 ?_
    refine kx_top (v := 0) (by decide) ?_
    refine lv_istore_n (lv' := [(1, .int 0), (2, .int 0), (0, .ref (bm 0))]) hx hb d_Md_pending_26 rfl hl (by decide) rfl (fun ls hl => ?_)
    refine lv_iinc (v := 1) (k := 1) (lv' := [(2, .int 1), (1, .int 0), (0, .ref (bm 0))]) hx hb d_Md_pending_27 hl rfl (by decide) (by decide) rfl (fun ls hl => ?_)
    refine lv_goto (tgt := 4) hx hb d_Md_pending_30 (by decide) ?_
    refine lv_iload_n hx hb d_Md_pending_4 rfl (lv_at hl 0 rfl) ?_
    refine lv_iconst (v := 4) hx hb d_Md_pending_5 (by decide) ?_
    refine lv_icmp_ge (tgt := 33) hx hb d_Md_pending_6 (by decide) (fun h => absurd h (by decide)) (fun _ => ?_)
    refine lv_iload_n hx hb d_Md_pending_9 rfl (lv_at hl 1 rfl) ?_
    refine lv_aload_n hx hb d_Md_pending_10 rfl (lv_at hl 2 rfl) ?_
    refine kx_get S hw fg_Md_22 0 rfl rfl d_Md_pending_11 ?_
    refine lv_iload_n hx hb d_Md_pending_14 rfl (lv_at hl 0 rfl) ?_
    refine kx_iald S hw 5 0 rfl rfl (j := 1) (by decide) (by unfold vp_in; decide) d_Md_pending_15 ?_
    refine lv_iconst (v := 1) hx hb d_Md_pending_16 (by decide) ?_
    refine lv_icmp_ne (tgt := 24) hx hb d_Md_pending_17 (by decide) (fun h2 => ?_) (fun h2 => ?_)
    · refine lv_iconst (v := 0) hx hb d_Md_pending_24 (by decide) ?_
      refine lv_iadd hx hb d_Md_pending_25 ?_
      refine kx_top (v := 0) (by decide) ?_
      refine lv_istore_n (lv' := [(1, .int 0), (2, .int 1), (0, .ref (bm 0))]) hx hb d_Md_pending_26 rfl hl (by decide) rfl (fun ls hl => ?_)
      refine lv_iinc (v := 2) (k := 1) (lv' := [(2, .int 2), (1, .int 0), (0, .ref (bm 0))]) hx hb d_Md_pending_27 hl rfl (by decide) (by decide) rfl (fun ls hl => ?_)
      refine lv_goto (tgt := 4) hx hb d_Md_pending_30 (by decide) ?_
      refine lv_iload_n hx hb d_Md_pending_4 rfl (lv_at hl 0 rfl) ?_
      refine lv_iconst (v := 4) hx hb d_Md_pending_5 (by decide) ?_
      refine lv_icmp_ge (tgt := 33) hx hb d_Md_pending_6 (by decide) (fun h => absurd h (by decide)) (fun _ => ?_)
      refine lv_iload_n hx hb d_Md_pending_9 rfl (lv_at hl 1 rfl) ?_
      refine lv_aload_n hx hb d_Md_pending_10 rfl (lv_at hl 2 rfl) ?_
      refine kx_get S hw fg_Md_22 0 rfl rfl d_Md_pending_11 ?_
      refine lv_iload_n hx hb d_Md_pending_14 rfl (lv_at hl 0 rfl) ?_
      refine kx_iald S hw 5 0 rfl rfl (j := 2) (by decide) (by unfold vp_in; decide) d_Md_pending_15 ?_
      refine lv_iconst (v := 1) hx hb d_Md_pending_16 (by decide) ?_
      refine lv_icmp_ne (tgt := 24) hx hb d_Md_pending_17 (by decide) (fun h3 => ?_) (fun h3 => ?_)
      · refine lv_iconst (v := 0) hx hb d_Md_pending_24 (by decide) ?_
        refine lv_iadd hx hb d_Md_pending_25 ?_
        refine kx_top (v := 0) (by decide) ?_
        refine lv_istore_n (lv' := [(1, .int 0), (2, .int 2), (0, .ref (bm 0))]) hx hb d_Md_pending_26 rfl hl (by decide) rfl (fun ls hl => ?_)
        refine lv_iinc (v := 3) (k := 1) (lv' := [(2, .int 3), (1, .int 0), (0, .ref (bm 0))]) hx hb d_Md_pending_27 hl rfl (by decide) (by decide) rfl (fun ls hl => ?_)
        refine lv_goto (tgt := 4) hx hb d_Md_pending_30 (by decide) ?_
        refine lv_iload_n hx hb d_Md_pending_4 rfl (lv_at hl 0 rfl) ?_
        refine lv_iconst (v := 4) hx hb d_Md_pending_5 (by decide) ?_
        refine lv_icmp_ge (tgt := 33) hx hb d_Md_pending_6 (by decide) (fun h => absurd h (by decide)) (fun _ => ?_)
        refine lv_iload_n hx hb d_Md_pending_9 rfl (lv_at hl 1 rfl) ?_
        refine lv_aload_n hx hb d_Md_pending_10 rfl (lv_at hl 2 rfl) ?_
        refine kx_get S hw fg_Md_22 0 rfl rfl d_Md_pending_11 ?_
        refine lv_iload_n hx hb d_Md_pending_14 rfl (lv_at hl 0 rfl) ?_
        refine kx_iald S hw 5 0 rfl rfl (j := 3) (by decide) (by unfold vp_in; decide) d_Md_pending_15 ?_
        refine lv_iconst (v := 1) hx hb d_Md_pending_16 (by decide) ?_
        refine lv_icmp_ne (tgt := 24) hx hb d_Md_pending_17 (by decide) (fun h4 => ?_) (fun h4 => ?_)
        · refine lv_iconst (v := 0) hx hb d_Md_pending_24 (by decide) ?_
          refine lv_iadd hx hb d_Md_pending_25 ?_
          refine kx_top (v := 0) (by decide) ?_
          refine lv_istore_n (lv' := [(1, .int 0), (2, .int 3), (0, .ref (bm 0))]) hx hb d_Md_pending_26 rfl hl (by decide) rfl (fun ls hl => ?_)
          refine lv_iinc (v := 4) (k := 1) (lv' := [(2, .int 4), (1, .int 0), (0, .ref (bm 0))]) hx hb d_Md_pending_27 hl rfl (by decide) (by decide) rfl (fun ls hl => ?_)
          refine lv_goto (tgt := 4) hx hb d_Md_pending_30 (by decide) ?_
          refine lv_iload_n hx hb d_Md_pending_4 rfl (lv_at hl 0 rfl) ?_
          refine lv_iconst (v := 4) hx hb d_Md_pending_5 (by decide) ?_
          refine lv_icmp_ge (tgt := 33) hx hb d_Md_pending_6 (by decide) (fun _ => ?_) (fun h => absurd h (by decide))
          refine lv_iload_n hx hb d_Md_pending_33 rfl (lv_at hl 1 rfl) ?_
          exact kx_ret_i I rfl hw () (by simp only [f_Md_pending, if_neg h1, if_neg h2, if_neg h3, if_neg h4]) [0, 1, 2, 3, 4, 5, 6, 7] (by decide) rfl d_Md_pending_34
        · refine lv_iconst (v := 1) hx hb d_Md_pending_20 (by decide) ?_
          refine lv_goto (tgt := 25) hx hb d_Md_pending_21 (by decide) ?_
          refine lv_iadd hx hb d_Md_pending_25 ?_
          refine kx_top (v := 1) (by decide) ?_
          refine lv_istore_n (lv' := [(1, .int 1), (2, .int 3), (0, .ref (bm 0))]) hx hb d_Md_pending_26 rfl hl (by decide) rfl (fun ls hl => ?_)
          refine lv_iinc (v := 4) (k := 1) (lv' := [(2, .int 4), (1, .int 1), (0, .ref (bm 0))]) hx hb d_Md_pending_27 hl rfl (by decide) (by decide) rfl (fun ls hl => ?_)
          refine lv_goto (tgt := 4) hx hb d_Md_pending_30 (by decide) ?_
          refine lv_iload_n hx hb d_Md_pending_4 rfl (lv_at hl 0 rfl) ?_
          refine lv_iconst (v := 4) hx hb d_Md_pending_5 (by decide) ?_
          refine lv_icmp_ge (tgt := 33) hx hb d_Md_pending_6 (by decide) (fun _ => ?_) (fun h => absurd h (by decide))
          refine lv_iload_n hx hb d_Md_pending_33 rfl (lv_at hl 1 rfl) ?_
          exact kx_ret_i I rfl hw () (by simp only [f_Md_pending, if_neg h1, if_neg h2, if_neg h3, if_pos h4]) [0, 1, 2, 3, 4, 5, 6, 7] (by decide) rfl d_Md_pending_34
      · refine lv_iconst (v := 1) hx hb d_Md_pending_20 (by decide) ?_
        refine lv_goto (tgt := 25) hx hb d_Md_pending_21 (by decide) ?_
        refine lv_iadd hx hb d_Md_pending_25 ?_
        refine kx_top (v := 1) (by decide) ?_
        refine lv_istore_n (lv' := [(1, .int 1), (2, .int 2), (0, .ref (bm 0))]) hx hb d_Md_pending_26 rfl hl (by decide) rfl (fun ls hl => ?_)
        refine lv_iinc (v := 3) (k := 1) (lv' := [(2, .int 3), (1, .int 1), (0, .ref (bm 0))]) hx hb d_Md_pending_27 hl rfl (by decide) (by decide) rfl (fun ls hl => ?_)
        refine lv_goto (tgt := 4) hx hb d_Md_pending_30 (by decide) ?_
        refine lv_iload_n hx hb d_Md_pending_4 rfl (lv_at hl 0 rfl) ?_
        refine lv_iconst (v := 4) hx hb d_Md_pending_5 (by decide) ?_
        refine lv_icmp_ge (tgt := 33) hx hb d_Md_pending_6 (by decide) (fun h => absurd h (by decide)) (fun _ => ?_)
        refine lv_iload_n hx hb d_Md_pending_9 rfl (lv_at hl 1 rfl) ?_
        refine lv_aload_n hx hb d_Md_pending_10 rfl (lv_at hl 2 rfl) ?_
        refine kx_get S hw fg_Md_22 0 rfl rfl d_Md_pending_11 ?_
        refine lv_iload_n hx hb d_Md_pending_14 rfl (lv_at hl 0 rfl) ?_
        refine kx_iald S hw 5 0 rfl rfl (j := 3) (by decide) (by unfold vp_in; decide) d_Md_pending_15 ?_
        refine lv_iconst (v := 1) hx hb d_Md_pending_16 (by decide) ?_
        refine lv_icmp_ne (tgt := 24) hx hb d_Md_pending_17 (by decide) (fun h5 => ?_) (fun h5 => ?_)
        · refine lv_iconst (v := 0) hx hb d_Md_pending_24 (by decide) ?_
          refine lv_iadd hx hb d_Md_pending_25 ?_
          refine kx_top (v := 1) (by decide) ?_
          refine lv_istore_n (lv' := [(1, .int 1), (2, .int 3), (0, .ref (bm 0))]) hx hb d_Md_pending_26 rfl hl (by decide) rfl (fun ls hl => ?_)
          refine lv_iinc (v := 4) (k := 1) (lv' := [(2, .int 4), (1, .int 1), (0, .ref (bm 0))]) hx hb d_Md_pending_27 hl rfl (by decide) (by decide) rfl (fun ls hl => ?_)
          refine lv_goto (tgt := 4) hx hb d_Md_pending_30 (by decide) ?_
          refine lv_iload_n hx hb d_Md_pending_4 rfl (lv_at hl 0 rfl) ?_
          refine lv_iconst (v := 4) hx hb d_Md_pending_5 (by decide) ?_
          refine lv_icmp_ge (tgt := 33) hx hb d_Md_pending_6 (by decide) (fun _ => ?_) (fun h => absurd h (by decide))
          refine lv_iload_n hx hb d_Md_pending_33 rfl (lv_at hl 1 rfl) ?_
          exact kx_ret_i I rfl hw () (by simp only [f_Md_pending, if_neg h1, if_neg h2, if_pos h3, if_neg h5]) [0, 1, 2, 3, 4, 5, 6, 7] (by decide) rfl d_Md_pending_34
        · refine lv_iconst (v := 1) hx hb d_Md_pending_20 (by decide) ?_
          refine lv_goto (tgt := 25) hx hb d_Md_pending_21 (by decide) ?_
          refine lv_iadd hx hb d_Md_pending_25 ?_
          refine kx_top (v := 2) (by decide) ?_
          refine lv_istore_n (lv' := [(1, .int 2), (2, .int 3), (0, .ref (bm 0))]) hx hb d_Md_pending_26 rfl hl (by decide) rfl (fun ls hl => ?_)
          refine lv_iinc (v := 4) (k := 1) (lv' := [(2, .int 4), (1, .int 2), (0, .ref (bm 0))]) hx hb d_Md_pending_27 hl rfl (by decide) (by decide) rfl (fun ls hl => ?_)
          refine lv_goto (tgt := 4) hx hb d_Md_pending_30 (by decide) ?_
          refine lv_iload_n hx hb d_Md_pending_4 rfl (lv_at hl 0 rfl) ?_
          refine lv_iconst (v := 4) hx hb d_Md_pending_5 (by decide) ?_
          refine lv_icmp_ge (tgt := 33) hx hb d_Md_pending_6 (by decide) (fun _ => ?_) (fun h => absurd h (by decide))
          refine lv_iload_n hx hb d_Md_pending_33 rfl (lv_at hl 1 rfl) ?_
          exact kx_ret_i I rfl hw () (by simp only [f_Md_pending, if_neg h1, if_neg h2, if_pos h3, if_pos h5]) [0, 1, 2, 3, 4, 5, 6, 7] (by decide) rfl d_Md_pending_34
    · refine lv_iconst (v := 1) hx hb d_Md_pending_20 (by decide) ?_
      refine lv_goto (tgt := 25) hx hb d_Md_pending_21 (by decide) ?_
      refine lv_iadd hx hb d_Md_pending_25 ?_
      refine kx_top (v := 1) (by decide) ?_
      refine lv_istore_n (lv' := [(1, .int 1), (2, .int 1), (0, .ref (bm 0))]) hx hb d_Md_pending_26 rfl hl (by decide) rfl (fun ls hl => ?_)
      refine lv_iinc (v := 2) (k := 1) (lv' := [(2, .int 2), (1, .int 1), (0, .ref (bm 0))]) hx hb d_Md_pending_27 hl rfl (by decide) (by decide) rfl (fun ls hl => ?_)
      refine lv_goto (tgt := 4) hx hb d_Md_pending_30 (by decide) ?_
      refine lv_iload_n hx hb d_Md_pending_4 rfl (lv_at hl 0 rfl) ?_
      refine lv_iconst (v := 4) hx hb d_Md_pending_5 (by decide) ?_
      refine lv_icmp_ge (tgt := 33) hx hb d_Md_pending_6 (by decide) (fun h => absurd h (by decide)) (fun _ => ?_)
      refine lv_iload_n hx hb d_Md_pending_9 rfl (lv_at hl 1 rfl) ?_
      refine lv_aload_n hx hb d_Md_pending_10 rfl (lv_at hl 2 rfl) ?_
      refine kx_get S hw fg_Md_22 0 rfl rfl d_Md_pending_11 ?_
      refine lv_iload_n hx hb d_Md_pending_14 rfl (lv_at hl 0 rfl) ?_
      refine kx_iald S hw 5 0 rfl rfl (j := 2) (by decide) (by unfold vp_in; decide) d_Md_pending_15 ?_
      refine lv_iconst (v := 1) hx hb d_Md_pending_16 (by decide) ?_
      refine lv_icmp_ne (tgt := 24) hx hb d_Md_pending_17 (by decide) (fun h6 => ?_) (fun h6 => ?_)
      · refine lv_iconst (v := 0) hx hb d_Md_pending_24 (by decide) ?_
        refine lv_iadd hx hb d_Md_pending_25 ?_
        refine kx_top (v := 1) (by decide) ?_
        refine lv_istore_n (lv' := [(1, .int 1), (2, .int 2), (0, .ref (bm 0))]) hx hb d_Md_pending_26 rfl hl (by decide) rfl (fun ls hl => ?_)
        refine lv_iinc (v := 3) (k := 1) (lv' := [(2, .int 3), (1, .int 1), (0, .ref (bm 0))]) hx hb d_Md_pending_27 hl rfl (by decide) (by decide) rfl (fun ls hl => ?_)
        refine lv_goto (tgt := 4) hx hb d_Md_pending_30 (by decide) ?_
        refine lv_iload_n hx hb d_Md_pending_4 rfl (lv_at hl 0 rfl) ?_
        refine lv_iconst (v := 4) hx hb d_Md_pending_5 (by decide) ?_
        refine lv_icmp_ge (tgt := 33) hx hb d_Md_pending_6 (by decide) (fun h => absurd h (by decide)) (fun _ => ?_)
        refine lv_iload_n hx hb d_Md_pending_9 rfl (lv_at hl 1 rfl) ?_
        refine lv_aload_n hx hb d_Md_pending_10 rfl (lv_at hl 2 rfl) ?_
        refine kx_get S hw fg_Md_22 0 rfl rfl d_Md_pending_11 ?_
        refine lv_iload_n hx hb d_Md_pending_14 rfl (lv_at hl 0 rfl) ?_
        refine kx_iald S hw 5 0 rfl rfl (j := 3) (by decide) (by unfold vp_in; decide) d_Md_pending_15 ?_
        refine lv_iconst (v := 1) hx hb d_Md_pending_16 (by decide) ?_
        refine lv_icmp_ne (tgt := 24) hx hb d_Md_pending_17 (by decide) (fun h7 => ?_) (fun h7 => ?_)
        · refine lv_iconst (v := 0) hx hb d_Md_pending_24 (by decide) ?_
          refine lv_iadd hx hb d_Md_pending_25 ?_
          refine kx_top (v := 1) (by decide) ?_
          refine lv_istore_n (lv' := [(1, .int 1), (2, .int 3), (0, .ref (bm 0))]) hx hb d_Md_pending_26 rfl hl (by decide) rfl (fun ls hl => ?_)
          refine lv_iinc (v := 4) (k := 1) (lv' := [(2, .int 4), (1, .int 1), (0, .ref (bm 0))]) hx hb d_Md_pending_27 hl rfl (by decide) (by decide) rfl (fun ls hl => ?_)
          refine lv_goto (tgt := 4) hx hb d_Md_pending_30 (by decide) ?_
          refine lv_iload_n hx hb d_Md_pending_4 rfl (lv_at hl 0 rfl) ?_
          refine lv_iconst (v := 4) hx hb d_Md_pending_5 (by decide) ?_
          refine lv_icmp_ge (tgt := 33) hx hb d_Md_pending_6 (by decide) (fun _ => ?_) (fun h => absurd h (by decide))
          refine lv_iload_n hx hb d_Md_pending_33 rfl (lv_at hl 1 rfl) ?_
          exact kx_ret_i I rfl hw () (by simp only [f_Md_pending, if_neg h1, if_pos h2, if_neg h6, if_neg h7]) [0, 1, 2, 3, 4, 5, 6, 7] (by decide) rfl d_Md_pending_34
        · refine lv_iconst (v := 1) hx hb d_Md_pending_20 (by decide) ?_
          refine lv_goto (tgt := 25) hx hb d_Md_pending_21 (by decide) ?_
          refine lv_iadd hx hb d_Md_pending_25 ?_
          refine kx_top (v := 2) (by decide) ?_
          refine lv_istore_n (lv' := [(1, .int 2), (2, .int 3), (0, .ref (bm 0))]) hx hb d_Md_pending_26 rfl hl (by decide) rfl (fun ls hl => ?_)
          refine lv_iinc (v := 4) (k := 1) (lv' := [(2, .int 4), (1, .int 2), (0, .ref (bm 0))]) hx hb d_Md_pending_27 hl rfl (by decide) (by decide) rfl (fun ls hl => ?_)
          refine lv_goto (tgt := 4) hx hb d_Md_pending_30 (by decide) ?_
          refine lv_iload_n hx hb d_Md_pending_4 rfl (lv_at hl 0 rfl) ?_
          refine lv_iconst (v := 4) hx hb d_Md_pending_5 (by decide) ?_
          refine lv_icmp_ge (tgt := 33) hx hb d_Md_pending_6 (by decide) (fun _ => ?_) (fun h => absurd h (by decide))
          refine lv_iload_n hx hb d_Md_pending_33 rfl (lv_at hl 1 rfl) ?_
          exact kx_ret_i I rfl hw () (by simp only [f_Md_pending, if_neg h1, if_pos h2, if_neg h6, if_pos h7]) [0, 1, 2, 3, 4, 5, 6, 7] (by decide) rfl d_Md_pending_34
      · refine lv_iconst (v := 1) hx hb d_Md_pending_20 (by decide) ?_
        refine lv_goto (tgt := 25) hx hb d_Md_pending_21 (by decide) ?_
        refine lv_iadd hx hb d_Md_pending_25 ?_
        refine kx_top (v := 2) (by decide) ?_
        refine lv_istore_n (lv' := [(1, .int 2), (2, .int 2), (0, .ref (bm 0))]) hx hb d_Md_pending_26 rfl hl (by decide) rfl (fun ls hl => ?_)
        refine lv_iinc (v := 3) (k := 1) (lv' := [(2, .int 3), (1, .int 2), (0, .ref (bm 0))]) hx hb d_Md_pending_27 hl rfl (by decide) (by decide) rfl (fun ls hl => ?_)
        refine lv_goto (tgt := 4) hx hb d_Md_pending_30 (by decide) ?_
        refine lv_iload_n hx hb d_Md_pending_4 rfl (lv_at hl 0 rfl) ?_
        refine lv_iconst (v := 4) hx hb d_Md_pending_5 (by decide) ?_
        refine lv_icmp_ge (tgt := 33) hx hb d_Md_pending_6 (by decide) (fun h => absurd h (by decide)) (fun _ => ?_)
        refine lv_iload_n hx hb d_Md_pending_9 rfl (lv_at hl 1 rfl) ?_
        refine lv_aload_n hx hb d_Md_pending_10 rfl (lv_at hl 2 rfl) ?_
        refine kx_get S hw fg_Md_22 0 rfl rfl d_Md_pending_11 ?_
        refine lv_iload_n hx hb d_Md_pending_14 rfl (lv_at hl 0 rfl) ?_
        refine kx_iald S hw 5 0 rfl rfl (j := 3) (by decide) (by unfold vp_in; decide) d_Md_pending_15 ?_
        refine lv_iconst (v := 1) hx hb d_Md_pending_16 (by decide) ?_
        refine lv_icmp_ne (tgt := 24) hx hb d_Md_pending_17 (by decide) (fun h8 => ?_) (fun h8 => ?_)
        · refine lv_iconst (v := 0) hx hb d_Md_pending_24 (by decide) ?_
          refine lv_iadd hx hb d_Md_pending_25 ?_
          refine kx_top (v := 2) (by decide) ?_
          refine lv_istore_n (lv' := [(1, .int 2), (2, .int 3), (0, .ref (bm 0))]) hx hb d_Md_pending_26 rfl hl (by decide) rfl (fun ls hl => ?_)
          refine lv_iinc (v := 4) (k := 1) (lv' := [(2, .int 4), (1, .int 2), (0, .ref (bm 0))]) hx hb d_Md_pending_27 hl rfl (by decide) (by decide) rfl (fun ls hl => ?_)
          refine lv_goto (tgt := 4) hx hb d_Md_pending_30 (by decide) ?_
          refine lv_iload_n hx hb d_Md_pending_4 rfl (lv_at hl 0 rfl) ?_
          refine lv_iconst (v := 4) hx hb d_Md_pending_5 (by decide) ?_
          refine lv_icmp_ge (tgt := 33) hx hb d_Md_pending_6 (by decide) (fun _ => ?_) (fun h => absurd h (by decide))
          refine lv_iload_n hx hb d_Md_pending_33 rfl (lv_at hl 1 rfl) ?_
          exact kx_ret_i I rfl hw () (by simp only [f_Md_pending, if_neg h1, if_pos h2, if_pos h6, if_neg h8]) [0, 1, 2, 3, 4, 5, 6, 7] (by decide) rfl d_Md_pending_34
        · refine lv_iconst (v := 1) hx hb d_Md_pending_20 (by decide) ?_
          refine lv_goto (tgt := 25) hx hb d_Md_pending_21 (by decide) ?_
          refine lv_iadd hx hb d_Md_pending_25 ?_
          refine kx_top (v := 3) (by decide) ?_
          refine lv_istore_n (lv' := [(1, .int 3), (2, .int 3), (0, .ref (bm 0))]) hx hb d_Md_pending_26 rfl hl (by decide) rfl (fun ls hl => ?_)
          refine lv_iinc (v := 4) (k := 1) (lv' := [(2, .int 4), (1, .int 3), (0, .ref (bm 0))]) hx hb d_Md_pending_27 hl rfl (by decide) (by decide) rfl (fun ls hl => ?_)
          refine lv_goto (tgt := 4) hx hb d_Md_pending_30 (by decide) ?_
          refine lv_iload_n hx hb d_Md_pending_4 rfl (lv_at hl 0 rfl) ?_
          refine lv_iconst (v := 4) hx hb d_Md_pending_5 (by decide) ?_
          refine lv_icmp_ge (tgt := 33) hx hb d_Md_pending_6 (by decide) (fun _ => ?_) (fun h => absurd h (by decide))
          refine lv_iload_n hx hb d_Md_pending_33 rfl (lv_at hl 1 rfl) ?_
          exact kx_ret_i I rfl hw () (by simp only [f_Md_pending, if_neg h1, if_pos h2, if_pos h6, if_pos h8]) [0, 1, 2, 3, 4, 5, 6, 7] (by decide) rfl d_Md_pending_34
  · refine lv_iconst (v := 1) hx hb d_Md_pending_20 (by decide) ?_
    refine lv_goto (tgt := 25) hx hb d_Md_pending_21 (by decide) ?_
    refine lv_iadd hx hb d_Md_pending_25 ?_
    refine kx_top (v := 1) (by decide) ?_
    refine lv_istore_n (lv' := [(1, .int 1), (2, .int 0), (0, .ref (bm 0))]) hx hb d_Md_pending_26 rfl hl (by decide) rfl (fun ls hl => ?_)
    refine lv_iinc (v := 1) (k := 1) (lv' := [(2, .int 1), (1, .int 1), (0, .ref (bm 0))]) hx hb d_Md_pending_27 hl rfl (by decide) (by decide) rfl (fun ls hl => ?_)
    refine lv_goto (tgt := 4) hx hb d_Md_pending_30 (by decide) ?_
    refine lv_iload_n hx hb d_Md_pending_4 rfl (lv_at hl 0 rfl) ?_
    refine lv_iconst (v := 4) hx hb d_Md_pending_5 (by decide) ?_
    refine lv_icmp_ge (tgt := 33) hx hb d_Md_pending_6 (by decide) (fun h => absurd h (by decide)) (fun _ => ?_)
    refine lv_iload_n hx hb d_Md_pending_9 rfl (lv_at hl 1 rfl) ?_
    refine lv_aload_n hx hb d_Md_pending_10 rfl (lv_at hl 2 rfl) ?_
    refine kx_get S hw fg_Md_22 0 rfl rfl d_Md_pending_11 ?_
    refine lv_iload_n hx hb d_Md_pending_14 rfl (lv_at hl 0 rfl) ?_
    refine kx_iald S hw 5 0 rfl rfl (j := 1) (by decide) (by unfold vp_in; decide) d_Md_pending_15 ?_
    refine lv_iconst (v := 1) hx hb d_Md_pending_16 (by decide) ?_
    refine lv_icmp_ne (tgt := 24) hx hb d_Md_pending_17 (by decide) (fun h9 => ?_) (fun h9 => ?_)
    · refine lv_iconst (v := 0) hx hb d_Md_pending_24 (by decide) ?_
      refine lv_iadd hx hb d_Md_pending_25 ?_
      refine kx_top (v := 1) (by decide) ?_
      refine lv_istore_n (lv' := [(1, .int 1), (2, .int 1), (0, .ref (bm 0))]) hx hb d_Md_pending_26 rfl hl (by decide) rfl (fun ls hl => ?_)
      refine lv_iinc (v := 2) (k := 1) (lv' := [(2, .int 2), (1, .int 1), (0, .ref (bm 0))]) hx hb d_Md_pending_27 hl rfl (by decide) (by decide) rfl (fun ls hl => ?_)
      refine lv_goto (tgt := 4) hx hb d_Md_pending_30 (by decide) ?_
      refine lv_iload_n hx hb d_Md_pending_4 rfl (lv_at hl 0 rfl) ?_
      refine lv_iconst (v := 4) hx hb d_Md_pending_5 (by decide) ?_
      refine lv_icmp_ge (tgt := 33) hx hb d_Md_pending_6 (by decide) (fun h => absurd h (by decide)) (fun _ => ?_)
      refine lv_iload_n hx hb d_Md_pending_9 rfl (lv_at hl 1 rfl) ?_
      refine lv_aload_n hx hb d_Md_pending_10 rfl (lv_at hl 2 rfl) ?_
      refine kx_get S hw fg_Md_22 0 rfl rfl d_Md_pending_11 ?_
      refine lv_iload_n hx hb d_Md_pending_14 rfl (lv_at hl 0 rfl) ?_
      refine kx_iald S hw 5 0 rfl rfl (j := 2) (by decide) (by unfold vp_in; decide) d_Md_pending_15 ?_
      refine lv_iconst (v := 1) hx hb d_Md_pending_16 (by decide) ?_
      refine lv_icmp_ne (tgt := 24) hx hb d_Md_pending_17 (by decide) (fun h10 => ?_) (fun h10 => ?_)
      · refine lv_iconst (v := 0) hx hb d_Md_pending_24 (by decide) ?_
        refine lv_iadd hx hb d_Md_pending_25 ?_
        refine kx_top (v := 1) (by decide) ?_
        refine lv_istore_n (lv' := [(1, .int 1), (2, .int 2), (0, .ref (bm 0))]) hx hb d_Md_pending_26 rfl hl (by decide) rfl (fun ls hl => ?_)
        refine lv_iinc (v := 3) (k := 1) (lv' := [(2, .int 3), (1, .int 1), (0, .ref (bm 0))]) hx hb d_Md_pending_27 hl rfl (by decide) (by decide) rfl (fun ls hl => ?_)
        refine lv_goto (tgt := 4) hx hb d_Md_pending_30 (by decide) ?_
        refine lv_iload_n hx hb d_Md_pending_4 rfl (lv_at hl 0 rfl) ?_
        refine lv_iconst (v := 4) hx hb d_Md_pending_5 (by decide) ?_
        refine lv_icmp_ge (tgt := 33) hx hb d_Md_pending_6 (by decide) (fun h => absurd h (by decide)) (fun _ => ?_)
        refine lv_iload_n hx hb d_Md_pending_9 rfl (lv_at hl 1 rfl) ?_
        refine lv_aload_n hx hb d_Md_pending_10 rfl (lv_at hl 2 rfl) ?_
        refine kx_get S hw fg_Md_22 0 rfl rfl d_Md_pending_11 ?_
        refine lv_iload_n hx hb d_Md_pending_14 rfl (lv_at hl 0 rfl) ?_
        refine kx_iald S hw 5 0 rfl rfl (j := 3) (by decide) (by unfold vp_in; decide) d_Md_pending_15 ?_
        refine lv_iconst (v := 1) hx hb d_Md_pending_16 (by decide) ?_
        refine lv_icmp_ne (tgt := 24) hx hb d_Md_pending_17 (by decide) (fun h11 => ?_) (fun h11 => ?_)
        · refine lv_iconst (v := 0) hx hb d_Md_pending_24 (by decide) ?_
          refine lv_iadd hx hb d_Md_pending_25 ?_
          refine kx_top (v := 1) (by decide) ?_
          refine lv_istore_n (lv' := [(1, .int 1), (2, .int 3), (0, .ref (bm 0))]) hx hb d_Md_pending_26 rfl hl (by decide) rfl (fun ls hl => ?_)
          refine lv_iinc (v := 4) (k := 1) (lv' := [(2, .int 4), (1, .int 1), (0, .ref (bm 0))]) hx hb d_Md_pending_27 hl rfl (by decide) (by decide) rfl (fun ls hl => ?_)
          refine lv_goto (tgt := 4) hx hb d_Md_pending_30 (by decide) ?_
          refine lv_iload_n hx hb d_Md_pending_4 rfl (lv_at hl 0 rfl) ?_
          refine lv_iconst (v := 4) hx hb d_Md_pending_5 (by decide) ?_
          refine lv_icmp_ge (tgt := 33) hx hb d_Md_pending_6 (by decide) (fun _ => ?_) (fun h => absurd h (by decide))
          refine lv_iload_n hx hb d_Md_pending_33 rfl (lv_at hl 1 rfl) ?_
          exact kx_ret_i I rfl hw () (by simp only [f_Md_pending, if_pos h1, if_neg h9, if_neg h10, if_neg h11]) [0, 1, 2, 3, 4, 5, 6, 7] (by decide) rfl d_Md_pending_34
        · refine lv_iconst (v := 1) hx hb d_Md_pending_20 (by decide) ?_
          refine lv_goto (tgt := 25) hx hb d_Md_pending_21 (by decide) ?_
          refine lv_iadd hx hb d_Md_pending_25 ?_
          refine kx_top (v := 2) (by decide) ?_
          refine lv_istore_n (lv' := [(1, .int 2), (2, .int 3), (0, .ref (bm 0))]) hx hb d_Md_pending_26 rfl hl (by decide) rfl (fun ls hl => ?_)
          refine lv_iinc (v := 4) (k := 1) (lv' := [(2, .int 4), (1, .int 2), (0, .ref (bm 0))]) hx hb d_Md_pending_27 hl rfl (by decide) (by decide) rfl (fun ls hl => ?_)
          refine lv_goto (tgt := 4) hx hb d_Md_pending_30 (by decide) ?_
          refine lv_iload_n hx hb d_Md_pending_4 rfl (lv_at hl 0 rfl) ?_
          refine lv_iconst (v := 4) hx hb d_Md_pending_5 (by decide) ?_
          refine lv_icmp_ge (tgt := 33) hx hb d_Md_pending_6 (by decide) (fun _ => ?_) (fun h => absurd h (by decide))
          refine lv_iload_n hx hb d_Md_pending_33 rfl (lv_at hl 1 rfl) ?_
          exact kx_ret_i I rfl hw () (by simp only [f_Md_pending, if_pos h1, if_neg h9, if_neg h10, if_pos h11]) [0, 1, 2, 3, 4, 5, 6, 7] (by decide) rfl d_Md_pending_34
      · refine lv_iconst (v := 1) hx hb d_Md_pending_20 (by decide) ?_
        refine lv_goto (tgt := 25) hx hb d_Md_pending_21 (by decide) ?_
        refine lv_iadd hx hb d_Md_pending_25 ?_
        refine kx_top (v := 2) (by decide) ?_
        refine lv_istore_n (lv' := [(1, .int 2), (2, .int 2), (0, .ref (bm 0))]) hx hb d_Md_pending_26 rfl hl (by decide) rfl (fun ls hl => ?_)
        refine lv_iinc (v := 3) (k := 1) (lv' := [(2, .int 3), (1, .int 2), (0, .ref (bm 0))]) hx hb d_Md_pending_27 hl rfl (by decide) (by decide) rfl (fun ls hl => ?_)
        refine lv_goto (tgt := 4) hx hb d_Md_pending_30 (by decide) ?_
        refine lv_iload_n hx hb d_Md_pending_4 rfl (lv_at hl 0 rfl) ?_
        refine lv_iconst (v := 4) hx hb d_Md_pending_5 (by decide) ?_
        refine lv_icmp_ge (tgt := 33) hx hb d_Md_pending_6 (by decide) (fun h => absurd h (by decide)) (fun _ => ?_)
        refine lv_iload_n hx hb d_Md_pending_9 rfl (lv_at hl 1 rfl) ?_
        refine lv_aload_n hx hb d_Md_pending_10 rfl (lv_at hl 2 rfl) ?_
        refine kx_get S hw fg_Md_22 0 rfl rfl d_Md_pending_11 ?_
        refine lv_iload_n hx hb d_Md_pending_14 rfl (lv_at hl 0 rfl) ?_
        refine kx_iald S hw 5 0 rfl rfl (j := 3) (by decide) (by unfold vp_in; decide) d_Md_pending_15 ?_
        refine lv_iconst (v := 1) hx hb d_Md_pending_16 (by decide) ?_
        refine lv_icmp_ne (tgt := 24) hx hb d_Md_pending_17 (by decide) (fun h12 => ?_) (fun h12 => ?_)
        · refine lv_iconst (v := 0) hx hb d_Md_pending_24 (by decide) ?_
          refine lv_iadd hx hb d_Md_pending_25 ?_
          refine kx_top (v := 2) (by decide) ?_
          refine lv_istore_n (lv' := [(1, .int 2), (2, .int 3), (0, .ref (bm 0))]) hx hb d_Md_pending_26 rfl hl (by decide) rfl (fun ls hl => ?_)
          refine lv_iinc (v := 4) (k := 1) (lv' := [(2, .int 4), (1, .int 2), (0, .ref (bm 0))]) hx hb d_Md_pending_27 hl rfl (by decide) (by decide) rfl (fun ls hl => ?_)
          refine lv_goto (tgt := 4) hx hb d_Md_pending_30 (by decide) ?_
          refine lv_iload_n hx hb d_Md_pending_4 rfl (lv_at hl 0 rfl) ?_
          refine lv_iconst (v := 4) hx hb d_Md_pending_5 (by decide) ?_
          refine lv_icmp_ge (tgt := 33) hx hb d_Md_pending_6 (by decide) (fun _ => ?_) (fun h => absurd h (by decide))
          refine lv_iload_n hx hb d_Md_pending_33 rfl (lv_at hl 1 rfl) ?_
          exact kx_ret_i I rfl hw () (by simp only [f_Md_pending, if_pos h1, if_neg h9, if_pos h10, if_neg h12]) [0, 1, 2, 3, 4, 5, 6, 7] (by decide) rfl d_Md_pending_34
        · refine lv_iconst (v := 1) hx hb d_Md_pending_20 (by decide) ?_
          refine lv_goto (tgt := 25) hx hb d_Md_pending_21 (by decide) ?_
          refine lv_iadd hx hb d_Md_pending_25 ?_
          refine kx_top (v := 3) (by decide) ?_
          refine lv_istore_n (lv' := [(1, .int 3), (2, .int 3), (0, .ref (bm 0))]) hx hb d_Md_pending_26 rfl hl (by decide) rfl (fun ls hl => ?_)
          refine lv_iinc (v := 4) (k := 1) (lv' := [(2, .int 4), (1, .int 3), (0, .ref (bm 0))]) hx hb d_Md_pending_27 hl rfl (by decide) (by decide) rfl (fun ls hl => ?_)
          refine lv_goto (tgt := 4) hx hb d_Md_pending_30 (by decide) ?_
          refine lv_iload_n hx hb d_Md_pending_4 rfl (lv_at hl 0 rfl) ?_
          refine lv_iconst (v := 4) hx hb d_Md_pending_5 (by decide) ?_
          refine lv_icmp_ge (tgt := 33) hx hb d_Md_pending_6 (by decide) (fun _ => ?_) (fun h => absurd h (by decide))
          refine lv_iload_n hx hb d_Md_pending_33 rfl (lv_at hl 1 rfl) ?_
          exact kx_ret_i I rfl hw () (by simp only [f_Md_pending, if_pos h1, if_neg h9, if_pos h10, if_pos h12]) [0, 1, 2, 3, 4, 5, 6, 7] (by decide) rfl d_Md_pending_34
    · refine lv_iconst (v := 1) hx hb d_Md_pending_20 (by decide) ?_
      refine lv_goto (tgt := 25) hx hb d_Md_pending_21 (by decide) ?_
      refine lv_iadd hx hb d_Md_pending_25 ?_
      refine kx_top (v := 2) (by decide) ?_
      refine lv_istore_n (lv' := [(1, .int 2), (2, .int 1), (0, .ref (bm 0))]) hx hb d_Md_pending_26 rfl hl (by decide) rfl (fun ls hl => ?_)
      refine lv_iinc (v := 2) (k := 1) (lv' := [(2, .int 2), (1, .int 2), (0, .ref (bm 0))]) hx hb d_Md_pending_27 hl rfl (by decide) (by decide) rfl (fun ls hl => ?_)
      refine lv_goto (tgt := 4) hx hb d_Md_pending_30 (by decide) ?_
      refine lv_iload_n hx hb d_Md_pending_4 rfl (lv_at hl 0 rfl) ?_
      refine lv_iconst (v := 4) hx hb d_Md_pending_5 (by decide) ?_
      refine lv_icmp_ge (tgt := 33) hx hb d_Md_pending_6 (by decide) (fun h => absurd h (by decide)) (fun _ => ?_)
      refine lv_iload_n hx hb d_Md_pending_9 rfl (lv_at hl 1 rfl) ?_
      refine lv_aload_n hx hb d_Md_pending_10 rfl (lv_at hl 2 rfl) ?_
      refine kx_get S hw fg_Md_22 0 rfl rfl d_Md_pending_11 ?_
      refine lv_iload_n hx hb d_Md_pending_14 rfl (lv_at hl 0 rfl) ?_
      refine kx_iald S hw 5 0 rfl rfl (j := 2) (by decide) (by unfold vp_in; decide) d_Md_pending_15 ?_
      refine lv_iconst (v := 1) hx hb d_Md_pending_16 (by decide) ?_
      refine lv_icmp_ne (tgt := 24) hx hb d_Md_pending_17 (by decide) (fun h13 => ?_) (fun h13 => ?_)
      · refine lv_iconst (v := 0) hx hb d_Md_pending_24 (by decide) ?_
        refine lv_iadd hx hb d_Md_pending_25 ?_
        refine kx_top (v := 2) (by decide) ?_
        refine lv_istore_n (lv' := [(1, .int 2), (2, .int 2), (0, .ref (bm 0))]) hx hb d_Md_pending_26 rfl hl (by decide) rfl (fun ls hl => ?_)
        refine lv_iinc (v := 3) (k := 1) (lv' := [(2, .int 3), (1, .int 2), (0, .ref (bm 0))]) hx hb d_Md_pending_27 hl rfl (by decide) (by decide) rfl (fun ls hl => ?_)
        refine lv_goto (tgt := 4) hx hb d_Md_pending_30 (by decide) ?_
        refine lv_iload_n hx hb d_Md_pending_4 rfl (lv_at hl 0 rfl) ?_
        refine lv_iconst (v := 4) hx hb d_Md_pending_5 (by decide) ?_
        refine lv_icmp_ge (tgt := 33) hx hb d_Md_pending_6 (by decide) (fun h => absurd h (by decide)) (fun _ => ?_)
        refine lv_iload_n hx hb d_Md_pending_9 rfl (lv_at hl 1 rfl) ?_
        refine lv_aload_n hx hb d_Md_pending_10 rfl (lv_at hl 2 rfl) ?_
        refine kx_get S hw fg_Md_22 0 rfl rfl d_Md_pending_11 ?_
        refine lv_iload_n hx hb d_Md_pending_14 rfl (lv_at hl 0 rfl) ?_
        refine kx_iald S hw 5 0 rfl rfl (j := 3) (by decide) (by unfold vp_in; decide) d_Md_pending_15 ?_
        refine lv_iconst (v := 1) hx hb d_Md_pending_16 (by decide) ?_
        refine lv_icmp_ne (tgt := 24) hx hb d_Md_pending_17 (by decide) (fun h14 => ?_) (fun h14 => ?_)
        · refine lv_iconst (v := 0) hx hb d_Md_pending_24 (by decide) ?_
          refine lv_iadd hx hb d_Md_pending_25 ?_
          refine kx_top (v := 2) (by decide) ?_
          refine lv_istore_n (lv' := [(1, .int 2), (2, .int 3), (0, .ref (bm 0))]) hx hb d_Md_pending_26 rfl hl (by decide) rfl (fun ls hl => ?_)
          refine lv_iinc (v := 4) (k := 1) (lv' := [(2, .int 4), (1, .int 2), (0, .ref (bm 0))]) hx hb d_Md_pending_27 hl rfl (by decide) (by decide) rfl (fun ls hl => ?_)
          refine lv_goto (tgt := 4) hx hb d_Md_pending_30 (by decide) ?_
          refine lv_iload_n hx hb d_Md_pending_4 rfl (lv_at hl 0 rfl) ?_
          refine lv_iconst (v := 4) hx hb d_Md_pending_5 (by decide) ?_
          refine lv_icmp_ge (tgt := 33) hx hb d_Md_pending_6 (by decide) (fun _ => ?_) (fun h => absurd h (by decide))
          refine lv_iload_n hx hb d_Md_pending_33 rfl (lv_at hl 1 rfl) ?_
          exact kx_ret_i I rfl hw () (by simp only [f_Md_pending, if_pos h1, if_pos h9, if_neg h13, if_neg h14]) [0, 1, 2, 3, 4, 5, 6, 7] (by decide) rfl d_Md_pending_34
        · refine lv_iconst (v := 1) hx hb d_Md_pending_20 (by decide) ?_
          refine lv_goto (tgt := 25) hx hb d_Md_pending_21 (by decide) ?_
          refine lv_iadd hx hb d_Md_pending_25 ?_
          refine kx_top (v := 3) (by decide) ?_
          refine lv_istore_n (lv' := [(1, .int 3), (2, .int 3), (0, .ref (bm 0))]) hx hb d_Md_pending_26 rfl hl (by decide) rfl (fun ls hl => ?_)
          refine lv_iinc (v := 4) (k := 1) (lv' := [(2, .int 4), (1, .int 3), (0, .ref (bm 0))]) hx hb d_Md_pending_27 hl rfl (by decide) (by decide) rfl (fun ls hl => ?_)
          refine lv_goto (tgt := 4) hx hb d_Md_pending_30 (by decide) ?_
          refine lv_iload_n hx hb d_Md_pending_4 rfl (lv_at hl 0 rfl) ?_
          refine lv_iconst (v := 4) hx hb d_Md_pending_5 (by decide) ?_
          refine lv_icmp_ge (tgt := 33) hx hb d_Md_pending_6 (by decide) (fun _ => ?_) (fun h => absurd h (by decide))
          refine lv_iload_n hx hb d_Md_pending_33 rfl (lv_at hl 1 rfl) ?_
          exact kx_ret_i I rfl hw () (by simp only [f_Md_pending, if_pos h1, if_pos h9, if_neg h13, if_pos h14]) [0, 1, 2, 3, 4, 5, 6, 7] (by decide) rfl d_Md_pending_34
      · refine lv_iconst (v := 1) hx hb d_Md_pending_20 (by decide) ?_
        refine lv_goto (tgt := 25) hx hb d_Md_pending_21 (by decide) ?_
        refine lv_iadd hx hb d_Md_pending_25 ?_
        refine kx_top (v := 3) (by decide) ?_
        refine lv_istore_n (lv' := [(1, .int 3), (2, .int 2), (0, .ref (bm 0))]) hx hb d_Md_pending_26 rfl hl (by decide) rfl (fun ls hl => ?_)
        refine lv_iinc (v := 3) (k := 1) (lv' := [(2, .int 3), (1, .int 3), (0, .ref (bm 0))]) hx hb d_Md_pending_27 hl rfl (by decide) (by decide) rfl (fun ls hl => ?_)
        refine lv_goto (tgt := 4) hx hb d_Md_pending_30 (by decide) ?_
        refine lv_iload_n hx hb d_Md_pending_4 rfl (lv_at hl 0 rfl) ?_
        refine lv_iconst (v := 4) hx hb d_Md_pending_5 (by decide) ?_
        refine lv_icmp_ge (tgt := 33) hx hb d_Md_pending_6 (by decide) (fun h => absurd h (by decide)) (fun _ => ?_)
        refine lv_iload_n hx hb d_Md_pending_9 rfl (lv_at hl 1 rfl) ?_
        refine lv_aload_n hx hb d_Md_pending_10 rfl (lv_at hl 2 rfl) ?_
        refine kx_get S hw fg_Md_22 0 rfl rfl d_Md_pending_11 ?_
        refine lv_iload_n hx hb d_Md_pending_14 rfl (lv_at hl 0 rfl) ?_
        refine kx_iald S hw 5 0 rfl rfl (j := 3) (by decide) (by unfold vp_in; decide) d_Md_pending_15 ?_
        refine lv_iconst (v := 1) hx hb d_Md_pending_16 (by decide) ?_
        refine lv_icmp_ne (tgt := 24) hx hb d_Md_pending_17 (by decide) (fun h15 => ?_) (fun h15 => ?_)
        · refine lv_iconst (v := 0) hx hb d_Md_pending_24 (by decide) ?_
          refine lv_iadd hx hb d_Md_pending_25 ?_
          refine kx_top (v := 3) (by decide) ?_
          refine lv_istore_n (lv' := [(1, .int 3), (2, .int 3), (0, .ref (bm 0))]) hx hb d_Md_pending_26 rfl hl (by decide) rfl (fun ls hl => ?_)
          refine lv_iinc (v := 4) (k := 1) (lv' := [(2, .int 4), (1, .int 3), (0, .ref (bm 0))]) hx hb d_Md_pending_27 hl rfl (by decide) (by decide) rfl (fun ls hl => ?_)
          refine lv_goto (tgt := 4) hx hb d_Md_pending_30 (by decide) ?_
          refine lv_iload_n hx hb d_Md_pending_4 rfl (lv_at hl 0 rfl) ?_
          refine lv_iconst (v := 4) hx hb d_Md_pending_5 (by decide) ?_
          refine lv_icmp_ge (tgt := 33) hx hb d_Md_pending_6 (by decide) (fun _ => ?_) (fun h => absurd h (by decide))
          refine lv_iload_n hx hb d_Md_pending_33 rfl (lv_at hl 1 rfl) ?_
          exact kx_ret_i I rfl hw () (by simp only [f_Md_pending, if_pos h1, if_pos h9, if_pos h13, if_neg h15]) [0, 1, 2, 3, 4, 5, 6, 7] (by decide) rfl d_Md_pending_34
        · refine lv_iconst (v := 1) hx hb d_Md_pending_20 (by decide) ?_
          refine lv_goto (tgt := 25) hx hb d_Md_pending_21 (by decide) ?_
          refine lv_iadd hx hb d_Md_pending_25 ?_
          refine kx_top (v := 4) (by decide) ?_
          refine lv_istore_n (lv' := [(1, .int 4), (2, .int 3), (0, .ref (bm 0))]) hx hb d_Md_pending_26 rfl hl (by decide) rfl (fun ls hl => ?_)
          refine lv_iinc (v := 4) (k := 1) (lv' := [(2, .int 4), (1, .int 4), (0, .ref (bm 0))]) hx hb d_Md_pending_27 hl rfl (by decide) (by decide) rfl (fun ls hl => ?_)
          refine lv_goto (tgt := 4) hx hb d_Md_pending_30 (by decide) ?_
          refine lv_iload_n hx hb d_Md_pending_4 rfl (lv_at hl 0 rfl) ?_
          refine lv_iconst (v := 4) hx hb d_Md_pending_5 (by decide) ?_
          refine lv_icmp_ge (tgt := 33) hx hb d_Md_pending_6 (by decide) (fun _ => ?_) (fun h => absurd h (by decide))
          refine lv_iload_n hx hb d_Md_pending_33 rfl (lv_at hl 1 rfl) ?_
          exact kx_ret_i I rfl hw () (by simp only [f_Md_pending, if_pos h1, if_pos h9, if_pos h13, if_pos h15]) [0, 1, 2, 3, 4, 5, 6, 7] (by decide) rfl d_Md_pending_34
def f_Md_state (mi : kt_I) (w : kt_W) (u : Int32) : Int32 :=
  if u < 0 then (-1)
  else if u ≤ 3 then w.2.2.2.2.1 u.toNatClampNeg
  else (-1)
set_option maxHeartbeats 4000000 in
set_option maxRecDepth 100000 in
theorem c_Md_state (l : Launch) (D : va_G) (cI cZ cO : ClassId) (bm : Nat → Nat) (mi : kt_I) (w : kt_W) (u : Int32) : kx_Ci (S := Unit) l y_Md_state b_Md_state 2 (some .int) 0 0 0 D (kx_T cI cZ cO) [.ref (bm 0), .int u] [((bm 0), .inr (6, [.int mi.1, .int mi.2.1, .int mi.2.2.1, .ref (bm 1), .ref (bm 2), .ref (bm 3), .ref (bm 4), .ref (bm 5), .ref (bm 6), .ref (bm 7), .ref (bm 8), .ref (bm 9), .int mi.2.2.2.1, .ref (bm 10), .ref (bm 11), .ref (bm 12), .ref (bm 13), .ref (bm 14), .ref (bm 15), .ref (bm 16), .ref (bm 17), .int mi.2.2.2.2.1, .int mi.2.2.2.2.2.1, .int mi.2.2.2.2.2.2.1, .int mi.2.2.2.2.2.2.2.1, .ref (bm 18), .ref (bm 19), .ref (bm 20), .ref (bm 21), .int mi.2.2.2.2.2.2.2.2])), ((bm 1), .inl (cI, 4, .inl w.1)), ((bm 2), .inl (cI, 4, .inl w.2.1)), ((bm 3), .inl (cI, 4, .inl w.2.2.1)), ((bm 4), .inl (cI, 4, .inl w.2.2.2.1)), ((bm 5), .inl (cI, 4, .inl w.2.2.2.2.1)), ((bm 6), .inl (cI, 4, .inl w.2.2.2.2.2.1)), ((bm 7), .inl (cI, 4, .inl w.2.2.2.2.2.2))] (fun rr _ => rr = f_Md_state mi w u) (fun _ => [((bm 0), .inr (6, [.int mi.1, .int mi.2.1, .int mi.2.2.1, .ref (bm 1), .ref (bm 2), .ref (bm 3), .ref (bm 4), .ref (bm 5), .ref (bm 6), .ref (bm 7), .ref (bm 8), .ref (bm 9), .int mi.2.2.2.1, .ref (bm 10), .ref (bm 11), .ref (bm 12), .ref (bm 13), .ref (bm 14), .ref (bm 15), .ref (bm 16), .ref (bm 17), .int mi.2.2.2.2.1, .int mi.2.2.2.2.2.1, .int mi.2.2.2.2.2.2.1, .int mi.2.2.2.2.2.2.2.1, .ref (bm 18), .ref (bm 19), .ref (bm 20), .ref (bm 21), .int mi.2.2.2.2.2.2.2.2])), ((bm 1), .inl (cI, 4, .inl w.1)), ((bm 2), .inl (cI, 4, .inl w.2.1)), ((bm 3), .inl (cI, 4, .inl w.2.2.1)), ((bm 4), .inl (cI, 4, .inl w.2.2.2.1)), ((bm 5), .inl (cI, 4, .inl w.2.2.2.2.1)), ((bm 6), .inl (cI, 4, .inl w.2.2.2.2.2.1)), ((bm 7), .inl (cI, 4, .inl w.2.2.2.2.2.2))]) := by
  refine kx_enter_i (by decide) (Nat.le_of_ble_eq_true rfl) ?_
  intro p_ e_ s_ m_ below_ meth_ c_ ls A_ H I hl hw
  have S := I.1
  have hx := S.1
  have hb := S.2.1
  have hl : lv_has ls 2 [(0, .ref (bm 0)), (1, .int u)] := hl
  refine lv_iload_n hx hb d_Md_state_0 rfl (lv_at hl 1 rfl) ?_
  refine lv_if_lt (tgt := 9) hx hb d_Md_state_1 (by decide) (fun h1 => ?_) (fun h1 => ?_)
  · refine lv_iconst (v := (-1)) hx hb d_Md_state_9 (by decide) ?_
    refine lv_goto (tgt := 19) hx hb d_Md_state_10 (by decide) ?_
    exact kx_ret_i I rfl hw () (by simp only [f_Md_state, if_pos h1]) [0, 1, 2, 3, 4, 5, 6, 7] (by decide) rfl d_Md_state_19
  · refine lv_iload_n hx hb d_Md_state_4 rfl (lv_at hl 1 rfl) ?_
    refine lv_iconst (v := 3) hx hb d_Md_state_5 (by decide) ?_
    refine lv_icmp_le (tgt := 13) hx hb d_Md_state_6 (by decide) (fun h2 => ?_) (fun h2 => ?_)
    · refine lv_aload_n hx hb d_Md_state_13 rfl (lv_at hl 0 rfl) ?_
      refine kx_get S hw fg_Md_22 0 rfl rfl d_Md_state_14 ?_
      refine lv_iload_n hx hb d_Md_state_17 rfl (lv_at hl 1 rfl) ?_
      refine kx_iald S hw 5 0 rfl rfl (j := u.toNatClampNeg) rfl (by first | exact kx_i6 (N := 3) rfl h1 h2 | exact kx_i6 (N := 3) rfl h1 (Int32.not_lt.mpr h2)) d_Md_state_18 ?_
      exact kx_ret_i I rfl hw () (by simp only [f_Md_state, if_neg h1, if_pos h2]) [0, 1, 2, 3, 4, 5, 6, 7] (by decide) rfl d_Md_state_19
    · refine lv_iconst (v := (-1)) hx hb d_Md_state_9 (by decide) ?_
      refine lv_goto (tgt := 19) hx hb d_Md_state_10 (by decide) ?_
      exact kx_ret_i I rfl hw () (by simp only [f_Md_state, if_neg h1, if_neg h2]) [0, 1, 2, 3, 4, 5, 6, 7] (by decide) rfl d_Md_state_19
def f_Md_result (mi : kt_I) (w : kt_W) (u : Int32) : Int32 :=
  if u < 0 then 0
  else if u ≤ 3 then w.2.2.2.2.2.1 u.toNatClampNeg
  else 0
set_option maxHeartbeats 4000000 in
set_option maxRecDepth 100000 in
theorem c_Md_result (l : Launch) (D : va_G) (cI cZ cO : ClassId) (bm : Nat → Nat) (mi : kt_I) (w : kt_W) (u : Int32) : kx_Ci (S := Unit) l y_Md_result b_Md_result 2 (some .int) 0 0 0 D (kx_T cI cZ cO) [.ref (bm 0), .int u] [((bm 0), .inr (6, [.int mi.1, .int mi.2.1, .int mi.2.2.1, .ref (bm 1), .ref (bm 2), .ref (bm 3), .ref (bm 4), .ref (bm 5), .ref (bm 6), .ref (bm 7), .ref (bm 8), .ref (bm 9), .int mi.2.2.2.1, .ref (bm 10), .ref (bm 11), .ref (bm 12), .ref (bm 13), .ref (bm 14), .ref (bm 15), .ref (bm 16), .ref (bm 17), .int mi.2.2.2.2.1, .int mi.2.2.2.2.2.1, .int mi.2.2.2.2.2.2.1, .int mi.2.2.2.2.2.2.2.1, .ref (bm 18), .ref (bm 19), .ref (bm 20), .ref (bm 21), .int mi.2.2.2.2.2.2.2.2])), ((bm 1), .inl (cI, 4, .inl w.1)), ((bm 2), .inl (cI, 4, .inl w.2.1)), ((bm 3), .inl (cI, 4, .inl w.2.2.1)), ((bm 4), .inl (cI, 4, .inl w.2.2.2.1)), ((bm 5), .inl (cI, 4, .inl w.2.2.2.2.1)), ((bm 6), .inl (cI, 4, .inl w.2.2.2.2.2.1)), ((bm 7), .inl (cI, 4, .inl w.2.2.2.2.2.2))] (fun rr _ => rr = f_Md_result mi w u) (fun _ => [((bm 0), .inr (6, [.int mi.1, .int mi.2.1, .int mi.2.2.1, .ref (bm 1), .ref (bm 2), .ref (bm 3), .ref (bm 4), .ref (bm 5), .ref (bm 6), .ref (bm 7), .ref (bm 8), .ref (bm 9), .int mi.2.2.2.1, .ref (bm 10), .ref (bm 11), .ref (bm 12), .ref (bm 13), .ref (bm 14), .ref (bm 15), .ref (bm 16), .ref (bm 17), .int mi.2.2.2.2.1, .int mi.2.2.2.2.2.1, .int mi.2.2.2.2.2.2.1, .int mi.2.2.2.2.2.2.2.1, .ref (bm 18), .ref (bm 19), .ref (bm 20), .ref (bm 21), .int mi.2.2.2.2.2.2.2.2])), ((bm 1), .inl (cI, 4, .inl w.1)), ((bm 2), .inl (cI, 4, .inl w.2.1)), ((bm 3), .inl (cI, 4, .inl w.2.2.1)), ((bm 4), .inl (cI, 4, .inl w.2.2.2.1)), ((bm 5), .inl (cI, 4, .inl w.2.2.2.2.1)), ((bm 6), .inl (cI, 4, .inl w.2.2.2.2.2.1)), ((bm 7), .inl (cI, 4, .inl w.2.2.2.2.2.2))]) := by
  refine kx_enter_i (by decide) (Nat.le_of_ble_eq_true rfl) ?_
  intro p_ e_ s_ m_ below_ meth_ c_ ls A_ H I hl hw
  have S := I.1
  have hx := S.1
  have hb := S.2.1
  have hl : lv_has ls 2 [(0, .ref (bm 0)), (1, .int u)] := hl
  refine lv_iload_n hx hb d_Md_result_0 rfl (lv_at hl 1 rfl) ?_
  refine lv_if_lt (tgt := 9) hx hb d_Md_result_1 (by decide) (fun h1 => ?_) (fun h1 => ?_)
  · refine lv_iconst (v := 0) hx hb d_Md_result_9 (by decide) ?_
    refine lv_goto (tgt := 19) hx hb d_Md_result_10 (by decide) ?_
    exact kx_ret_i I rfl hw () (by simp only [f_Md_result, if_pos h1]) [0, 1, 2, 3, 4, 5, 6, 7] (by decide) rfl d_Md_result_19
  · refine lv_iload_n hx hb d_Md_result_4 rfl (lv_at hl 1 rfl) ?_
    refine lv_iconst (v := 3) hx hb d_Md_result_5 (by decide) ?_
    refine lv_icmp_le (tgt := 13) hx hb d_Md_result_6 (by decide) (fun h2 => ?_) (fun h2 => ?_)
    · refine lv_aload_n hx hb d_Md_result_13 rfl (lv_at hl 0 rfl) ?_
      refine kx_get S hw fg_Md_25 0 rfl rfl d_Md_result_14 ?_
      refine lv_iload_n hx hb d_Md_result_17 rfl (lv_at hl 1 rfl) ?_
      refine kx_iald S hw 6 0 rfl rfl (j := u.toNatClampNeg) rfl (by first | exact kx_i6 (N := 3) rfl h1 h2 | exact kx_i6 (N := 3) rfl h1 (Int32.not_lt.mpr h2)) d_Md_result_18 ?_
      exact kx_ret_i I rfl hw () (by simp only [f_Md_result, if_neg h1, if_pos h2]) [0, 1, 2, 3, 4, 5, 6, 7] (by decide) rfl d_Md_result_19
    · refine lv_iconst (v := 0) hx hb d_Md_result_9 (by decide) ?_
      refine lv_goto (tgt := 19) hx hb d_Md_result_10 (by decide) ?_
      exact kx_ret_i I rfl hw () (by simp only [f_Md_result, if_neg h1, if_neg h2]) [0, 1, 2, 3, 4, 5, 6, 7] (by decide) rfl d_Md_result_19
def f_Md_line (mi : kt_I) (w : kt_W) (s : Int32) : Int32 :=
  if s < 0 then (-1)
  else if s ≤ 1 then (match f_Md_stands mi w 0 s with
    | r3 => if r3 = 0 then (match f_Md_stands mi w 1 s with
        | r5 => if r5 = 0 then (match f_Md_stands mi w 2 s with
            | r7 => if r7 = 0 then (match f_Md_stands mi w 3 s with
                | r9 => if r9 = 0 then 0
                  else 1)
              else match f_Md_stands mi w 3 s with
              | r11 => if r11 = 0 then 1
                else 2)
          else match f_Md_stands mi w 2 s with
          | r13 => if r13 = 0 then (match f_Md_stands mi w 3 s with
              | r15 => if r15 = 0 then 1
                else 2)
            else match f_Md_stands mi w 3 s with
            | r17 => if r17 = 0 then 2
              else 3)
      else match f_Md_stands mi w 1 s with
      | r19 => if r19 = 0 then (match f_Md_stands mi w 2 s with
          | r21 => if r21 = 0 then (match f_Md_stands mi w 3 s with
              | r23 => if r23 = 0 then 1
                else 2)
            else match f_Md_stands mi w 3 s with
            | r25 => if r25 = 0 then 2
              else 3)
        else match f_Md_stands mi w 2 s with
        | r27 => if r27 = 0 then (match f_Md_stands mi w 3 s with
            | r29 => if r29 = 0 then 2
              else 3)
          else match f_Md_stands mi w 3 s with
          | r31 => if r31 = 0 then 3
            else 4)
  else (-1)
set_option maxHeartbeats 4000000 in
set_option maxRecDepth 100000 in
theorem c_Md_line (l : Launch) (D : va_G) (cI cZ cO : ClassId) (bm : Nat → Nat) (mi : kt_I) (w : kt_W) (s : Int32) : kx_Ci (S := Unit) l y_Md_line b_Md_line 4 (some .int) 1 0 0 D (kx_T cI cZ cO) [.ref (bm 0), .int s] [((bm 0), .inr (6, [.int mi.1, .int mi.2.1, .int mi.2.2.1, .ref (bm 1), .ref (bm 2), .ref (bm 3), .ref (bm 4), .ref (bm 5), .ref (bm 6), .ref (bm 7), .ref (bm 8), .ref (bm 9), .int mi.2.2.2.1, .ref (bm 10), .ref (bm 11), .ref (bm 12), .ref (bm 13), .ref (bm 14), .ref (bm 15), .ref (bm 16), .ref (bm 17), .int mi.2.2.2.2.1, .int mi.2.2.2.2.2.1, .int mi.2.2.2.2.2.2.1, .int mi.2.2.2.2.2.2.2.1, .ref (bm 18), .ref (bm 19), .ref (bm 20), .ref (bm 21), .int mi.2.2.2.2.2.2.2.2])), ((bm 1), .inl (cI, 4, .inl w.1)), ((bm 2), .inl (cI, 4, .inl w.2.1)), ((bm 3), .inl (cI, 4, .inl w.2.2.1)), ((bm 4), .inl (cI, 4, .inl w.2.2.2.1)), ((bm 5), .inl (cI, 4, .inl w.2.2.2.2.1)), ((bm 6), .inl (cI, 4, .inl w.2.2.2.2.2.1)), ((bm 7), .inl (cI, 4, .inl w.2.2.2.2.2.2))] (fun rr _ => rr = f_Md_line mi w s) (fun _ => [((bm 0), .inr (6, [.int mi.1, .int mi.2.1, .int mi.2.2.1, .ref (bm 1), .ref (bm 2), .ref (bm 3), .ref (bm 4), .ref (bm 5), .ref (bm 6), .ref (bm 7), .ref (bm 8), .ref (bm 9), .int mi.2.2.2.1, .ref (bm 10), .ref (bm 11), .ref (bm 12), .ref (bm 13), .ref (bm 14), .ref (bm 15), .ref (bm 16), .ref (bm 17), .int mi.2.2.2.2.1, .int mi.2.2.2.2.2.1, .int mi.2.2.2.2.2.2.1, .int mi.2.2.2.2.2.2.2.1, .ref (bm 18), .ref (bm 19), .ref (bm 20), .ref (bm 21), .int mi.2.2.2.2.2.2.2.2])), ((bm 1), .inl (cI, 4, .inl w.1)), ((bm 2), .inl (cI, 4, .inl w.2.1)), ((bm 3), .inl (cI, 4, .inl w.2.2.1)), ((bm 4), .inl (cI, 4, .inl w.2.2.2.1)), ((bm 5), .inl (cI, 4, .inl w.2.2.2.2.1)), ((bm 6), .inl (cI, 4, .inl w.2.2.2.2.2.1)), ((bm 7), .inl (cI, 4, .inl w.2.2.2.2.2.2))]) := by
  refine kx_enter_i (by decide) (Nat.le_of_ble_eq_true rfl) ?_
  intro p_ e_ s_ m_ below_ meth_ c_ ls A_ H I hl hw
  have S := I.1
  have hx := S.1
  have hb := S.2.1
  have hl : lv_has ls 4 [(0, .ref (bm 0)), (1, .int s)] := hl
  refine lv_iload_n hx hb d_Md_line_0 rfl (lv_at hl 1 rfl) ?_
  refine lv_if_lt (tgt := 9) hx hb d_Md_line_1 (by decide) (fun h1 => ?_) (fun h1 => ?_)
  · refine lv_iconst (v := (-1)) hx hb d_Md_line_9 (by decide) ?_
    exact kx_ret_i I rfl hw () (by simp only [f_Md_line, if_pos h1]) [0, 1, 2, 3, 4, 5, 6, 7] (by decide) rfl d_Md_line_10
  · refine lv_iload_n hx hb d_Md_line_4 rfl (lv_at hl 1 rfl) ?_
    refine lv_iconst (v := 1) hx hb d_Md_line_5 (by decide) ?_
    refine lv_icmp_le (tgt := 11) hx hb d_Md_line_6 (by decide) (fun h2 => ?_) (fun h2 => ?_)
    · refine lv_iconst (v := 0) hx hb d_Md_line_11 (by decide) ?_
      refine lv_istore_n (lv' := [(2, .int 0), (0, .ref (bm 0)), (1, .int s)]) hx hb d_Md_line_12 rfl hl (by decide) rfl (fun ls hl => ?_)
      refine lv_iconst (v := 0) hx hb d_Md_line_13 (by decide) ?_
      refine lv_istore_n (lv' := [(3, .int 0), (2, .int 0), (0, .ref (bm 0)), (1, .int s)]) hx hb d_Md_line_14 rfl hl (by decide) rfl (fun ls hl => ?_)
      refine lv_iload_n hx hb d_Md_line_15 rfl (lv_at hl 0 rfl) ?_
      refine lv_iconst (v := 4) hx hb d_Md_line_16 (by decide) ?_
      refine lv_icmp_ge (tgt := 43) hx hb d_Md_line_17 (by decide) (fun h => absurd h (by decide)) (fun _ => ?_)
      refine lv_iload_n hx hb d_Md_line_20 rfl (lv_at hl 1 rfl) ?_
      refine lv_aload_n hx hb d_Md_line_21 rfl (lv_at hl 2 rfl) ?_
      refine lv_iload_n hx hb d_Md_line_22 rfl (lv_at hl 0 rfl) ?_
      refine lv_iload_n hx hb d_Md_line_23 rfl (lv_at hl 3 rfl) ?_
      refine kx_call_i (wc := [((bm 0), .inr (6, [.int mi.1, .int mi.2.1, .int mi.2.2.1, .ref (bm 1), .ref (bm 2), .ref (bm 3), .ref (bm 4), .ref (bm 5), .ref (bm 6), .ref (bm 7), .ref (bm 8), .ref (bm 9), .int mi.2.2.2.1, .ref (bm 10), .ref (bm 11), .ref (bm 12), .ref (bm 13), .ref (bm 14), .ref (bm 15), .ref (bm 16), .ref (bm 17), .int mi.2.2.2.2.1, .int mi.2.2.2.2.2.1, .int mi.2.2.2.2.2.2.1, .int mi.2.2.2.2.2.2.2.1, .ref (bm 18), .ref (bm 19), .ref (bm 20), .ref (bm 21), .int mi.2.2.2.2.2.2.2.2])), ((bm 1), .inl (cI, 4, .inl w.1)), ((bm 2), .inl (cI, 4, .inl w.2.1)), ((bm 3), .inl (cI, 4, .inl w.2.2.1)), ((bm 4), .inl (cI, 4, .inl w.2.2.2.1)), ((bm 5), .inl (cI, 4, .inl w.2.2.2.2.1)), ((bm 6), .inl (cI, 4, .inl w.2.2.2.2.2.1)), ((bm 7), .inl (cI, 4, .inl w.2.2.2.2.2.2))]) (wr := []) (rest := [.int 0]) hw [0, 1, 2, 3, 4, 5, 6, 7] [] rfl rfl (by decide) (by decide) (kx_runV S hw fc_Md_85 rfl 0 rfl [0, 1, 2, 3, 4, 5, 6, 7] (by decide) rfl (c_Md_stands l D cI cZ cO bm mi w 0 s ((by unfold vp_in; decide)) H.size) rfl hl.1 rfl (Nat.le_of_ble_eq_true rfl) d_Md_line_24 (by decide) (by decide)) (fun r3 u3 H locs hp3 hw => ?_)
      obtain ⟨hp3, hb3⟩ := hp3
      have hw : kx_w D (kx_T cI cZ cO) A_ s_ [((bm 0), .inr (6, [.int mi.1, .int mi.2.1, .int mi.2.2.1, .ref (bm 1), .ref (bm 2), .ref (bm 3), .ref (bm 4), .ref (bm 5), .ref (bm 6), .ref (bm 7), .ref (bm 8), .ref (bm 9), .int mi.2.2.2.1, .ref (bm 10), .ref (bm 11), .ref (bm 12), .ref (bm 13), .ref (bm 14), .ref (bm 15), .ref (bm 16), .ref (bm 17), .int mi.2.2.2.2.1, .int mi.2.2.2.2.2.1, .int mi.2.2.2.2.2.2.1, .int mi.2.2.2.2.2.2.2.1, .ref (bm 18), .ref (bm 19), .ref (bm 20), .ref (bm 21), .int mi.2.2.2.2.2.2.2.2])), ((bm 1), .inl (cI, 4, .inl w.1)), ((bm 2), .inl (cI, 4, .inl w.2.1)), ((bm 3), .inl (cI, 4, .inl w.2.2.1)), ((bm 4), .inl (cI, 4, .inl w.2.2.2.1)), ((bm 5), .inl (cI, 4, .inl w.2.2.2.2.1)), ((bm 6), .inl (cI, 4, .inl w.2.2.2.2.2.1)), ((bm 7), .inl (cI, 4, .inl w.2.2.2.2.2.2))] H locs := hw
      refine lv_if_eq (tgt := 34) hx hb d_Md_line_27 (by decide) (fun h4 => ?_) (fun h4 => ?_)
      · refine lv_iconst (v := 0) hx hb d_Md_line_34 (by decide) ?_
        refine lv_iadd hx hb d_Md_line_35 ?_
        refine kx_top (v := 0) (by decide) ?_
        refine lv_istore_n (lv' := [(2, .int 0), (3, .int 0), (0, .ref (bm 0)), (1, .int s)]) hx hb d_Md_line_36 rfl hl (by decide) rfl (fun ls hl => ?_)
        refine lv_iinc (v := 1) (k := 1) (lv' := [(3, .int 1), (2, .int 0), (0, .ref (bm 0)), (1, .int s)]) hx hb d_Md_line_37 hl rfl (by decide) (by decide) rfl (fun ls hl => ?_)
        refine lv_goto (tgt := 15) hx hb d_Md_line_40 (by decide) ?_
        refine lv_iload_n hx hb d_Md_line_15 rfl (lv_at hl 0 rfl) ?_
        refine lv_iconst (v := 4) hx hb d_Md_line_16 (by decide) ?_
        refine lv_icmp_ge (tgt := 43) hx hb d_Md_line_17 (by decide) (fun h => absurd h (by decide)) (fun _ => ?_)
        refine lv_iload_n hx hb d_Md_line_20 rfl (lv_at hl 1 rfl) ?_
        refine lv_aload_n hx hb d_Md_line_21 rfl (lv_at hl 2 rfl) ?_
        refine lv_iload_n hx hb d_Md_line_22 rfl (lv_at hl 0 rfl) ?_
        refine lv_iload_n hx hb d_Md_line_23 rfl (lv_at hl 3 rfl) ?_
        refine kx_call_i (wc := [((bm 0), .inr (6, [.int mi.1, .int mi.2.1, .int mi.2.2.1, .ref (bm 1), .ref (bm 2), .ref (bm 3), .ref (bm 4), .ref (bm 5), .ref (bm 6), .ref (bm 7), .ref (bm 8), .ref (bm 9), .int mi.2.2.2.1, .ref (bm 10), .ref (bm 11), .ref (bm 12), .ref (bm 13), .ref (bm 14), .ref (bm 15), .ref (bm 16), .ref (bm 17), .int mi.2.2.2.2.1, .int mi.2.2.2.2.2.1, .int mi.2.2.2.2.2.2.1, .int mi.2.2.2.2.2.2.2.1, .ref (bm 18), .ref (bm 19), .ref (bm 20), .ref (bm 21), .int mi.2.2.2.2.2.2.2.2])), ((bm 1), .inl (cI, 4, .inl w.1)), ((bm 2), .inl (cI, 4, .inl w.2.1)), ((bm 3), .inl (cI, 4, .inl w.2.2.1)), ((bm 4), .inl (cI, 4, .inl w.2.2.2.1)), ((bm 5), .inl (cI, 4, .inl w.2.2.2.2.1)), ((bm 6), .inl (cI, 4, .inl w.2.2.2.2.2.1)), ((bm 7), .inl (cI, 4, .inl w.2.2.2.2.2.2))]) (wr := []) (rest := [.int 0]) hw [0, 1, 2, 3, 4, 5, 6, 7] [] rfl rfl (by decide) (by decide) (kx_runV S hw fc_Md_85 rfl 0 rfl [0, 1, 2, 3, 4, 5, 6, 7] (by decide) rfl (c_Md_stands l D cI cZ cO bm mi w 1 s ((by unfold vp_in; decide)) H.size) rfl hl.1 rfl (Nat.le_of_ble_eq_true rfl) d_Md_line_24 (by decide) (by decide)) (fun r5 u5 H locs hp5 hw => ?_)
        obtain ⟨hp5, hb5⟩ := hp5
        have hw : kx_w D (kx_T cI cZ cO) A_ s_ [((bm 0), .inr (6, [.int mi.1, .int mi.2.1, .int mi.2.2.1, .ref (bm 1), .ref (bm 2), .ref (bm 3), .ref (bm 4), .ref (bm 5), .ref (bm 6), .ref (bm 7), .ref (bm 8), .ref (bm 9), .int mi.2.2.2.1, .ref (bm 10), .ref (bm 11), .ref (bm 12), .ref (bm 13), .ref (bm 14), .ref (bm 15), .ref (bm 16), .ref (bm 17), .int mi.2.2.2.2.1, .int mi.2.2.2.2.2.1, .int mi.2.2.2.2.2.2.1, .int mi.2.2.2.2.2.2.2.1, .ref (bm 18), .ref (bm 19), .ref (bm 20), .ref (bm 21), .int mi.2.2.2.2.2.2.2.2])), ((bm 1), .inl (cI, 4, .inl w.1)), ((bm 2), .inl (cI, 4, .inl w.2.1)), ((bm 3), .inl (cI, 4, .inl w.2.2.1)), ((bm 4), .inl (cI, 4, .inl w.2.2.2.1)), ((bm 5), .inl (cI, 4, .inl w.2.2.2.2.1)), ((bm 6), .inl (cI, 4, .inl w.2.2.2.2.2.1)), ((bm 7), .inl (cI, 4, .inl w.2.2.2.2.2.2))] H locs := hw
        refine lv_if_eq (tgt := 34) hx hb d_Md_line_27 (by decide) (fun h6 => ?_) (fun h6 => ?_)
        · refine lv_iconst (v := 0) hx hb d_Md_line_34 (by decide) ?_
          refine lv_iadd hx hb d_Md_line_35 ?_
          refine kx_top (v := 0) (by decide) ?_
          refine lv_istore_n (lv' := [(2, .int 0), (3, .int 1), (0, .ref (bm 0)), (1, .int s)]) hx hb d_Md_line_36 rfl hl (by decide) rfl (fun ls hl => ?_)
          refine lv_iinc (v := 2) (k := 1) (lv' := [(3, .int 2), (2, .int 0), (0, .ref (bm 0)), (1, .int s)]) hx hb d_Md_line_37 hl rfl (by decide) (by decide) rfl (fun ls hl => ?_)
          refine lv_goto (tgt := 15) hx hb d_Md_line_40 (by decide) ?_
          refine lv_iload_n hx hb d_Md_line_15 rfl (lv_at hl 0 rfl) ?_
          refine lv_iconst (v := 4) hx hb d_Md_line_16 (by decide) ?_
          refine lv_icmp_ge (tgt := 43) hx hb d_Md_line_17 (by decide) (fun h => absurd h (by decide)) (fun _ => ?_)
          refine lv_iload_n hx hb d_Md_line_20 rfl (lv_at hl 1 rfl) ?_
          refine lv_aload_n hx hb d_Md_line_21 rfl (lv_at hl 2 rfl) ?_
          refine lv_iload_n hx hb d_Md_line_22 rfl (lv_at hl 0 rfl) ?_
          refine lv_iload_n hx hb d_Md_line_23 rfl (lv_at hl 3 rfl) ?_
          refine kx_call_i (wc := [((bm 0), .inr (6, [.int mi.1, .int mi.2.1, .int mi.2.2.1, .ref (bm 1), .ref (bm 2), .ref (bm 3), .ref (bm 4), .ref (bm 5), .ref (bm 6), .ref (bm 7), .ref (bm 8), .ref (bm 9), .int mi.2.2.2.1, .ref (bm 10), .ref (bm 11), .ref (bm 12), .ref (bm 13), .ref (bm 14), .ref (bm 15), .ref (bm 16), .ref (bm 17), .int mi.2.2.2.2.1, .int mi.2.2.2.2.2.1, .int mi.2.2.2.2.2.2.1, .int mi.2.2.2.2.2.2.2.1, .ref (bm 18), .ref (bm 19), .ref (bm 20), .ref (bm 21), .int mi.2.2.2.2.2.2.2.2])), ((bm 1), .inl (cI, 4, .inl w.1)), ((bm 2), .inl (cI, 4, .inl w.2.1)), ((bm 3), .inl (cI, 4, .inl w.2.2.1)), ((bm 4), .inl (cI, 4, .inl w.2.2.2.1)), ((bm 5), .inl (cI, 4, .inl w.2.2.2.2.1)), ((bm 6), .inl (cI, 4, .inl w.2.2.2.2.2.1)), ((bm 7), .inl (cI, 4, .inl w.2.2.2.2.2.2))]) (wr := []) (rest := [.int 0]) hw [0, 1, 2, 3, 4, 5, 6, 7] [] rfl rfl (by decide) (by decide) (kx_runV S hw fc_Md_85 rfl 0 rfl [0, 1, 2, 3, 4, 5, 6, 7] (by decide) rfl (c_Md_stands l D cI cZ cO bm mi w 2 s ((by unfold vp_in; decide)) H.size) rfl hl.1 rfl (Nat.le_of_ble_eq_true rfl) d_Md_line_24 (by decide) (by decide)) (fun r7 u7 H locs hp7 hw => ?_)
          obtain ⟨hp7, hb7⟩ := hp7
          have hw : kx_w D (kx_T cI cZ cO) A_ s_ [((bm 0), .inr (6, [.int mi.1, .int mi.2.1, .int mi.2.2.1, .ref (bm 1), .ref (bm 2), .ref (bm 3), .ref (bm 4), .ref (bm 5), .ref (bm 6), .ref (bm 7), .ref (bm 8), .ref (bm 9), .int mi.2.2.2.1, .ref (bm 10), .ref (bm 11), .ref (bm 12), .ref (bm 13), .ref (bm 14), .ref (bm 15), .ref (bm 16), .ref (bm 17), .int mi.2.2.2.2.1, .int mi.2.2.2.2.2.1, .int mi.2.2.2.2.2.2.1, .int mi.2.2.2.2.2.2.2.1, .ref (bm 18), .ref (bm 19), .ref (bm 20), .ref (bm 21), .int mi.2.2.2.2.2.2.2.2])), ((bm 1), .inl (cI, 4, .inl w.1)), ((bm 2), .inl (cI, 4, .inl w.2.1)), ((bm 3), .inl (cI, 4, .inl w.2.2.1)), ((bm 4), .inl (cI, 4, .inl w.2.2.2.1)), ((bm 5), .inl (cI, 4, .inl w.2.2.2.2.1)), ((bm 6), .inl (cI, 4, .inl w.2.2.2.2.2.1)), ((bm 7), .inl (cI, 4, .inl w.2.2.2.2.2.2))] H locs := hw
          refine lv_if_eq (tgt := 34) hx hb d_Md_line_27 (by decide) (fun h8 => ?_) (fun h8 => ?_)
          · refine lv_iconst (v := 0) hx hb d_Md_line_34 (by decide) ?_
            refine lv_iadd hx hb d_Md_line_35 ?_
            refine kx_top (v := 0) (by decide) ?_
            refine lv_istore_n (lv' := [(2, .int 0), (3, .int 2), (0, .ref (bm 0)), (1, .int s)]) hx hb d_Md_line_36 rfl hl (by decide) rfl (fun ls hl => ?_)
            refine lv_iinc (v := 3) (k := 1) (lv' := [(3, .int 3), (2, .int 0), (0, .ref (bm 0)), (1, .int s)]) hx hb d_Md_line_37 hl rfl (by decide) (by decide) rfl (fun ls hl => ?_)
            refine lv_goto (tgt := 15) hx hb d_Md_line_40 (by decide) ?_
            refine lv_iload_n hx hb d_Md_line_15 rfl (lv_at hl 0 rfl) ?_
            refine lv_iconst (v := 4) hx hb d_Md_line_16 (by decide) ?_
            refine lv_icmp_ge (tgt := 43) hx hb d_Md_line_17 (by decide) (fun h => absurd h (by decide)) (fun _ => ?_)
            refine lv_iload_n hx hb d_Md_line_20 rfl (lv_at hl 1 rfl) ?_
            refine lv_aload_n hx hb d_Md_line_21 rfl (lv_at hl 2 rfl) ?_
            refine lv_iload_n hx hb d_Md_line_22 rfl (lv_at hl 0 rfl) ?_
            refine lv_iload_n hx hb d_Md_line_23 rfl (lv_at hl 3 rfl) ?_
            refine kx_call_i (wc := [((bm 0), .inr (6, [.int mi.1, .int mi.2.1, .int mi.2.2.1, .ref (bm 1), .ref (bm 2), .ref (bm 3), .ref (bm 4), .ref (bm 5), .ref (bm 6), .ref (bm 7), .ref (bm 8), .ref (bm 9), .int mi.2.2.2.1, .ref (bm 10), .ref (bm 11), .ref (bm 12), .ref (bm 13), .ref (bm 14), .ref (bm 15), .ref (bm 16), .ref (bm 17), .int mi.2.2.2.2.1, .int mi.2.2.2.2.2.1, .int mi.2.2.2.2.2.2.1, .int mi.2.2.2.2.2.2.2.1, .ref (bm 18), .ref (bm 19), .ref (bm 20), .ref (bm 21), .int mi.2.2.2.2.2.2.2.2])), ((bm 1), .inl (cI, 4, .inl w.1)), ((bm 2), .inl (cI, 4, .inl w.2.1)), ((bm 3), .inl (cI, 4, .inl w.2.2.1)), ((bm 4), .inl (cI, 4, .inl w.2.2.2.1)), ((bm 5), .inl (cI, 4, .inl w.2.2.2.2.1)), ((bm 6), .inl (cI, 4, .inl w.2.2.2.2.2.1)), ((bm 7), .inl (cI, 4, .inl w.2.2.2.2.2.2))]) (wr := []) (rest := [.int 0]) hw [0, 1, 2, 3, 4, 5, 6, 7] [] rfl rfl (by decide) (by decide) (kx_runV S hw fc_Md_85 rfl 0 rfl [0, 1, 2, 3, 4, 5, 6, 7] (by decide) rfl (c_Md_stands l D cI cZ cO bm mi w 3 s ((by unfold vp_in; decide)) H.size) rfl hl.1 rfl (Nat.le_of_ble_eq_true rfl) d_Md_line_24 (by decide) (by decide)) (fun r9 u9 H locs hp9 hw => ?_)
            obtain ⟨hp9, hb9⟩ := hp9
            have hw : kx_w D (kx_T cI cZ cO) A_ s_ [((bm 0), .inr (6, [.int mi.1, .int mi.2.1, .int mi.2.2.1, .ref (bm 1), .ref (bm 2), .ref (bm 3), .ref (bm 4), .ref (bm 5), .ref (bm 6), .ref (bm 7), .ref (bm 8), .ref (bm 9), .int mi.2.2.2.1, .ref (bm 10), .ref (bm 11), .ref (bm 12), .ref (bm 13), .ref (bm 14), .ref (bm 15), .ref (bm 16), .ref (bm 17), .int mi.2.2.2.2.1, .int mi.2.2.2.2.2.1, .int mi.2.2.2.2.2.2.1, .int mi.2.2.2.2.2.2.2.1, .ref (bm 18), .ref (bm 19), .ref (bm 20), .ref (bm 21), .int mi.2.2.2.2.2.2.2.2])), ((bm 1), .inl (cI, 4, .inl w.1)), ((bm 2), .inl (cI, 4, .inl w.2.1)), ((bm 3), .inl (cI, 4, .inl w.2.2.1)), ((bm 4), .inl (cI, 4, .inl w.2.2.2.1)), ((bm 5), .inl (cI, 4, .inl w.2.2.2.2.1)), ((bm 6), .inl (cI, 4, .inl w.2.2.2.2.2.1)), ((bm 7), .inl (cI, 4, .inl w.2.2.2.2.2.2))] H locs := hw
            refine lv_if_eq (tgt := 34) hx hb d_Md_line_27 (by decide) (fun h10 => ?_) (fun h10 => ?_)
            · refine lv_iconst (v := 0) hx hb d_Md_line_34 (by decide) ?_
              refine lv_iadd hx hb d_Md_line_35 ?_
              refine kx_top (v := 0) (by decide) ?_
              refine lv_istore_n (lv' := [(2, .int 0), (3, .int 3), (0, .ref (bm 0)), (1, .int s)]) hx hb d_Md_line_36 rfl hl (by decide) rfl (fun ls hl => ?_)
              refine lv_iinc (v := 4) (k := 1) (lv' := [(3, .int 4), (2, .int 0), (0, .ref (bm 0)), (1, .int s)]) hx hb d_Md_line_37 hl rfl (by decide) (by decide) rfl (fun ls hl => ?_)
              refine lv_goto (tgt := 15) hx hb d_Md_line_40 (by decide) ?_
              refine lv_iload_n hx hb d_Md_line_15 rfl (lv_at hl 0 rfl) ?_
              refine lv_iconst (v := 4) hx hb d_Md_line_16 (by decide) ?_
              refine lv_icmp_ge (tgt := 43) hx hb d_Md_line_17 (by decide) (fun _ => ?_) (fun h => absurd h (by decide))
              refine lv_iload_n hx hb d_Md_line_43 rfl (lv_at hl 1 rfl) ?_
              exact kx_ret_i I rfl hw () (by simp only [f_Md_line, if_neg h1, if_pos h2, ← hp3, if_pos h4, ← hp5, if_pos h6, ← hp7, if_pos h8, ← hp9, if_pos h10]) [0, 1, 2, 3, 4, 5, 6, 7] (by decide) rfl d_Md_line_44
            · refine lv_iconst (v := 1) hx hb d_Md_line_30 (by decide) ?_
              refine lv_goto (tgt := 35) hx hb d_Md_line_31 (by decide) ?_
              refine lv_iadd hx hb d_Md_line_35 ?_
              refine kx_top (v := 1) (by decide) ?_
              refine lv_istore_n (lv' := [(2, .int 1), (3, .int 3), (0, .ref (bm 0)), (1, .int s)]) hx hb d_Md_line_36 rfl hl (by decide) rfl (fun ls hl => ?_)
              refine lv_iinc (v := 4) (k := 1) (lv' := [(3, .int 4), (2, .int 1), (0, .ref (bm 0)), (1, .int s)]) hx hb d_Md_line_37 hl rfl (by decide) (by decide) rfl (fun ls hl => ?_)
              refine lv_goto (tgt := 15) hx hb d_Md_line_40 (by decide) ?_
              refine lv_iload_n hx hb d_Md_line_15 rfl (lv_at hl 0 rfl) ?_
              refine lv_iconst (v := 4) hx hb d_Md_line_16 (by decide) ?_
              refine lv_icmp_ge (tgt := 43) hx hb d_Md_line_17 (by decide) (fun _ => ?_) (fun h => absurd h (by decide))
              refine lv_iload_n hx hb d_Md_line_43 rfl (lv_at hl 1 rfl) ?_
              exact kx_ret_i I rfl hw () (by simp only [f_Md_line, if_neg h1, if_pos h2, ← hp3, if_pos h4, ← hp5, if_pos h6, ← hp7, if_pos h8, ← hp9, if_neg h10]) [0, 1, 2, 3, 4, 5, 6, 7] (by decide) rfl d_Md_line_44
          · refine lv_iconst (v := 1) hx hb d_Md_line_30 (by decide) ?_
            refine lv_goto (tgt := 35) hx hb d_Md_line_31 (by decide) ?_
            refine lv_iadd hx hb d_Md_line_35 ?_
            refine kx_top (v := 1) (by decide) ?_
            refine lv_istore_n (lv' := [(2, .int 1), (3, .int 2), (0, .ref (bm 0)), (1, .int s)]) hx hb d_Md_line_36 rfl hl (by decide) rfl (fun ls hl => ?_)
            refine lv_iinc (v := 3) (k := 1) (lv' := [(3, .int 3), (2, .int 1), (0, .ref (bm 0)), (1, .int s)]) hx hb d_Md_line_37 hl rfl (by decide) (by decide) rfl (fun ls hl => ?_)
            refine lv_goto (tgt := 15) hx hb d_Md_line_40 (by decide) ?_
            refine lv_iload_n hx hb d_Md_line_15 rfl (lv_at hl 0 rfl) ?_
            refine lv_iconst (v := 4) hx hb d_Md_line_16 (by decide) ?_
            refine lv_icmp_ge (tgt := 43) hx hb d_Md_line_17 (by decide) (fun h => absurd h (by decide)) (fun _ => ?_)
            refine lv_iload_n hx hb d_Md_line_20 rfl (lv_at hl 1 rfl) ?_
            refine lv_aload_n hx hb d_Md_line_21 rfl (lv_at hl 2 rfl) ?_
            refine lv_iload_n hx hb d_Md_line_22 rfl (lv_at hl 0 rfl) ?_
            refine lv_iload_n hx hb d_Md_line_23 rfl (lv_at hl 3 rfl) ?_
            refine kx_call_i (wc := [((bm 0), .inr (6, [.int mi.1, .int mi.2.1, .int mi.2.2.1, .ref (bm 1), .ref (bm 2), .ref (bm 3), .ref (bm 4), .ref (bm 5), .ref (bm 6), .ref (bm 7), .ref (bm 8), .ref (bm 9), .int mi.2.2.2.1, .ref (bm 10), .ref (bm 11), .ref (bm 12), .ref (bm 13), .ref (bm 14), .ref (bm 15), .ref (bm 16), .ref (bm 17), .int mi.2.2.2.2.1, .int mi.2.2.2.2.2.1, .int mi.2.2.2.2.2.2.1, .int mi.2.2.2.2.2.2.2.1, .ref (bm 18), .ref (bm 19), .ref (bm 20), .ref (bm 21), .int mi.2.2.2.2.2.2.2.2])), ((bm 1), .inl (cI, 4, .inl w.1)), ((bm 2), .inl (cI, 4, .inl w.2.1)), ((bm 3), .inl (cI, 4, .inl w.2.2.1)), ((bm 4), .inl (cI, 4, .inl w.2.2.2.1)), ((bm 5), .inl (cI, 4, .inl w.2.2.2.2.1)), ((bm 6), .inl (cI, 4, .inl w.2.2.2.2.2.1)), ((bm 7), .inl (cI, 4, .inl w.2.2.2.2.2.2))]) (wr := []) (rest := [.int 1]) hw [0, 1, 2, 3, 4, 5, 6, 7] [] rfl rfl (by decide) (by decide) (kx_runV S hw fc_Md_85 rfl 0 rfl [0, 1, 2, 3, 4, 5, 6, 7] (by decide) rfl (c_Md_stands l D cI cZ cO bm mi w 3 s ((by unfold vp_in; decide)) H.size) rfl hl.1 rfl (Nat.le_of_ble_eq_true rfl) d_Md_line_24 (by decide) (by decide)) (fun r11 u11 H locs hp11 hw => ?_)
            obtain ⟨hp11, hb11⟩ := hp11
            have hw : kx_w D (kx_T cI cZ cO) A_ s_ [((bm 0), .inr (6, [.int mi.1, .int mi.2.1, .int mi.2.2.1, .ref (bm 1), .ref (bm 2), .ref (bm 3), .ref (bm 4), .ref (bm 5), .ref (bm 6), .ref (bm 7), .ref (bm 8), .ref (bm 9), .int mi.2.2.2.1, .ref (bm 10), .ref (bm 11), .ref (bm 12), .ref (bm 13), .ref (bm 14), .ref (bm 15), .ref (bm 16), .ref (bm 17), .int mi.2.2.2.2.1, .int mi.2.2.2.2.2.1, .int mi.2.2.2.2.2.2.1, .int mi.2.2.2.2.2.2.2.1, .ref (bm 18), .ref (bm 19), .ref (bm 20), .ref (bm 21), .int mi.2.2.2.2.2.2.2.2])), ((bm 1), .inl (cI, 4, .inl w.1)), ((bm 2), .inl (cI, 4, .inl w.2.1)), ((bm 3), .inl (cI, 4, .inl w.2.2.1)), ((bm 4), .inl (cI, 4, .inl w.2.2.2.1)), ((bm 5), .inl (cI, 4, .inl w.2.2.2.2.1)), ((bm 6), .inl (cI, 4, .inl w.2.2.2.2.2.1)), ((bm 7), .inl (cI, 4, .inl w.2.2.2.2.2.2))] H locs := hw
            refine lv_if_eq (tgt := 34) hx hb d_Md_line_27 (by decide) (fun h12 => ?_) (fun h12 => ?_)
            · refine lv_iconst (v := 0) hx hb d_Md_line_34 (by decide) ?_
              refine lv_iadd hx hb d_Md_line_35 ?_
              refine kx_top (v := 1) (by decide) ?_
              refine lv_istore_n (lv' := [(2, .int 1), (3, .int 3), (0, .ref (bm 0)), (1, .int s)]) hx hb d_Md_line_36 rfl hl (by decide) rfl (fun ls hl => ?_)
              refine lv_iinc (v := 4) (k := 1) (lv' := [(3, .int 4), (2, .int 1), (0, .ref (bm 0)), (1, .int s)]) hx hb d_Md_line_37 hl rfl (by decide) (by decide) rfl (fun ls hl => ?_)
              refine lv_goto (tgt := 15) hx hb d_Md_line_40 (by decide) ?_
              refine lv_iload_n hx hb d_Md_line_15 rfl (lv_at hl 0 rfl) ?_
              refine lv_iconst (v := 4) hx hb d_Md_line_16 (by decide) ?_
              refine lv_icmp_ge (tgt := 43) hx hb d_Md_line_17 (by decide) (fun _ => ?_) (fun h => absurd h (by decide))
              refine lv_iload_n hx hb d_Md_line_43 rfl (lv_at hl 1 rfl) ?_
              exact kx_ret_i I rfl hw () (by simp only [f_Md_line, if_neg h1, if_pos h2, ← hp3, if_pos h4, ← hp5, if_pos h6, ← hp7, if_neg h8, ← hp11, if_pos h12]) [0, 1, 2, 3, 4, 5, 6, 7] (by decide) rfl d_Md_line_44
            · refine lv_iconst (v := 1) hx hb d_Md_line_30 (by decide) ?_
              refine lv_goto (tgt := 35) hx hb d_Md_line_31 (by decide) ?_
              refine lv_iadd hx hb d_Md_line_35 ?_
              refine kx_top (v := 2) (by decide) ?_
              refine lv_istore_n (lv' := [(2, .int 2), (3, .int 3), (0, .ref (bm 0)), (1, .int s)]) hx hb d_Md_line_36 rfl hl (by decide) rfl (fun ls hl => ?_)
              refine lv_iinc (v := 4) (k := 1) (lv' := [(3, .int 4), (2, .int 2), (0, .ref (bm 0)), (1, .int s)]) hx hb d_Md_line_37 hl rfl (by decide) (by decide) rfl (fun ls hl => ?_)
              refine lv_goto (tgt := 15) hx hb d_Md_line_40 (by decide) ?_
              refine lv_iload_n hx hb d_Md_line_15 rfl (lv_at hl 0 rfl) ?_
              refine lv_iconst (v := 4) hx hb d_Md_line_16 (by decide) ?_
              refine lv_icmp_ge (tgt := 43) hx hb d_Md_line_17 (by decide) (fun _ => ?_) (fun h => absurd h (by decide))
              refine lv_iload_n hx hb d_Md_line_43 rfl (lv_at hl 1 rfl) ?_
              exact kx_ret_i I rfl hw () (by simp only [f_Md_line, if_neg h1, if_pos h2, ← hp3, if_pos h4, ← hp5, if_pos h6, ← hp7, if_neg h8, ← hp11, if_neg h12]) [0, 1, 2, 3, 4, 5, 6, 7] (by decide) rfl d_Md_line_44
        · refine lv_iconst (v := 1) hx hb d_Md_line_30 (by decide) ?_
          refine lv_goto (tgt := 35) hx hb d_Md_line_31 (by decide) ?_
          refine lv_iadd hx hb d_Md_line_35 ?_
          refine kx_top (v := 1) (by decide) ?_
          refine lv_istore_n (lv' := [(2, .int 1), (3, .int 1), (0, .ref (bm 0)), (1, .int s)]) hx hb d_Md_line_36 rfl hl (by decide) rfl (fun ls hl => ?_)
          refine lv_iinc (v := 2) (k := 1) (lv' := [(3, .int 2), (2, .int 1), (0, .ref (bm 0)), (1, .int s)]) hx hb d_Md_line_37 hl rfl (by decide) (by decide) rfl (fun ls hl => ?_)
          refine lv_goto (tgt := 15) hx hb d_Md_line_40 (by decide) ?_
          refine lv_iload_n hx hb d_Md_line_15 rfl (lv_at hl 0 rfl) ?_
          refine lv_iconst (v := 4) hx hb d_Md_line_16 (by decide) ?_
          refine lv_icmp_ge (tgt := 43) hx hb d_Md_line_17 (by decide) (fun h => absurd h (by decide)) (fun _ => ?_)
          refine lv_iload_n hx hb d_Md_line_20 rfl (lv_at hl 1 rfl) ?_
          refine lv_aload_n hx hb d_Md_line_21 rfl (lv_at hl 2 rfl) ?_
          refine lv_iload_n hx hb d_Md_line_22 rfl (lv_at hl 0 rfl) ?_
          refine lv_iload_n hx hb d_Md_line_23 rfl (lv_at hl 3 rfl) ?_
          refine kx_call_i (wc := [((bm 0), .inr (6, [.int mi.1, .int mi.2.1, .int mi.2.2.1, .ref (bm 1), .ref (bm 2), .ref (bm 3), .ref (bm 4), .ref (bm 5), .ref (bm 6), .ref (bm 7), .ref (bm 8), .ref (bm 9), .int mi.2.2.2.1, .ref (bm 10), .ref (bm 11), .ref (bm 12), .ref (bm 13), .ref (bm 14), .ref (bm 15), .ref (bm 16), .ref (bm 17), .int mi.2.2.2.2.1, .int mi.2.2.2.2.2.1, .int mi.2.2.2.2.2.2.1, .int mi.2.2.2.2.2.2.2.1, .ref (bm 18), .ref (bm 19), .ref (bm 20), .ref (bm 21), .int mi.2.2.2.2.2.2.2.2])), ((bm 1), .inl (cI, 4, .inl w.1)), ((bm 2), .inl (cI, 4, .inl w.2.1)), ((bm 3), .inl (cI, 4, .inl w.2.2.1)), ((bm 4), .inl (cI, 4, .inl w.2.2.2.1)), ((bm 5), .inl (cI, 4, .inl w.2.2.2.2.1)), ((bm 6), .inl (cI, 4, .inl w.2.2.2.2.2.1)), ((bm 7), .inl (cI, 4, .inl w.2.2.2.2.2.2))]) (wr := []) (rest := [.int 1]) hw [0, 1, 2, 3, 4, 5, 6, 7] [] rfl rfl (by decide) (by decide) (kx_runV S hw fc_Md_85 rfl 0 rfl [0, 1, 2, 3, 4, 5, 6, 7] (by decide) rfl (c_Md_stands l D cI cZ cO bm mi w 2 s ((by unfold vp_in; decide)) H.size) rfl hl.1 rfl (Nat.le_of_ble_eq_true rfl) d_Md_line_24 (by decide) (by decide)) (fun r13 u13 H locs hp13 hw => ?_)
          obtain ⟨hp13, hb13⟩ := hp13
          have hw : kx_w D (kx_T cI cZ cO) A_ s_ [((bm 0), .inr (6, [.int mi.1, .int mi.2.1, .int mi.2.2.1, .ref (bm 1), .ref (bm 2), .ref (bm 3), .ref (bm 4), .ref (bm 5), .ref (bm 6), .ref (bm 7), .ref (bm 8), .ref (bm 9), .int mi.2.2.2.1, .ref (bm 10), .ref (bm 11), .ref (bm 12), .ref (bm 13), .ref (bm 14), .ref (bm 15), .ref (bm 16), .ref (bm 17), .int mi.2.2.2.2.1, .int mi.2.2.2.2.2.1, .int mi.2.2.2.2.2.2.1, .int mi.2.2.2.2.2.2.2.1, .ref (bm 18), .ref (bm 19), .ref (bm 20), .ref (bm 21), .int mi.2.2.2.2.2.2.2.2])), ((bm 1), .inl (cI, 4, .inl w.1)), ((bm 2), .inl (cI, 4, .inl w.2.1)), ((bm 3), .inl (cI, 4, .inl w.2.2.1)), ((bm 4), .inl (cI, 4, .inl w.2.2.2.1)), ((bm 5), .inl (cI, 4, .inl w.2.2.2.2.1)), ((bm 6), .inl (cI, 4, .inl w.2.2.2.2.2.1)), ((bm 7), .inl (cI, 4, .inl w.2.2.2.2.2.2))] H locs := hw
          refine lv_if_eq (tgt := 34) hx hb d_Md_line_27 (by decide) (fun h14 => ?_) (fun h14 => ?_)
          · refine lv_iconst (v := 0) hx hb d_Md_line_34 (by decide) ?_
            refine lv_iadd hx hb d_Md_line_35 ?_
            refine kx_top (v := 1) (by decide) ?_
            refine lv_istore_n (lv' := [(2, .int 1), (3, .int 2), (0, .ref (bm 0)), (1, .int s)]) hx hb d_Md_line_36 rfl hl (by decide) rfl (fun ls hl => ?_)
            refine lv_iinc (v := 3) (k := 1) (lv' := [(3, .int 3), (2, .int 1), (0, .ref (bm 0)), (1, .int s)]) hx hb d_Md_line_37 hl rfl (by decide) (by decide) rfl (fun ls hl => ?_)
            refine lv_goto (tgt := 15) hx hb d_Md_line_40 (by decide) ?_
            refine lv_iload_n hx hb d_Md_line_15 rfl (lv_at hl 0 rfl) ?_
            refine lv_iconst (v := 4) hx hb d_Md_line_16 (by decide) ?_
            refine lv_icmp_ge (tgt := 43) hx hb d_Md_line_17 (by decide) (fun h => absurd h (by decide)) (fun _ => ?_)
            refine lv_iload_n hx hb d_Md_line_20 rfl (lv_at hl 1 rfl) ?_
            refine lv_aload_n hx hb d_Md_line_21 rfl (lv_at hl 2 rfl) ?_
            refine lv_iload_n hx hb d_Md_line_22 rfl (lv_at hl 0 rfl) ?_
            refine lv_iload_n hx hb d_Md_line_23 rfl (lv_at hl 3 rfl) ?_
            refine kx_call_i (wc := [((bm 0), .inr (6, [.int mi.1, .int mi.2.1, .int mi.2.2.1, .ref (bm 1), .ref (bm 2), .ref (bm 3), .ref (bm 4), .ref (bm 5), .ref (bm 6), .ref (bm 7), .ref (bm 8), .ref (bm 9), .int mi.2.2.2.1, .ref (bm 10), .ref (bm 11), .ref (bm 12), .ref (bm 13), .ref (bm 14), .ref (bm 15), .ref (bm 16), .ref (bm 17), .int mi.2.2.2.2.1, .int mi.2.2.2.2.2.1, .int mi.2.2.2.2.2.2.1, .int mi.2.2.2.2.2.2.2.1, .ref (bm 18), .ref (bm 19), .ref (bm 20), .ref (bm 21), .int mi.2.2.2.2.2.2.2.2])), ((bm 1), .inl (cI, 4, .inl w.1)), ((bm 2), .inl (cI, 4, .inl w.2.1)), ((bm 3), .inl (cI, 4, .inl w.2.2.1)), ((bm 4), .inl (cI, 4, .inl w.2.2.2.1)), ((bm 5), .inl (cI, 4, .inl w.2.2.2.2.1)), ((bm 6), .inl (cI, 4, .inl w.2.2.2.2.2.1)), ((bm 7), .inl (cI, 4, .inl w.2.2.2.2.2.2))]) (wr := []) (rest := [.int 1]) hw [0, 1, 2, 3, 4, 5, 6, 7] [] rfl rfl (by decide) (by decide) (kx_runV S hw fc_Md_85 rfl 0 rfl [0, 1, 2, 3, 4, 5, 6, 7] (by decide) rfl (c_Md_stands l D cI cZ cO bm mi w 3 s ((by unfold vp_in; decide)) H.size) rfl hl.1 rfl (Nat.le_of_ble_eq_true rfl) d_Md_line_24 (by decide) (by decide)) (fun r15 u15 H locs hp15 hw => ?_)
            obtain ⟨hp15, hb15⟩ := hp15
            have hw : kx_w D (kx_T cI cZ cO) A_ s_ [((bm 0), .inr (6, [.int mi.1, .int mi.2.1, .int mi.2.2.1, .ref (bm 1), .ref (bm 2), .ref (bm 3), .ref (bm 4), .ref (bm 5), .ref (bm 6), .ref (bm 7), .ref (bm 8), .ref (bm 9), .int mi.2.2.2.1, .ref (bm 10), .ref (bm 11), .ref (bm 12), .ref (bm 13), .ref (bm 14), .ref (bm 15), .ref (bm 16), .ref (bm 17), .int mi.2.2.2.2.1, .int mi.2.2.2.2.2.1, .int mi.2.2.2.2.2.2.1, .int mi.2.2.2.2.2.2.2.1, .ref (bm 18), .ref (bm 19), .ref (bm 20), .ref (bm 21), .int mi.2.2.2.2.2.2.2.2])), ((bm 1), .inl (cI, 4, .inl w.1)), ((bm 2), .inl (cI, 4, .inl w.2.1)), ((bm 3), .inl (cI, 4, .inl w.2.2.1)), ((bm 4), .inl (cI, 4, .inl w.2.2.2.1)), ((bm 5), .inl (cI, 4, .inl w.2.2.2.2.1)), ((bm 6), .inl (cI, 4, .inl w.2.2.2.2.2.1)), ((bm 7), .inl (cI, 4, .inl w.2.2.2.2.2.2))] H locs := hw
            refine lv_if_eq (tgt := 34) hx hb d_Md_line_27 (by decide) (fun h16 => ?_) (fun h16 => ?_)
            · refine lv_iconst (v := 0) hx hb d_Md_line_34 (by decide) ?_
              refine lv_iadd hx hb d_Md_line_35 ?_
              refine kx_top (v := 1) (by decide) ?_
              refine lv_istore_n (lv' := [(2, .int 1), (3, .int 3), (0, .ref (bm 0)), (1, .int s)]) hx hb d_Md_line_36 rfl hl (by decide) rfl (fun ls hl => ?_)
              refine lv_iinc (v := 4) (k := 1) (lv' := [(3, .int 4), (2, .int 1), (0, .ref (bm 0)), (1, .int s)]) hx hb d_Md_line_37 hl rfl (by decide) (by decide) rfl (fun ls hl => ?_)
              refine lv_goto (tgt := 15) hx hb d_Md_line_40 (by decide) ?_
              refine lv_iload_n hx hb d_Md_line_15 rfl (lv_at hl 0 rfl) ?_
              refine lv_iconst (v := 4) hx hb d_Md_line_16 (by decide) ?_
              refine lv_icmp_ge (tgt := 43) hx hb d_Md_line_17 (by decide) (fun _ => ?_) (fun h => absurd h (by decide))
              refine lv_iload_n hx hb d_Md_line_43 rfl (lv_at hl 1 rfl) ?_
              exact kx_ret_i I rfl hw () (by simp only [f_Md_line, if_neg h1, if_pos h2, ← hp3, if_pos h4, ← hp5, if_neg h6, ← hp13, if_pos h14, ← hp15, if_pos h16]) [0, 1, 2, 3, 4, 5, 6, 7] (by decide) rfl d_Md_line_44
            · refine lv_iconst (v := 1) hx hb d_Md_line_30 (by decide) ?_
              refine lv_goto (tgt := 35) hx hb d_Md_line_31 (by decide) ?_
              refine lv_iadd hx hb d_Md_line_35 ?_
              refine kx_top (v := 2) (by decide) ?_
              refine lv_istore_n (lv' := [(2, .int 2), (3, .int 3), (0, .ref (bm 0)), (1, .int s)]) hx hb d_Md_line_36 rfl hl (by decide) rfl (fun ls hl => ?_)
              refine lv_iinc (v := 4) (k := 1) (lv' := [(3, .int 4), (2, .int 2), (0, .ref (bm 0)), (1, .int s)]) hx hb d_Md_line_37 hl rfl (by decide) (by decide) rfl (fun ls hl => ?_)
              refine lv_goto (tgt := 15) hx hb d_Md_line_40 (by decide) ?_
              refine lv_iload_n hx hb d_Md_line_15 rfl (lv_at hl 0 rfl) ?_
              refine lv_iconst (v := 4) hx hb d_Md_line_16 (by decide) ?_
              refine lv_icmp_ge (tgt := 43) hx hb d_Md_line_17 (by decide) (fun _ => ?_) (fun h => absurd h (by decide))
              refine lv_iload_n hx hb d_Md_line_43 rfl (lv_at hl 1 rfl) ?_
              exact kx_ret_i I rfl hw () (by simp only [f_Md_line, if_neg h1, if_pos h2, ← hp3, if_pos h4, ← hp5, if_neg h6, ← hp13, if_pos h14, ← hp15, if_neg h16]) [0, 1, 2, 3, 4, 5, 6, 7] (by decide) rfl d_Md_line_44
          · refine lv_iconst (v := 1) hx hb d_Md_line_30 (by decide) ?_
            refine lv_goto (tgt := 35) hx hb d_Md_line_31 (by decide) ?_
            refine lv_iadd hx hb d_Md_line_35 ?_
            refine kx_top (v := 2) (by decide) ?_
            refine lv_istore_n (lv' := [(2, .int 2), (3, .int 2), (0, .ref (bm 0)), (1, .int s)]) hx hb d_Md_line_36 rfl hl (by decide) rfl (fun ls hl => ?_)
            refine lv_iinc (v := 3) (k := 1) (lv' := [(3, .int 3), (2, .int 2), (0, .ref (bm 0)), (1, .int s)]) hx hb d_Md_line_37 hl rfl (by decide) (by decide) rfl (fun ls hl => ?_)
            refine lv_goto (tgt := 15) hx hb d_Md_line_40 (by decide) ?_
            refine lv_iload_n hx hb d_Md_line_15 rfl (lv_at hl 0 rfl) ?_
            refine lv_iconst (v := 4) hx hb d_Md_line_16 (by decide) ?_
            refine lv_icmp_ge (tgt := 43) hx hb d_Md_line_17 (by decide) (fun h => absurd h (by decide)) (fun _ => ?_)
            refine lv_iload_n hx hb d_Md_line_20 rfl (lv_at hl 1 rfl) ?_
            refine lv_aload_n hx hb d_Md_line_21 rfl (lv_at hl 2 rfl) ?_
            refine lv_iload_n hx hb d_Md_line_22 rfl (lv_at hl 0 rfl) ?_
            refine lv_iload_n hx hb d_Md_line_23 rfl (lv_at hl 3 rfl) ?_
            refine kx_call_i (wc := [((bm 0), .inr (6, [.int mi.1, .int mi.2.1, .int mi.2.2.1, .ref (bm 1), .ref (bm 2), .ref (bm 3), .ref (bm 4), .ref (bm 5), .ref (bm 6), .ref (bm 7), .ref (bm 8), .ref (bm 9), .int mi.2.2.2.1, .ref (bm 10), .ref (bm 11), .ref (bm 12), .ref (bm 13), .ref (bm 14), .ref (bm 15), .ref (bm 16), .ref (bm 17), .int mi.2.2.2.2.1, .int mi.2.2.2.2.2.1, .int mi.2.2.2.2.2.2.1, .int mi.2.2.2.2.2.2.2.1, .ref (bm 18), .ref (bm 19), .ref (bm 20), .ref (bm 21), .int mi.2.2.2.2.2.2.2.2])), ((bm 1), .inl (cI, 4, .inl w.1)), ((bm 2), .inl (cI, 4, .inl w.2.1)), ((bm 3), .inl (cI, 4, .inl w.2.2.1)), ((bm 4), .inl (cI, 4, .inl w.2.2.2.1)), ((bm 5), .inl (cI, 4, .inl w.2.2.2.2.1)), ((bm 6), .inl (cI, 4, .inl w.2.2.2.2.2.1)), ((bm 7), .inl (cI, 4, .inl w.2.2.2.2.2.2))]) (wr := []) (rest := [.int 2]) hw [0, 1, 2, 3, 4, 5, 6, 7] [] rfl rfl (by decide) (by decide) (kx_runV S hw fc_Md_85 rfl 0 rfl [0, 1, 2, 3, 4, 5, 6, 7] (by decide) rfl (c_Md_stands l D cI cZ cO bm mi w 3 s ((by unfold vp_in; decide)) H.size) rfl hl.1 rfl (Nat.le_of_ble_eq_true rfl) d_Md_line_24 (by decide) (by decide)) (fun r17 u17 H locs hp17 hw => ?_)
            obtain ⟨hp17, hb17⟩ := hp17
            have hw : kx_w D (kx_T cI cZ cO) A_ s_ [((bm 0), .inr (6, [.int mi.1, .int mi.2.1, .int mi.2.2.1, .ref (bm 1), .ref (bm 2), .ref (bm 3), .ref (bm 4), .ref (bm 5), .ref (bm 6), .ref (bm 7), .ref (bm 8), .ref (bm 9), .int mi.2.2.2.1, .ref (bm 10), .ref (bm 11), .ref (bm 12), .ref (bm 13), .ref (bm 14), .ref (bm 15), .ref (bm 16), .ref (bm 17), .int mi.2.2.2.2.1, .int mi.2.2.2.2.2.1, .int mi.2.2.2.2.2.2.1, .int mi.2.2.2.2.2.2.2.1, .ref (bm 18), .ref (bm 19), .ref (bm 20), .ref (bm 21), .int mi.2.2.2.2.2.2.2.2])), ((bm 1), .inl (cI, 4, .inl w.1)), ((bm 2), .inl (cI, 4, .inl w.2.1)), ((bm 3), .inl (cI, 4, .inl w.2.2.1)), ((bm 4), .inl (cI, 4, .inl w.2.2.2.1)), ((bm 5), .inl (cI, 4, .inl w.2.2.2.2.1)), ((bm 6), .inl (cI, 4, .inl w.2.2.2.2.2.1)), ((bm 7), .inl (cI, 4, .inl w.2.2.2.2.2.2))] H locs := hw
            refine lv_if_eq (tgt := 34) hx hb d_Md_line_27 (by decide) (fun h18 => ?_) (fun h18 => ?_)
            · refine lv_iconst (v := 0) hx hb d_Md_line_34 (by decide) ?_
              refine lv_iadd hx hb d_Md_line_35 ?_
              refine kx_top (v := 2) (by decide) ?_
              refine lv_istore_n (lv' := [(2, .int 2), (3, .int 3), (0, .ref (bm 0)), (1, .int s)]) hx hb d_Md_line_36 rfl hl (by decide) rfl (fun ls hl => ?_)
              refine lv_iinc (v := 4) (k := 1) (lv' := [(3, .int 4), (2, .int 2), (0, .ref (bm 0)), (1, .int s)]) hx hb d_Md_line_37 hl rfl (by decide) (by decide) rfl (fun ls hl => ?_)
              refine lv_goto (tgt := 15) hx hb d_Md_line_40 (by decide) ?_
              refine lv_iload_n hx hb d_Md_line_15 rfl (lv_at hl 0 rfl) ?_
              refine lv_iconst (v := 4) hx hb d_Md_line_16 (by decide) ?_
              refine lv_icmp_ge (tgt := 43) hx hb d_Md_line_17 (by decide) (fun _ => ?_) (fun h => absurd h (by decide))
              refine lv_iload_n hx hb d_Md_line_43 rfl (lv_at hl 1 rfl) ?_
              exact kx_ret_i I rfl hw () (by simp only [f_Md_line, if_neg h1, if_pos h2, ← hp3, if_pos h4, ← hp5, if_neg h6, ← hp13, if_neg h14, ← hp17, if_pos h18]) [0, 1, 2, 3, 4, 5, 6, 7] (by decide) rfl d_Md_line_44
            · refine lv_iconst (v := 1) hx hb d_Md_line_30 (by decide) ?_
              refine lv_goto (tgt := 35) hx hb d_Md_line_31 (by decide) ?_
              refine lv_iadd hx hb d_Md_line_35 ?_
              refine kx_top (v := 3) (by decide) ?_
              refine lv_istore_n (lv' := [(2, .int 3), (3, .int 3), (0, .ref (bm 0)), (1, .int s)]) hx hb d_Md_line_36 rfl hl (by decide) rfl (fun ls hl => ?_)
              refine lv_iinc (v := 4) (k := 1) (lv' := [(3, .int 4), (2, .int 3), (0, .ref (bm 0)), (1, .int s)]) hx hb d_Md_line_37 hl rfl (by decide) (by decide) rfl (fun ls hl => ?_)
              refine lv_goto (tgt := 15) hx hb d_Md_line_40 (by decide) ?_
              refine lv_iload_n hx hb d_Md_line_15 rfl (lv_at hl 0 rfl) ?_
              refine lv_iconst (v := 4) hx hb d_Md_line_16 (by decide) ?_
              refine lv_icmp_ge (tgt := 43) hx hb d_Md_line_17 (by decide) (fun _ => ?_) (fun h => absurd h (by decide))
              refine lv_iload_n hx hb d_Md_line_43 rfl (lv_at hl 1 rfl) ?_
              exact kx_ret_i I rfl hw () (by simp only [f_Md_line, if_neg h1, if_pos h2, ← hp3, if_pos h4, ← hp5, if_neg h6, ← hp13, if_neg h14, ← hp17, if_neg h18]) [0, 1, 2, 3, 4, 5, 6, 7] (by decide) rfl d_Md_line_44
      · refine lv_iconst (v := 1) hx hb d_Md_line_30 (by decide) ?_
        refine lv_goto (tgt := 35) hx hb d_Md_line_31 (by decide) ?_
        refine lv_iadd hx hb d_Md_line_35 ?_
        refine kx_top (v := 1) (by decide) ?_
        refine lv_istore_n (lv' := [(2, .int 1), (3, .int 0), (0, .ref (bm 0)), (1, .int s)]) hx hb d_Md_line_36 rfl hl (by decide) rfl (fun ls hl => ?_)
        refine lv_iinc (v := 1) (k := 1) (lv' := [(3, .int 1), (2, .int 1), (0, .ref (bm 0)), (1, .int s)]) hx hb d_Md_line_37 hl rfl (by decide) (by decide) rfl (fun ls hl => ?_)
        refine lv_goto (tgt := 15) hx hb d_Md_line_40 (by decide) ?_
        refine lv_iload_n hx hb d_Md_line_15 rfl (lv_at hl 0 rfl) ?_
        refine lv_iconst (v := 4) hx hb d_Md_line_16 (by decide) ?_
        refine lv_icmp_ge (tgt := 43) hx hb d_Md_line_17 (by decide) (fun h => absurd h (by decide)) (fun _ => ?_)
        refine lv_iload_n hx hb d_Md_line_20 rfl (lv_at hl 1 rfl) ?_
        refine lv_aload_n hx hb d_Md_line_21 rfl (lv_at hl 2 rfl) ?_
        refine lv_iload_n hx hb d_Md_line_22 rfl (lv_at hl 0 rfl) ?_
        refine lv_iload_n hx hb d_Md_line_23 rfl (lv_at hl 3 rfl) ?_
        refine kx_call_i (wc := [((bm 0), .inr (6, [.int mi.1, .int mi.2.1, .int mi.2.2.1, .ref (bm 1), .ref (bm 2), .ref (bm 3), .ref (bm 4), .ref (bm 5), .ref (bm 6), .ref (bm 7), .ref (bm 8), .ref (bm 9), .int mi.2.2.2.1, .ref (bm 10), .ref (bm 11), .ref (bm 12), .ref (bm 13), .ref (bm 14), .ref (bm 15), .ref (bm 16), .ref (bm 17), .int mi.2.2.2.2.1, .int mi.2.2.2.2.2.1, .int mi.2.2.2.2.2.2.1, .int mi.2.2.2.2.2.2.2.1, .ref (bm 18), .ref (bm 19), .ref (bm 20), .ref (bm 21), .int mi.2.2.2.2.2.2.2.2])), ((bm 1), .inl (cI, 4, .inl w.1)), ((bm 2), .inl (cI, 4, .inl w.2.1)), ((bm 3), .inl (cI, 4, .inl w.2.2.1)), ((bm 4), .inl (cI, 4, .inl w.2.2.2.1)), ((bm 5), .inl (cI, 4, .inl w.2.2.2.2.1)), ((bm 6), .inl (cI, 4, .inl w.2.2.2.2.2.1)), ((bm 7), .inl (cI, 4, .inl w.2.2.2.2.2.2))]) (wr := []) (rest := [.int 1]) hw [0, 1, 2, 3, 4, 5, 6, 7] [] rfl rfl (by decide) (by decide) (kx_runV S hw fc_Md_85 rfl 0 rfl [0, 1, 2, 3, 4, 5, 6, 7] (by decide) rfl (c_Md_stands l D cI cZ cO bm mi w 1 s ((by unfold vp_in; decide)) H.size) rfl hl.1 rfl (Nat.le_of_ble_eq_true rfl) d_Md_line_24 (by decide) (by decide)) (fun r19 u19 H locs hp19 hw => ?_)
        obtain ⟨hp19, hb19⟩ := hp19
        have hw : kx_w D (kx_T cI cZ cO) A_ s_ [((bm 0), .inr (6, [.int mi.1, .int mi.2.1, .int mi.2.2.1, .ref (bm 1), .ref (bm 2), .ref (bm 3), .ref (bm 4), .ref (bm 5), .ref (bm 6), .ref (bm 7), .ref (bm 8), .ref (bm 9), .int mi.2.2.2.1, .ref (bm 10), .ref (bm 11), .ref (bm 12), .ref (bm 13), .ref (bm 14), .ref (bm 15), .ref (bm 16), .ref (bm 17), .int mi.2.2.2.2.1, .int mi.2.2.2.2.2.1, .int mi.2.2.2.2.2.2.1, .int mi.2.2.2.2.2.2.2.1, .ref (bm 18), .ref (bm 19), .ref (bm 20), .ref (bm 21), .int mi.2.2.2.2.2.2.2.2])), ((bm 1), .inl (cI, 4, .inl w.1)), ((bm 2), .inl (cI, 4, .inl w.2.1)), ((bm 3), .inl (cI, 4, .inl w.2.2.1)), ((bm 4), .inl (cI, 4, .inl w.2.2.2.1)), ((bm 5), .inl (cI, 4, .inl w.2.2.2.2.1)), ((bm 6), .inl (cI, 4, .inl w.2.2.2.2.2.1)), ((bm 7), .inl (cI, 4, .inl w.2.2.2.2.2.2))] H locs := hw
        refine lv_if_eq (tgt := 34) hx hb d_Md_line_27 (by decide) (fun h20 => ?_) (fun h20 => ?_)
        · refine lv_iconst (v := 0) hx hb d_Md_line_34 (by decide) ?_
          refine lv_iadd hx hb d_Md_line_35 ?_
          refine kx_top (v := 1) (by decide) ?_
          refine lv_istore_n (lv' := [(2, .int 1), (3, .int 1), (0, .ref (bm 0)), (1, .int s)]) hx hb d_Md_line_36 rfl hl (by decide) rfl (fun ls hl => ?_)
          refine lv_iinc (v := 2) (k := 1) (lv' := [(3, .int 2), (2, .int 1), (0, .ref (bm 0)), (1, .int s)]) hx hb d_Md_line_37 hl rfl (by decide) (by decide) rfl (fun ls hl => ?_)
          refine lv_goto (tgt := 15) hx hb d_Md_line_40 (by decide) ?_
          refine lv_iload_n hx hb d_Md_line_15 rfl (lv_at hl 0 rfl) ?_
          refine lv_iconst (v := 4) hx hb d_Md_line_16 (by decide) ?_
          refine lv_icmp_ge (tgt := 43) hx hb d_Md_line_17 (by decide) (fun h => absurd h (by decide)) (fun _ => ?_)
          refine lv_iload_n hx hb d_Md_line_20 rfl (lv_at hl 1 rfl) ?_
          refine lv_aload_n hx hb d_Md_line_21 rfl (lv_at hl 2 rfl) ?_
          refine lv_iload_n hx hb d_Md_line_22 rfl (lv_at hl 0 rfl) ?_
          refine lv_iload_n hx hb d_Md_line_23 rfl (lv_at hl 3 rfl) ?_
          refine kx_call_i (wc := [((bm 0), .inr (6, [.int mi.1, .int mi.2.1, .int mi.2.2.1, .ref (bm 1), .ref (bm 2), .ref (bm 3), .ref (bm 4), .ref (bm 5), .ref (bm 6), .ref (bm 7), .ref (bm 8), .ref (bm 9), .int mi.2.2.2.1, .ref (bm 10), .ref (bm 11), .ref (bm 12), .ref (bm 13), .ref (bm 14), .ref (bm 15), .ref (bm 16), .ref (bm 17), .int mi.2.2.2.2.1, .int mi.2.2.2.2.2.1, .int mi.2.2.2.2.2.2.1, .int mi.2.2.2.2.2.2.2.1, .ref (bm 18), .ref (bm 19), .ref (bm 20), .ref (bm 21), .int mi.2.2.2.2.2.2.2.2])), ((bm 1), .inl (cI, 4, .inl w.1)), ((bm 2), .inl (cI, 4, .inl w.2.1)), ((bm 3), .inl (cI, 4, .inl w.2.2.1)), ((bm 4), .inl (cI, 4, .inl w.2.2.2.1)), ((bm 5), .inl (cI, 4, .inl w.2.2.2.2.1)), ((bm 6), .inl (cI, 4, .inl w.2.2.2.2.2.1)), ((bm 7), .inl (cI, 4, .inl w.2.2.2.2.2.2))]) (wr := []) (rest := [.int 1]) hw [0, 1, 2, 3, 4, 5, 6, 7] [] rfl rfl (by decide) (by decide) (kx_runV S hw fc_Md_85 rfl 0 rfl [0, 1, 2, 3, 4, 5, 6, 7] (by decide) rfl (c_Md_stands l D cI cZ cO bm mi w 2 s ((by unfold vp_in; decide)) H.size) rfl hl.1 rfl (Nat.le_of_ble_eq_true rfl) d_Md_line_24 (by decide) (by decide)) (fun r21 u21 H locs hp21 hw => ?_)
          obtain ⟨hp21, hb21⟩ := hp21
          have hw : kx_w D (kx_T cI cZ cO) A_ s_ [((bm 0), .inr (6, [.int mi.1, .int mi.2.1, .int mi.2.2.1, .ref (bm 1), .ref (bm 2), .ref (bm 3), .ref (bm 4), .ref (bm 5), .ref (bm 6), .ref (bm 7), .ref (bm 8), .ref (bm 9), .int mi.2.2.2.1, .ref (bm 10), .ref (bm 11), .ref (bm 12), .ref (bm 13), .ref (bm 14), .ref (bm 15), .ref (bm 16), .ref (bm 17), .int mi.2.2.2.2.1, .int mi.2.2.2.2.2.1, .int mi.2.2.2.2.2.2.1, .int mi.2.2.2.2.2.2.2.1, .ref (bm 18), .ref (bm 19), .ref (bm 20), .ref (bm 21), .int mi.2.2.2.2.2.2.2.2])), ((bm 1), .inl (cI, 4, .inl w.1)), ((bm 2), .inl (cI, 4, .inl w.2.1)), ((bm 3), .inl (cI, 4, .inl w.2.2.1)), ((bm 4), .inl (cI, 4, .inl w.2.2.2.1)), ((bm 5), .inl (cI, 4, .inl w.2.2.2.2.1)), ((bm 6), .inl (cI, 4, .inl w.2.2.2.2.2.1)), ((bm 7), .inl (cI, 4, .inl w.2.2.2.2.2.2))] H locs := hw
          refine lv_if_eq (tgt := 34) hx hb d_Md_line_27 (by decide) (fun h22 => ?_) (fun h22 => ?_)
          · refine lv_iconst (v := 0) hx hb d_Md_line_34 (by decide) ?_
            refine lv_iadd hx hb d_Md_line_35 ?_
            refine kx_top (v := 1) (by decide) ?_
            refine lv_istore_n (lv' := [(2, .int 1), (3, .int 2), (0, .ref (bm 0)), (1, .int s)]) hx hb d_Md_line_36 rfl hl (by decide) rfl (fun ls hl => ?_)
            refine lv_iinc (v := 3) (k := 1) (lv' := [(3, .int 3), (2, .int 1), (0, .ref (bm 0)), (1, .int s)]) hx hb d_Md_line_37 hl rfl (by decide) (by decide) rfl (fun ls hl => ?_)
            refine lv_goto (tgt := 15) hx hb d_Md_line_40 (by decide) ?_
            refine lv_iload_n hx hb d_Md_line_15 rfl (lv_at hl 0 rfl) ?_
            refine lv_iconst (v := 4) hx hb d_Md_line_16 (by decide) ?_
            refine lv_icmp_ge (tgt := 43) hx hb d_Md_line_17 (by decide) (fun h => absurd h (by decide)) (fun _ => ?_)
            refine lv_iload_n hx hb d_Md_line_20 rfl (lv_at hl 1 rfl) ?_
            refine lv_aload_n hx hb d_Md_line_21 rfl (lv_at hl 2 rfl) ?_
            refine lv_iload_n hx hb d_Md_line_22 rfl (lv_at hl 0 rfl) ?_
            refine lv_iload_n hx hb d_Md_line_23 rfl (lv_at hl 3 rfl) ?_
            refine kx_call_i (wc := [((bm 0), .inr (6, [.int mi.1, .int mi.2.1, .int mi.2.2.1, .ref (bm 1), .ref (bm 2), .ref (bm 3), .ref (bm 4), .ref (bm 5), .ref (bm 6), .ref (bm 7), .ref (bm 8), .ref (bm 9), .int mi.2.2.2.1, .ref (bm 10), .ref (bm 11), .ref (bm 12), .ref (bm 13), .ref (bm 14), .ref (bm 15), .ref (bm 16), .ref (bm 17), .int mi.2.2.2.2.1, .int mi.2.2.2.2.2.1, .int mi.2.2.2.2.2.2.1, .int mi.2.2.2.2.2.2.2.1, .ref (bm 18), .ref (bm 19), .ref (bm 20), .ref (bm 21), .int mi.2.2.2.2.2.2.2.2])), ((bm 1), .inl (cI, 4, .inl w.1)), ((bm 2), .inl (cI, 4, .inl w.2.1)), ((bm 3), .inl (cI, 4, .inl w.2.2.1)), ((bm 4), .inl (cI, 4, .inl w.2.2.2.1)), ((bm 5), .inl (cI, 4, .inl w.2.2.2.2.1)), ((bm 6), .inl (cI, 4, .inl w.2.2.2.2.2.1)), ((bm 7), .inl (cI, 4, .inl w.2.2.2.2.2.2))]) (wr := []) (rest := [.int 1]) hw [0, 1, 2, 3, 4, 5, 6, 7] [] rfl rfl (by decide) (by decide) (kx_runV S hw fc_Md_85 rfl 0 rfl [0, 1, 2, 3, 4, 5, 6, 7] (by decide) rfl (c_Md_stands l D cI cZ cO bm mi w 3 s ((by unfold vp_in; decide)) H.size) rfl hl.1 rfl (Nat.le_of_ble_eq_true rfl) d_Md_line_24 (by decide) (by decide)) (fun r23 u23 H locs hp23 hw => ?_)
            obtain ⟨hp23, hb23⟩ := hp23
            have hw : kx_w D (kx_T cI cZ cO) A_ s_ [((bm 0), .inr (6, [.int mi.1, .int mi.2.1, .int mi.2.2.1, .ref (bm 1), .ref (bm 2), .ref (bm 3), .ref (bm 4), .ref (bm 5), .ref (bm 6), .ref (bm 7), .ref (bm 8), .ref (bm 9), .int mi.2.2.2.1, .ref (bm 10), .ref (bm 11), .ref (bm 12), .ref (bm 13), .ref (bm 14), .ref (bm 15), .ref (bm 16), .ref (bm 17), .int mi.2.2.2.2.1, .int mi.2.2.2.2.2.1, .int mi.2.2.2.2.2.2.1, .int mi.2.2.2.2.2.2.2.1, .ref (bm 18), .ref (bm 19), .ref (bm 20), .ref (bm 21), .int mi.2.2.2.2.2.2.2.2])), ((bm 1), .inl (cI, 4, .inl w.1)), ((bm 2), .inl (cI, 4, .inl w.2.1)), ((bm 3), .inl (cI, 4, .inl w.2.2.1)), ((bm 4), .inl (cI, 4, .inl w.2.2.2.1)), ((bm 5), .inl (cI, 4, .inl w.2.2.2.2.1)), ((bm 6), .inl (cI, 4, .inl w.2.2.2.2.2.1)), ((bm 7), .inl (cI, 4, .inl w.2.2.2.2.2.2))] H locs := hw
            refine lv_if_eq (tgt := 34) hx hb d_Md_line_27 (by decide) (fun h24 => ?_) (fun h24 => ?_)
            · refine lv_iconst (v := 0) hx hb d_Md_line_34 (by decide) ?_
              refine lv_iadd hx hb d_Md_line_35 ?_
              refine kx_top (v := 1) (by decide) ?_
              refine lv_istore_n (lv' := [(2, .int 1), (3, .int 3), (0, .ref (bm 0)), (1, .int s)]) hx hb d_Md_line_36 rfl hl (by decide) rfl (fun ls hl => ?_)
              refine lv_iinc (v := 4) (k := 1) (lv' := [(3, .int 4), (2, .int 1), (0, .ref (bm 0)), (1, .int s)]) hx hb d_Md_line_37 hl rfl (by decide) (by decide) rfl (fun ls hl => ?_)
              refine lv_goto (tgt := 15) hx hb d_Md_line_40 (by decide) ?_
              refine lv_iload_n hx hb d_Md_line_15 rfl (lv_at hl 0 rfl) ?_
              refine lv_iconst (v := 4) hx hb d_Md_line_16 (by decide) ?_
              refine lv_icmp_ge (tgt := 43) hx hb d_Md_line_17 (by decide) (fun _ => ?_) (fun h => absurd h (by decide))
              refine lv_iload_n hx hb d_Md_line_43 rfl (lv_at hl 1 rfl) ?_
              exact kx_ret_i I rfl hw () (by simp only [f_Md_line, if_neg h1, if_pos h2, ← hp3, if_neg h4, ← hp19, if_pos h20, ← hp21, if_pos h22, ← hp23, if_pos h24]) [0, 1, 2, 3, 4, 5, 6, 7] (by decide) rfl d_Md_line_44
            · refine lv_iconst (v := 1) hx hb d_Md_line_30 (by decide) ?_
              refine lv_goto (tgt := 35) hx hb d_Md_line_31 (by decide) ?_
              refine lv_iadd hx hb d_Md_line_35 ?_
              refine kx_top (v := 2) (by decide) ?_
              refine lv_istore_n (lv' := [(2, .int 2), (3, .int 3), (0, .ref (bm 0)), (1, .int s)]) hx hb d_Md_line_36 rfl hl (by decide) rfl (fun ls hl => ?_)
              refine lv_iinc (v := 4) (k := 1) (lv' := [(3, .int 4), (2, .int 2), (0, .ref (bm 0)), (1, .int s)]) hx hb d_Md_line_37 hl rfl (by decide) (by decide) rfl (fun ls hl => ?_)
              refine lv_goto (tgt := 15) hx hb d_Md_line_40 (by decide) ?_
              refine lv_iload_n hx hb d_Md_line_15 rfl (lv_at hl 0 rfl) ?_
              refine lv_iconst (v := 4) hx hb d_Md_line_16 (by decide) ?_
              refine lv_icmp_ge (tgt := 43) hx hb d_Md_line_17 (by decide) (fun _ => ?_) (fun h => absurd h (by decide))
              refine lv_iload_n hx hb d_Md_line_43 rfl (lv_at hl 1 rfl) ?_
              exact kx_ret_i I rfl hw () (by simp only [f_Md_line, if_neg h1, if_pos h2, ← hp3, if_neg h4, ← hp19, if_pos h20, ← hp21, if_pos h22, ← hp23, if_neg h24]) [0, 1, 2, 3, 4, 5, 6, 7] (by decide) rfl d_Md_line_44
          · refine lv_iconst (v := 1) hx hb d_Md_line_30 (by decide) ?_
            refine lv_goto (tgt := 35) hx hb d_Md_line_31 (by decide) ?_
            refine lv_iadd hx hb d_Md_line_35 ?_
            refine kx_top (v := 2) (by decide) ?_
            refine lv_istore_n (lv' := [(2, .int 2), (3, .int 2), (0, .ref (bm 0)), (1, .int s)]) hx hb d_Md_line_36 rfl hl (by decide) rfl (fun ls hl => ?_)
            refine lv_iinc (v := 3) (k := 1) (lv' := [(3, .int 3), (2, .int 2), (0, .ref (bm 0)), (1, .int s)]) hx hb d_Md_line_37 hl rfl (by decide) (by decide) rfl (fun ls hl => ?_)
            refine lv_goto (tgt := 15) hx hb d_Md_line_40 (by decide) ?_
            refine lv_iload_n hx hb d_Md_line_15 rfl (lv_at hl 0 rfl) ?_
            refine lv_iconst (v := 4) hx hb d_Md_line_16 (by decide) ?_
            refine lv_icmp_ge (tgt := 43) hx hb d_Md_line_17 (by decide) (fun h => absurd h (by decide)) (fun _ => ?_)
            refine lv_iload_n hx hb d_Md_line_20 rfl (lv_at hl 1 rfl) ?_
            refine lv_aload_n hx hb d_Md_line_21 rfl (lv_at hl 2 rfl) ?_
            refine lv_iload_n hx hb d_Md_line_22 rfl (lv_at hl 0 rfl) ?_
            refine lv_iload_n hx hb d_Md_line_23 rfl (lv_at hl 3 rfl) ?_
            refine kx_call_i (wc := [((bm 0), .inr (6, [.int mi.1, .int mi.2.1, .int mi.2.2.1, .ref (bm 1), .ref (bm 2), .ref (bm 3), .ref (bm 4), .ref (bm 5), .ref (bm 6), .ref (bm 7), .ref (bm 8), .ref (bm 9), .int mi.2.2.2.1, .ref (bm 10), .ref (bm 11), .ref (bm 12), .ref (bm 13), .ref (bm 14), .ref (bm 15), .ref (bm 16), .ref (bm 17), .int mi.2.2.2.2.1, .int mi.2.2.2.2.2.1, .int mi.2.2.2.2.2.2.1, .int mi.2.2.2.2.2.2.2.1, .ref (bm 18), .ref (bm 19), .ref (bm 20), .ref (bm 21), .int mi.2.2.2.2.2.2.2.2])), ((bm 1), .inl (cI, 4, .inl w.1)), ((bm 2), .inl (cI, 4, .inl w.2.1)), ((bm 3), .inl (cI, 4, .inl w.2.2.1)), ((bm 4), .inl (cI, 4, .inl w.2.2.2.1)), ((bm 5), .inl (cI, 4, .inl w.2.2.2.2.1)), ((bm 6), .inl (cI, 4, .inl w.2.2.2.2.2.1)), ((bm 7), .inl (cI, 4, .inl w.2.2.2.2.2.2))]) (wr := []) (rest := [.int 2]) hw [0, 1, 2, 3, 4, 5, 6, 7] [] rfl rfl (by decide) (by decide) (kx_runV S hw fc_Md_85 rfl 0 rfl [0, 1, 2, 3, 4, 5, 6, 7] (by decide) rfl (c_Md_stands l D cI cZ cO bm mi w 3 s ((by unfold vp_in; decide)) H.size) rfl hl.1 rfl (Nat.le_of_ble_eq_true rfl) d_Md_line_24 (by decide) (by decide)) (fun r25 u25 H locs hp25 hw => ?_)
            obtain ⟨hp25, hb25⟩ := hp25
            have hw : kx_w D (kx_T cI cZ cO) A_ s_ [((bm 0), .inr (6, [.int mi.1, .int mi.2.1, .int mi.2.2.1, .ref (bm 1), .ref (bm 2), .ref (bm 3), .ref (bm 4), .ref (bm 5), .ref (bm 6), .ref (bm 7), .ref (bm 8), .ref (bm 9), .int mi.2.2.2.1, .ref (bm 10), .ref (bm 11), .ref (bm 12), .ref (bm 13), .ref (bm 14), .ref (bm 15), .ref (bm 16), .ref (bm 17), .int mi.2.2.2.2.1, .int mi.2.2.2.2.2.1, .int mi.2.2.2.2.2.2.1, .int mi.2.2.2.2.2.2.2.1, .ref (bm 18), .ref (bm 19), .ref (bm 20), .ref (bm 21), .int mi.2.2.2.2.2.2.2.2])), ((bm 1), .inl (cI, 4, .inl w.1)), ((bm 2), .inl (cI, 4, .inl w.2.1)), ((bm 3), .inl (cI, 4, .inl w.2.2.1)), ((bm 4), .inl (cI, 4, .inl w.2.2.2.1)), ((bm 5), .inl (cI, 4, .inl w.2.2.2.2.1)), ((bm 6), .inl (cI, 4, .inl w.2.2.2.2.2.1)), ((bm 7), .inl (cI, 4, .inl w.2.2.2.2.2.2))] H locs := hw
            refine lv_if_eq (tgt := 34) hx hb d_Md_line_27 (by decide) (fun h26 => ?_) (fun h26 => ?_)
            · refine lv_iconst (v := 0) hx hb d_Md_line_34 (by decide) ?_
              refine lv_iadd hx hb d_Md_line_35 ?_
              refine kx_top (v := 2) (by decide) ?_
              refine lv_istore_n (lv' := [(2, .int 2), (3, .int 3), (0, .ref (bm 0)), (1, .int s)]) hx hb d_Md_line_36 rfl hl (by decide) rfl (fun ls hl => ?_)
              refine lv_iinc (v := 4) (k := 1) (lv' := [(3, .int 4), (2, .int 2), (0, .ref (bm 0)), (1, .int s)]) hx hb d_Md_line_37 hl rfl (by decide) (by decide) rfl (fun ls hl => ?_)
              refine lv_goto (tgt := 15) hx hb d_Md_line_40 (by decide) ?_
              refine lv_iload_n hx hb d_Md_line_15 rfl (lv_at hl 0 rfl) ?_
              refine lv_iconst (v := 4) hx hb d_Md_line_16 (by decide) ?_
              refine lv_icmp_ge (tgt := 43) hx hb d_Md_line_17 (by decide) (fun _ => ?_) (fun h => absurd h (by decide))
              refine lv_iload_n hx hb d_Md_line_43 rfl (lv_at hl 1 rfl) ?_
              exact kx_ret_i I rfl hw () (by simp only [f_Md_line, if_neg h1, if_pos h2, ← hp3, if_neg h4, ← hp19, if_pos h20, ← hp21, if_neg h22, ← hp25, if_pos h26]) [0, 1, 2, 3, 4, 5, 6, 7] (by decide) rfl d_Md_line_44
            · refine lv_iconst (v := 1) hx hb d_Md_line_30 (by decide) ?_
              refine lv_goto (tgt := 35) hx hb d_Md_line_31 (by decide) ?_
              refine lv_iadd hx hb d_Md_line_35 ?_
              refine kx_top (v := 3) (by decide) ?_
              refine lv_istore_n (lv' := [(2, .int 3), (3, .int 3), (0, .ref (bm 0)), (1, .int s)]) hx hb d_Md_line_36 rfl hl (by decide) rfl (fun ls hl => ?_)
              refine lv_iinc (v := 4) (k := 1) (lv' := [(3, .int 4), (2, .int 3), (0, .ref (bm 0)), (1, .int s)]) hx hb d_Md_line_37 hl rfl (by decide) (by decide) rfl (fun ls hl => ?_)
              refine lv_goto (tgt := 15) hx hb d_Md_line_40 (by decide) ?_
              refine lv_iload_n hx hb d_Md_line_15 rfl (lv_at hl 0 rfl) ?_
              refine lv_iconst (v := 4) hx hb d_Md_line_16 (by decide) ?_
              refine lv_icmp_ge (tgt := 43) hx hb d_Md_line_17 (by decide) (fun _ => ?_) (fun h => absurd h (by decide))
              refine lv_iload_n hx hb d_Md_line_43 rfl (lv_at hl 1 rfl) ?_
              exact kx_ret_i I rfl hw () (by simp only [f_Md_line, if_neg h1, if_pos h2, ← hp3, if_neg h4, ← hp19, if_pos h20, ← hp21, if_neg h22, ← hp25, if_neg h26]) [0, 1, 2, 3, 4, 5, 6, 7] (by decide) rfl d_Md_line_44
        · refine lv_iconst (v := 1) hx hb d_Md_line_30 (by decide) ?_
          refine lv_goto (tgt := 35) hx hb d_Md_line_31 (by decide) ?_
          refine lv_iadd hx hb d_Md_line_35 ?_
          refine kx_top (v := 2) (by decide) ?_
          refine lv_istore_n (lv' := [(2, .int 2), (3, .int 1), (0, .ref (bm 0)), (1, .int s)]) hx hb d_Md_line_36 rfl hl (by decide) rfl (fun ls hl => ?_)
          refine lv_iinc (v := 2) (k := 1) (lv' := [(3, .int 2), (2, .int 2), (0, .ref (bm 0)), (1, .int s)]) hx hb d_Md_line_37 hl rfl (by decide) (by decide) rfl (fun ls hl => ?_)
          refine lv_goto (tgt := 15) hx hb d_Md_line_40 (by decide) ?_
          refine lv_iload_n hx hb d_Md_line_15 rfl (lv_at hl 0 rfl) ?_
          refine lv_iconst (v := 4) hx hb d_Md_line_16 (by decide) ?_
          refine lv_icmp_ge (tgt := 43) hx hb d_Md_line_17 (by decide) (fun h => absurd h (by decide)) (fun _ => ?_)
          refine lv_iload_n hx hb d_Md_line_20 rfl (lv_at hl 1 rfl) ?_
          refine lv_aload_n hx hb d_Md_line_21 rfl (lv_at hl 2 rfl) ?_
          refine lv_iload_n hx hb d_Md_line_22 rfl (lv_at hl 0 rfl) ?_
          refine lv_iload_n hx hb d_Md_line_23 rfl (lv_at hl 3 rfl) ?_
          refine kx_call_i (wc := [((bm 0), .inr (6, [.int mi.1, .int mi.2.1, .int mi.2.2.1, .ref (bm 1), .ref (bm 2), .ref (bm 3), .ref (bm 4), .ref (bm 5), .ref (bm 6), .ref (bm 7), .ref (bm 8), .ref (bm 9), .int mi.2.2.2.1, .ref (bm 10), .ref (bm 11), .ref (bm 12), .ref (bm 13), .ref (bm 14), .ref (bm 15), .ref (bm 16), .ref (bm 17), .int mi.2.2.2.2.1, .int mi.2.2.2.2.2.1, .int mi.2.2.2.2.2.2.1, .int mi.2.2.2.2.2.2.2.1, .ref (bm 18), .ref (bm 19), .ref (bm 20), .ref (bm 21), .int mi.2.2.2.2.2.2.2.2])), ((bm 1), .inl (cI, 4, .inl w.1)), ((bm 2), .inl (cI, 4, .inl w.2.1)), ((bm 3), .inl (cI, 4, .inl w.2.2.1)), ((bm 4), .inl (cI, 4, .inl w.2.2.2.1)), ((bm 5), .inl (cI, 4, .inl w.2.2.2.2.1)), ((bm 6), .inl (cI, 4, .inl w.2.2.2.2.2.1)), ((bm 7), .inl (cI, 4, .inl w.2.2.2.2.2.2))]) (wr := []) (rest := [.int 2]) hw [0, 1, 2, 3, 4, 5, 6, 7] [] rfl rfl (by decide) (by decide) (kx_runV S hw fc_Md_85 rfl 0 rfl [0, 1, 2, 3, 4, 5, 6, 7] (by decide) rfl (c_Md_stands l D cI cZ cO bm mi w 2 s ((by unfold vp_in; decide)) H.size) rfl hl.1 rfl (Nat.le_of_ble_eq_true rfl) d_Md_line_24 (by decide) (by decide)) (fun r27 u27 H locs hp27 hw => ?_)
          obtain ⟨hp27, hb27⟩ := hp27
          have hw : kx_w D (kx_T cI cZ cO) A_ s_ [((bm 0), .inr (6, [.int mi.1, .int mi.2.1, .int mi.2.2.1, .ref (bm 1), .ref (bm 2), .ref (bm 3), .ref (bm 4), .ref (bm 5), .ref (bm 6), .ref (bm 7), .ref (bm 8), .ref (bm 9), .int mi.2.2.2.1, .ref (bm 10), .ref (bm 11), .ref (bm 12), .ref (bm 13), .ref (bm 14), .ref (bm 15), .ref (bm 16), .ref (bm 17), .int mi.2.2.2.2.1, .int mi.2.2.2.2.2.1, .int mi.2.2.2.2.2.2.1, .int mi.2.2.2.2.2.2.2.1, .ref (bm 18), .ref (bm 19), .ref (bm 20), .ref (bm 21), .int mi.2.2.2.2.2.2.2.2])), ((bm 1), .inl (cI, 4, .inl w.1)), ((bm 2), .inl (cI, 4, .inl w.2.1)), ((bm 3), .inl (cI, 4, .inl w.2.2.1)), ((bm 4), .inl (cI, 4, .inl w.2.2.2.1)), ((bm 5), .inl (cI, 4, .inl w.2.2.2.2.1)), ((bm 6), .inl (cI, 4, .inl w.2.2.2.2.2.1)), ((bm 7), .inl (cI, 4, .inl w.2.2.2.2.2.2))] H locs := hw
          refine lv_if_eq (tgt := 34) hx hb d_Md_line_27 (by decide) (fun h28 => ?_) (fun h28 => ?_)
          · refine lv_iconst (v := 0) hx hb d_Md_line_34 (by decide) ?_
            refine lv_iadd hx hb d_Md_line_35 ?_
            refine kx_top (v := 2) (by decide) ?_
            refine lv_istore_n (lv' := [(2, .int 2), (3, .int 2), (0, .ref (bm 0)), (1, .int s)]) hx hb d_Md_line_36 rfl hl (by decide) rfl (fun ls hl => ?_)
            refine lv_iinc (v := 3) (k := 1) (lv' := [(3, .int 3), (2, .int 2), (0, .ref (bm 0)), (1, .int s)]) hx hb d_Md_line_37 hl rfl (by decide) (by decide) rfl (fun ls hl => ?_)
            refine lv_goto (tgt := 15) hx hb d_Md_line_40 (by decide) ?_
            refine lv_iload_n hx hb d_Md_line_15 rfl (lv_at hl 0 rfl) ?_
            refine lv_iconst (v := 4) hx hb d_Md_line_16 (by decide) ?_
            refine lv_icmp_ge (tgt := 43) hx hb d_Md_line_17 (by decide) (fun h => absurd h (by decide)) (fun _ => ?_)
            refine lv_iload_n hx hb d_Md_line_20 rfl (lv_at hl 1 rfl) ?_
            refine lv_aload_n hx hb d_Md_line_21 rfl (lv_at hl 2 rfl) ?_
            refine lv_iload_n hx hb d_Md_line_22 rfl (lv_at hl 0 rfl) ?_
            refine lv_iload_n hx hb d_Md_line_23 rfl (lv_at hl 3 rfl) ?_
            refine kx_call_i (wc := [((bm 0), .inr (6, [.int mi.1, .int mi.2.1, .int mi.2.2.1, .ref (bm 1), .ref (bm 2), .ref (bm 3), .ref (bm 4), .ref (bm 5), .ref (bm 6), .ref (bm 7), .ref (bm 8), .ref (bm 9), .int mi.2.2.2.1, .ref (bm 10), .ref (bm 11), .ref (bm 12), .ref (bm 13), .ref (bm 14), .ref (bm 15), .ref (bm 16), .ref (bm 17), .int mi.2.2.2.2.1, .int mi.2.2.2.2.2.1, .int mi.2.2.2.2.2.2.1, .int mi.2.2.2.2.2.2.2.1, .ref (bm 18), .ref (bm 19), .ref (bm 20), .ref (bm 21), .int mi.2.2.2.2.2.2.2.2])), ((bm 1), .inl (cI, 4, .inl w.1)), ((bm 2), .inl (cI, 4, .inl w.2.1)), ((bm 3), .inl (cI, 4, .inl w.2.2.1)), ((bm 4), .inl (cI, 4, .inl w.2.2.2.1)), ((bm 5), .inl (cI, 4, .inl w.2.2.2.2.1)), ((bm 6), .inl (cI, 4, .inl w.2.2.2.2.2.1)), ((bm 7), .inl (cI, 4, .inl w.2.2.2.2.2.2))]) (wr := []) (rest := [.int 2]) hw [0, 1, 2, 3, 4, 5, 6, 7] [] rfl rfl (by decide) (by decide) (kx_runV S hw fc_Md_85 rfl 0 rfl [0, 1, 2, 3, 4, 5, 6, 7] (by decide) rfl (c_Md_stands l D cI cZ cO bm mi w 3 s ((by unfold vp_in; decide)) H.size) rfl hl.1 rfl (Nat.le_of_ble_eq_true rfl) d_Md_line_24 (by decide) (by decide)) (fun r29 u29 H locs hp29 hw => ?_)
            obtain ⟨hp29, hb29⟩ := hp29
            have hw : kx_w D (kx_T cI cZ cO) A_ s_ [((bm 0), .inr (6, [.int mi.1, .int mi.2.1, .int mi.2.2.1, .ref (bm 1), .ref (bm 2), .ref (bm 3), .ref (bm 4), .ref (bm 5), .ref (bm 6), .ref (bm 7), .ref (bm 8), .ref (bm 9), .int mi.2.2.2.1, .ref (bm 10), .ref (bm 11), .ref (bm 12), .ref (bm 13), .ref (bm 14), .ref (bm 15), .ref (bm 16), .ref (bm 17), .int mi.2.2.2.2.1, .int mi.2.2.2.2.2.1, .int mi.2.2.2.2.2.2.1, .int mi.2.2.2.2.2.2.2.1, .ref (bm 18), .ref (bm 19), .ref (bm 20), .ref (bm 21), .int mi.2.2.2.2.2.2.2.2])), ((bm 1), .inl (cI, 4, .inl w.1)), ((bm 2), .inl (cI, 4, .inl w.2.1)), ((bm 3), .inl (cI, 4, .inl w.2.2.1)), ((bm 4), .inl (cI, 4, .inl w.2.2.2.1)), ((bm 5), .inl (cI, 4, .inl w.2.2.2.2.1)), ((bm 6), .inl (cI, 4, .inl w.2.2.2.2.2.1)), ((bm 7), .inl (cI, 4, .inl w.2.2.2.2.2.2))] H locs := hw
            refine lv_if_eq (tgt := 34) hx hb d_Md_line_27 (by decide) (fun h30 => ?_) (fun h30 => ?_)
            · refine lv_iconst (v := 0) hx hb d_Md_line_34 (by decide) ?_
              refine lv_iadd hx hb d_Md_line_35 ?_
              refine kx_top (v := 2) (by decide) ?_
              refine lv_istore_n (lv' := [(2, .int 2), (3, .int 3), (0, .ref (bm 0)), (1, .int s)]) hx hb d_Md_line_36 rfl hl (by decide) rfl (fun ls hl => ?_)
              refine lv_iinc (v := 4) (k := 1) (lv' := [(3, .int 4), (2, .int 2), (0, .ref (bm 0)), (1, .int s)]) hx hb d_Md_line_37 hl rfl (by decide) (by decide) rfl (fun ls hl => ?_)
              refine lv_goto (tgt := 15) hx hb d_Md_line_40 (by decide) ?_
              refine lv_iload_n hx hb d_Md_line_15 rfl (lv_at hl 0 rfl) ?_
              refine lv_iconst (v := 4) hx hb d_Md_line_16 (by decide) ?_
              refine lv_icmp_ge (tgt := 43) hx hb d_Md_line_17 (by decide) (fun _ => ?_) (fun h => absurd h (by decide))
              refine lv_iload_n hx hb d_Md_line_43 rfl (lv_at hl 1 rfl) ?_
              exact kx_ret_i I rfl hw () (by simp only [f_Md_line, if_neg h1, if_pos h2, ← hp3, if_neg h4, ← hp19, if_neg h20, ← hp27, if_pos h28, ← hp29, if_pos h30]) [0, 1, 2, 3, 4, 5, 6, 7] (by decide) rfl d_Md_line_44
            · refine lv_iconst (v := 1) hx hb d_Md_line_30 (by decide) ?_
              refine lv_goto (tgt := 35) hx hb d_Md_line_31 (by decide) ?_
              refine lv_iadd hx hb d_Md_line_35 ?_
              refine kx_top (v := 3) (by decide) ?_
              refine lv_istore_n (lv' := [(2, .int 3), (3, .int 3), (0, .ref (bm 0)), (1, .int s)]) hx hb d_Md_line_36 rfl hl (by decide) rfl (fun ls hl => ?_)
              refine lv_iinc (v := 4) (k := 1) (lv' := [(3, .int 4), (2, .int 3), (0, .ref (bm 0)), (1, .int s)]) hx hb d_Md_line_37 hl rfl (by decide) (by decide) rfl (fun ls hl => ?_)
              refine lv_goto (tgt := 15) hx hb d_Md_line_40 (by decide) ?_
              refine lv_iload_n hx hb d_Md_line_15 rfl (lv_at hl 0 rfl) ?_
              refine lv_iconst (v := 4) hx hb d_Md_line_16 (by decide) ?_
              refine lv_icmp_ge (tgt := 43) hx hb d_Md_line_17 (by decide) (fun _ => ?_) (fun h => absurd h (by decide))
              refine lv_iload_n hx hb d_Md_line_43 rfl (lv_at hl 1 rfl) ?_
              exact kx_ret_i I rfl hw () (by simp only [f_Md_line, if_neg h1, if_pos h2, ← hp3, if_neg h4, ← hp19, if_neg h20, ← hp27, if_pos h28, ← hp29, if_neg h30]) [0, 1, 2, 3, 4, 5, 6, 7] (by decide) rfl d_Md_line_44
          · refine lv_iconst (v := 1) hx hb d_Md_line_30 (by decide) ?_
            refine lv_goto (tgt := 35) hx hb d_Md_line_31 (by decide) ?_
            refine lv_iadd hx hb d_Md_line_35 ?_
            refine kx_top (v := 3) (by decide) ?_
            refine lv_istore_n (lv' := [(2, .int 3), (3, .int 2), (0, .ref (bm 0)), (1, .int s)]) hx hb d_Md_line_36 rfl hl (by decide) rfl (fun ls hl => ?_)
            refine lv_iinc (v := 3) (k := 1) (lv' := [(3, .int 3), (2, .int 3), (0, .ref (bm 0)), (1, .int s)]) hx hb d_Md_line_37 hl rfl (by decide) (by decide) rfl (fun ls hl => ?_)
            refine lv_goto (tgt := 15) hx hb d_Md_line_40 (by decide) ?_
            refine lv_iload_n hx hb d_Md_line_15 rfl (lv_at hl 0 rfl) ?_
            refine lv_iconst (v := 4) hx hb d_Md_line_16 (by decide) ?_
            refine lv_icmp_ge (tgt := 43) hx hb d_Md_line_17 (by decide) (fun h => absurd h (by decide)) (fun _ => ?_)
            refine lv_iload_n hx hb d_Md_line_20 rfl (lv_at hl 1 rfl) ?_
            refine lv_aload_n hx hb d_Md_line_21 rfl (lv_at hl 2 rfl) ?_
            refine lv_iload_n hx hb d_Md_line_22 rfl (lv_at hl 0 rfl) ?_
            refine lv_iload_n hx hb d_Md_line_23 rfl (lv_at hl 3 rfl) ?_
            refine kx_call_i (wc := [((bm 0), .inr (6, [.int mi.1, .int mi.2.1, .int mi.2.2.1, .ref (bm 1), .ref (bm 2), .ref (bm 3), .ref (bm 4), .ref (bm 5), .ref (bm 6), .ref (bm 7), .ref (bm 8), .ref (bm 9), .int mi.2.2.2.1, .ref (bm 10), .ref (bm 11), .ref (bm 12), .ref (bm 13), .ref (bm 14), .ref (bm 15), .ref (bm 16), .ref (bm 17), .int mi.2.2.2.2.1, .int mi.2.2.2.2.2.1, .int mi.2.2.2.2.2.2.1, .int mi.2.2.2.2.2.2.2.1, .ref (bm 18), .ref (bm 19), .ref (bm 20), .ref (bm 21), .int mi.2.2.2.2.2.2.2.2])), ((bm 1), .inl (cI, 4, .inl w.1)), ((bm 2), .inl (cI, 4, .inl w.2.1)), ((bm 3), .inl (cI, 4, .inl w.2.2.1)), ((bm 4), .inl (cI, 4, .inl w.2.2.2.1)), ((bm 5), .inl (cI, 4, .inl w.2.2.2.2.1)), ((bm 6), .inl (cI, 4, .inl w.2.2.2.2.2.1)), ((bm 7), .inl (cI, 4, .inl w.2.2.2.2.2.2))]) (wr := []) (rest := [.int 3]) hw [0, 1, 2, 3, 4, 5, 6, 7] [] rfl rfl (by decide) (by decide) (kx_runV S hw fc_Md_85 rfl 0 rfl [0, 1, 2, 3, 4, 5, 6, 7] (by decide) rfl (c_Md_stands l D cI cZ cO bm mi w 3 s ((by unfold vp_in; decide)) H.size) rfl hl.1 rfl (Nat.le_of_ble_eq_true rfl) d_Md_line_24 (by decide) (by decide)) (fun r31 u31 H locs hp31 hw => ?_)
            obtain ⟨hp31, hb31⟩ := hp31
            have hw : kx_w D (kx_T cI cZ cO) A_ s_ [((bm 0), .inr (6, [.int mi.1, .int mi.2.1, .int mi.2.2.1, .ref (bm 1), .ref (bm 2), .ref (bm 3), .ref (bm 4), .ref (bm 5), .ref (bm 6), .ref (bm 7), .ref (bm 8), .ref (bm 9), .int mi.2.2.2.1, .ref (bm 10), .ref (bm 11), .ref (bm 12), .ref (bm 13), .ref (bm 14), .ref (bm 15), .ref (bm 16), .ref (bm 17), .int mi.2.2.2.2.1, .int mi.2.2.2.2.2.1, .int mi.2.2.2.2.2.2.1, .int mi.2.2.2.2.2.2.2.1, .ref (bm 18), .ref (bm 19), .ref (bm 20), .ref (bm 21), .int mi.2.2.2.2.2.2.2.2])), ((bm 1), .inl (cI, 4, .inl w.1)), ((bm 2), .inl (cI, 4, .inl w.2.1)), ((bm 3), .inl (cI, 4, .inl w.2.2.1)), ((bm 4), .inl (cI, 4, .inl w.2.2.2.1)), ((bm 5), .inl (cI, 4, .inl w.2.2.2.2.1)), ((bm 6), .inl (cI, 4, .inl w.2.2.2.2.2.1)), ((bm 7), .inl (cI, 4, .inl w.2.2.2.2.2.2))] H locs := hw
            refine lv_if_eq (tgt := 34) hx hb d_Md_line_27 (by decide) (fun h32 => ?_) (fun h32 => ?_)
            · refine lv_iconst (v := 0) hx hb d_Md_line_34 (by decide) ?_
              refine lv_iadd hx hb d_Md_line_35 ?_
              refine kx_top (v := 3) (by decide) ?_
              refine lv_istore_n (lv' := [(2, .int 3), (3, .int 3), (0, .ref (bm 0)), (1, .int s)]) hx hb d_Md_line_36 rfl hl (by decide) rfl (fun ls hl => ?_)
              refine lv_iinc (v := 4) (k := 1) (lv' := [(3, .int 4), (2, .int 3), (0, .ref (bm 0)), (1, .int s)]) hx hb d_Md_line_37 hl rfl (by decide) (by decide) rfl (fun ls hl => ?_)
              refine lv_goto (tgt := 15) hx hb d_Md_line_40 (by decide) ?_
              refine lv_iload_n hx hb d_Md_line_15 rfl (lv_at hl 0 rfl) ?_
              refine lv_iconst (v := 4) hx hb d_Md_line_16 (by decide) ?_
              refine lv_icmp_ge (tgt := 43) hx hb d_Md_line_17 (by decide) (fun _ => ?_) (fun h => absurd h (by decide))
              refine lv_iload_n hx hb d_Md_line_43 rfl (lv_at hl 1 rfl) ?_
              exact kx_ret_i I rfl hw () (by simp only [f_Md_line, if_neg h1, if_pos h2, ← hp3, if_neg h4, ← hp19, if_neg h20, ← hp27, if_neg h28, ← hp31, if_pos h32]) [0, 1, 2, 3, 4, 5, 6, 7] (by decide) rfl d_Md_line_44
            · refine lv_iconst (v := 1) hx hb d_Md_line_30 (by decide) ?_
              refine lv_goto (tgt := 35) hx hb d_Md_line_31 (by decide) ?_
              refine lv_iadd hx hb d_Md_line_35 ?_
              refine kx_top (v := 4) (by decide) ?_
              refine lv_istore_n (lv' := [(2, .int 4), (3, .int 3), (0, .ref (bm 0)), (1, .int s)]) hx hb d_Md_line_36 rfl hl (by decide) rfl (fun ls hl => ?_)
              refine lv_iinc (v := 4) (k := 1) (lv' := [(3, .int 4), (2, .int 4), (0, .ref (bm 0)), (1, .int s)]) hx hb d_Md_line_37 hl rfl (by decide) (by decide) rfl (fun ls hl => ?_)
              refine lv_goto (tgt := 15) hx hb d_Md_line_40 (by decide) ?_
              refine lv_iload_n hx hb d_Md_line_15 rfl (lv_at hl 0 rfl) ?_
              refine lv_iconst (v := 4) hx hb d_Md_line_16 (by decide) ?_
              refine lv_icmp_ge (tgt := 43) hx hb d_Md_line_17 (by decide) (fun _ => ?_) (fun h => absurd h (by decide))
              refine lv_iload_n hx hb d_Md_line_43 rfl (lv_at hl 1 rfl) ?_
              exact kx_ret_i I rfl hw () (by simp only [f_Md_line, if_neg h1, if_pos h2, ← hp3, if_neg h4, ← hp19, if_neg h20, ← hp27, if_neg h28, ← hp31, if_neg h32]) [0, 1, 2, 3, 4, 5, 6, 7] (by decide) rfl d_Md_line_44
    · refine lv_iconst (v := (-1)) hx hb d_Md_line_9 (by decide) ?_
      exact kx_ret_i I rfl hw () (by simp only [f_Md_line, if_neg h1, if_neg h2]) [0, 1, 2, 3, 4, 5, 6, 7] (by decide) rfl d_Md_line_10
def f_Md_device (mi : kt_I) (dv : (Nat → Int32)) (b : Int32) : Int32 :=
  if b < 0 then 0
  else if b ≤ 15 then dv b.toNatClampNeg
  else 0
set_option maxHeartbeats 4000000 in
set_option maxRecDepth 100000 in
theorem c_Md_device (l : Launch) (D : va_G) (cI cZ cO : ClassId) (bm : Nat → Nat) (mi : kt_I) (dv : (Nat → Int32)) (b : Int32) : kx_Ci (S := Unit) l y_Md_device b_Md_device 2 (some .int) 0 0 0 D (kx_T cI cZ cO) [.ref (bm 0), .int b] [((bm 0), .inr (6, [.int mi.1, .int mi.2.1, .int mi.2.2.1, .ref (bm 1), .ref (bm 2), .ref (bm 3), .ref (bm 4), .ref (bm 5), .ref (bm 6), .ref (bm 7), .ref (bm 8), .ref (bm 9), .int mi.2.2.2.1, .ref (bm 10), .ref (bm 11), .ref (bm 12), .ref (bm 13), .ref (bm 14), .ref (bm 15), .ref (bm 16), .ref (bm 17), .int mi.2.2.2.2.1, .int mi.2.2.2.2.2.1, .int mi.2.2.2.2.2.2.1, .int mi.2.2.2.2.2.2.2.1, .ref (bm 18), .ref (bm 19), .ref (bm 20), .ref (bm 21), .int mi.2.2.2.2.2.2.2.2])), ((bm 8), .inl (cI, 16, .inl dv))] (fun rr _ => rr = f_Md_device mi dv b) (fun _ => [((bm 0), .inr (6, [.int mi.1, .int mi.2.1, .int mi.2.2.1, .ref (bm 1), .ref (bm 2), .ref (bm 3), .ref (bm 4), .ref (bm 5), .ref (bm 6), .ref (bm 7), .ref (bm 8), .ref (bm 9), .int mi.2.2.2.1, .ref (bm 10), .ref (bm 11), .ref (bm 12), .ref (bm 13), .ref (bm 14), .ref (bm 15), .ref (bm 16), .ref (bm 17), .int mi.2.2.2.2.1, .int mi.2.2.2.2.2.1, .int mi.2.2.2.2.2.2.1, .int mi.2.2.2.2.2.2.2.1, .ref (bm 18), .ref (bm 19), .ref (bm 20), .ref (bm 21), .int mi.2.2.2.2.2.2.2.2])), ((bm 8), .inl (cI, 16, .inl dv))]) := by
  refine kx_enter_i (by decide) (Nat.le_of_ble_eq_true rfl) ?_
  intro p_ e_ s_ m_ below_ meth_ c_ ls A_ H I hl hw
  have S := I.1
  have hx := S.1
  have hb := S.2.1
  have hl : lv_has ls 2 [(0, .ref (bm 0)), (1, .int b)] := hl
  refine lv_iload_n hx hb d_Md_device_0 rfl (lv_at hl 1 rfl) ?_
  refine lv_if_lt (tgt := 10) hx hb d_Md_device_1 (by decide) (fun h1 => ?_) (fun h1 => ?_)
  · refine lv_iconst (v := 0) hx hb d_Md_device_10 (by decide) ?_
    refine lv_goto (tgt := 20) hx hb d_Md_device_11 (by decide) ?_
    exact kx_ret_i I rfl hw () (by simp only [f_Md_device, if_pos h1]) [0, 1] (by decide) rfl d_Md_device_20
  · refine lv_iload_n hx hb d_Md_device_4 rfl (lv_at hl 1 rfl) ?_
    refine lv_bipush (v := 15) hx hb d_Md_device_5 (by decide) ?_
    refine lv_icmp_le (tgt := 14) hx hb d_Md_device_7 (by decide) (fun h2 => ?_) (fun h2 => ?_)
    · refine lv_aload_n hx hb d_Md_device_14 rfl (lv_at hl 0 rfl) ?_
      refine kx_get S hw fg_Md_31 0 rfl rfl d_Md_device_15 ?_
      refine lv_iload_n hx hb d_Md_device_18 rfl (lv_at hl 1 rfl) ?_
      refine kx_iald S hw 1 0 rfl rfl (j := b.toNatClampNeg) rfl (by first | exact kx_i6 (N := 15) rfl h1 h2 | exact kx_i6 (N := 15) rfl h1 (Int32.not_lt.mpr h2)) d_Md_device_19 ?_
      exact kx_ret_i I rfl hw () (by simp only [f_Md_device, if_neg h1, if_pos h2]) [0, 1] (by decide) rfl d_Md_device_20
    · refine lv_iconst (v := 0) hx hb d_Md_device_10 (by decide) ?_
      refine lv_goto (tgt := 20) hx hb d_Md_device_11 (by decide) ?_
      exact kx_ret_i I rfl hw () (by simp only [f_Md_device, if_neg h1, if_neg h2]) [0, 1] (by decide) rfl d_Md_device_20
def f_Md_slot (mi : kt_I) (y : kt_Ca) (i : Int32) (k : Int32) : Int32 :=
  if i < 0 then (-1)
  else if i ≤ 2 then (if (y.1 i.toNatClampNeg) < 0 then (if k = 0 then y.1 i.toNatClampNeg
      else if k = 1 then 0
      else if k = 2 then 0
      else (-1))
    else if k = 0 then y.1 i.toNatClampNeg
    else if k = 1 then y.2.1 i.toNatClampNeg
    else if k = 2 then (if (y.2.2.1 i.toNatClampNeg) = 0 then 0
      else 1)
    else (-1))
  else (-1)
set_option maxHeartbeats 4000000 in
set_option maxRecDepth 100000 in
theorem c_Md_slot (l : Launch) (D : va_G) (cI cZ cO : ClassId) (bm : Nat → Nat) (mi : kt_I) (y : kt_Ca) (i : Int32) (k : Int32) : kx_Ci (S := Unit) l y_Md_slot b_Md_slot 4 (some .int) 0 0 0 D (kx_T cI cZ cO) [.ref (bm 0), .int i, .int k] [((bm 0), .inr (6, [.int mi.1, .int mi.2.1, .int mi.2.2.1, .ref (bm 1), .ref (bm 2), .ref (bm 3), .ref (bm 4), .ref (bm 5), .ref (bm 6), .ref (bm 7), .ref (bm 8), .ref (bm 9), .int mi.2.2.2.1, .ref (bm 10), .ref (bm 11), .ref (bm 12), .ref (bm 13), .ref (bm 14), .ref (bm 15), .ref (bm 16), .ref (bm 17), .int mi.2.2.2.2.1, .int mi.2.2.2.2.2.1, .int mi.2.2.2.2.2.2.1, .int mi.2.2.2.2.2.2.2.1, .ref (bm 18), .ref (bm 19), .ref (bm 20), .ref (bm 21), .int mi.2.2.2.2.2.2.2.2])), ((bm 18), .inl (cI, 3, .inl y.1)), ((bm 19), .inl (cI, 3, .inl y.2.1)), ((bm 20), .inl (cZ, 3, .inl y.2.2.1)), ((bm 21), .inl (cI, 3, .inl y.2.2.2))] (fun rr _ => rr = f_Md_slot mi y i k) (fun _ => [((bm 0), .inr (6, [.int mi.1, .int mi.2.1, .int mi.2.2.1, .ref (bm 1), .ref (bm 2), .ref (bm 3), .ref (bm 4), .ref (bm 5), .ref (bm 6), .ref (bm 7), .ref (bm 8), .ref (bm 9), .int mi.2.2.2.1, .ref (bm 10), .ref (bm 11), .ref (bm 12), .ref (bm 13), .ref (bm 14), .ref (bm 15), .ref (bm 16), .ref (bm 17), .int mi.2.2.2.2.1, .int mi.2.2.2.2.2.1, .int mi.2.2.2.2.2.2.1, .int mi.2.2.2.2.2.2.2.1, .ref (bm 18), .ref (bm 19), .ref (bm 20), .ref (bm 21), .int mi.2.2.2.2.2.2.2.2])), ((bm 18), .inl (cI, 3, .inl y.1)), ((bm 19), .inl (cI, 3, .inl y.2.1)), ((bm 20), .inl (cZ, 3, .inl y.2.2.1)), ((bm 21), .inl (cI, 3, .inl y.2.2.2))]) := by
  refine kx_enter_i (by decide) (Nat.le_of_ble_eq_true rfl) ?_
  intro p_ e_ s_ m_ below_ meth_ c_ ls A_ H I hl hw
  have S := I.1
  have hx := S.1
  have hb := S.2.1
  have hl : lv_has ls 4 [(0, .ref (bm 0)), (1, .int i), (2, .int k)] := hl
  refine lv_iload_n hx hb d_Md_slot_0 rfl (lv_at hl 1 rfl) ?_
  refine lv_if_lt (tgt := 9) hx hb d_Md_slot_1 (by decide) (fun h1 => ?_) (fun h1 => ?_)
  · refine lv_iconst (v := (-1)) hx hb d_Md_slot_9 (by decide) ?_
    exact kx_ret_i I rfl hw () (by simp only [f_Md_slot, if_pos h1]) [0, 1, 2, 3, 4] (by decide) rfl d_Md_slot_10
  · refine lv_iload_n hx hb d_Md_slot_4 rfl (lv_at hl 1 rfl) ?_
    refine lv_iconst (v := 2) hx hb d_Md_slot_5 (by decide) ?_
    refine lv_icmp_le (tgt := 11) hx hb d_Md_slot_6 (by decide) (fun h2 => ?_) (fun h2 => ?_)
    · refine lv_aload_n hx hb d_Md_slot_11 rfl (lv_at hl 0 rfl) ?_
      refine kx_get S hw fg_Md_62 0 rfl rfl d_Md_slot_12 ?_
      refine lv_iload_n hx hb d_Md_slot_15 rfl (lv_at hl 1 rfl) ?_
      refine kx_iald S hw 1 0 rfl rfl (j := i.toNatClampNeg) rfl (by first | exact kx_i6 (N := 2) rfl h1 h2 | exact kx_i6 (N := 2) rfl h1 (Int32.not_lt.mpr h2)) d_Md_slot_16 ?_
      refine lv_if_lt (tgt := 24) hx hb d_Md_slot_17 (by decide) (fun h3 => ?_) (fun h3 => ?_)
      · refine lv_iconst (v := 0) hx hb d_Md_slot_24 (by decide) ?_
        refine lv_istore_n (lv' := [(3, .int 0), (0, .ref (bm 0)), (1, .int i), (2, .int k)]) hx hb d_Md_slot_25 rfl hl (by decide) rfl (fun ls hl => ?_)
        refine lv_iload_n hx hb d_Md_slot_26 rfl (lv_at hl 3 rfl) ?_
        refine lv_if_ne (tgt := 39) hx hb d_Md_slot_27 (by decide) (fun h4 => ?_) (fun h4 => ?_)
        · refine lv_iload_n hx hb d_Md_slot_39 rfl (lv_at hl 3 rfl) ?_
          refine lv_iconst (v := 1) hx hb d_Md_slot_40 (by decide) ?_
          refine lv_icmp_ne (tgt := 61) hx hb d_Md_slot_41 (by decide) (fun h5 => ?_) (fun h5 => ?_)
          · refine lv_iload_n hx hb d_Md_slot_61 rfl (lv_at hl 3 rfl) ?_
            refine lv_iconst (v := 2) hx hb d_Md_slot_62 (by decide) ?_
            refine lv_icmp_ne (tgt := 87) hx hb d_Md_slot_63 (by decide) (fun h6 => ?_) (fun h6 => ?_)
            · refine lv_iconst (v := (-1)) hx hb d_Md_slot_87 (by decide) ?_
              exact kx_ret_i I rfl hw () (by simp only [f_Md_slot, if_neg h1, if_pos h2, if_pos h3, if_neg h4, if_neg h5, if_neg h6]) [0, 1, 2, 3, 4] (by decide) rfl d_Md_slot_88
            · refine lv_iload_n hx hb d_Md_slot_66 rfl (lv_at hl 0 rfl) ?_
              refine lv_if_eq (tgt := 83) hx hb d_Md_slot_67 (by decide) (fun _ => ?_) (fun h => absurd h (by decide))
              refine lv_iconst (v := 0) hx hb d_Md_slot_83 (by decide) ?_
              refine lv_goto (tgt := 88) hx hb d_Md_slot_84 (by decide) ?_
              exact kx_ret_i I rfl hw () (by simp only [f_Md_slot, if_neg h1, if_pos h2, if_pos h3, if_neg h4, if_neg h5, if_pos h6]) [0, 1, 2, 3, 4] (by decide) rfl d_Md_slot_88
          · refine lv_iload_n hx hb d_Md_slot_44 rfl (lv_at hl 0 rfl) ?_
            refine lv_if_eq (tgt := 57) hx hb d_Md_slot_45 (by decide) (fun _ => ?_) (fun h => absurd h (by decide))
            refine lv_iconst (v := 0) hx hb d_Md_slot_57 (by decide) ?_
            refine lv_goto (tgt := 88) hx hb d_Md_slot_58 (by decide) ?_
            exact kx_ret_i I rfl hw () (by simp only [f_Md_slot, if_neg h1, if_pos h2, if_pos h3, if_neg h4, if_pos h5]) [0, 1, 2, 3, 4] (by decide) rfl d_Md_slot_88
        · refine lv_aload_n hx hb d_Md_slot_30 rfl (lv_at hl 1 rfl) ?_
          refine kx_get S hw fg_Md_62 0 rfl rfl d_Md_slot_31 ?_
          refine lv_iload_n hx hb d_Md_slot_34 rfl (lv_at hl 2 rfl) ?_
          refine kx_iald S hw 1 0 rfl rfl (j := i.toNatClampNeg) rfl (by first | exact kx_i6 (N := 2) rfl h1 h2 | exact kx_i6 (N := 2) rfl h1 (Int32.not_lt.mpr h2)) d_Md_slot_35 ?_
          refine lv_goto (tgt := 88) hx hb d_Md_slot_36 (by decide) ?_
          exact kx_ret_i I rfl hw () (by simp only [f_Md_slot, if_neg h1, if_pos h2, if_pos h3, if_pos h4]) [0, 1, 2, 3, 4] (by decide) rfl d_Md_slot_88
      · refine lv_iconst (v := 1) hx hb d_Md_slot_20 (by decide) ?_
        refine lv_goto (tgt := 25) hx hb d_Md_slot_21 (by decide) ?_
        refine lv_istore_n (lv' := [(3, .int 1), (0, .ref (bm 0)), (1, .int i), (2, .int k)]) hx hb d_Md_slot_25 rfl hl (by decide) rfl (fun ls hl => ?_)
        refine lv_iload_n hx hb d_Md_slot_26 rfl (lv_at hl 3 rfl) ?_
        refine lv_if_ne (tgt := 39) hx hb d_Md_slot_27 (by decide) (fun h7 => ?_) (fun h7 => ?_)
        · refine lv_iload_n hx hb d_Md_slot_39 rfl (lv_at hl 3 rfl) ?_
          refine lv_iconst (v := 1) hx hb d_Md_slot_40 (by decide) ?_
          refine lv_icmp_ne (tgt := 61) hx hb d_Md_slot_41 (by decide) (fun h8 => ?_) (fun h8 => ?_)
          · refine lv_iload_n hx hb d_Md_slot_61 rfl (lv_at hl 3 rfl) ?_
            refine lv_iconst (v := 2) hx hb d_Md_slot_62 (by decide) ?_
            refine lv_icmp_ne (tgt := 87) hx hb d_Md_slot_63 (by decide) (fun h9 => ?_) (fun h9 => ?_)
            · refine lv_iconst (v := (-1)) hx hb d_Md_slot_87 (by decide) ?_
              exact kx_ret_i I rfl hw () (by simp only [f_Md_slot, if_neg h1, if_pos h2, if_neg h3, if_neg h7, if_neg h8, if_neg h9]) [0, 1, 2, 3, 4] (by decide) rfl d_Md_slot_88
            · refine lv_iload_n hx hb d_Md_slot_66 rfl (lv_at hl 0 rfl) ?_
              refine lv_if_eq (tgt := 83) hx hb d_Md_slot_67 (by decide) (fun h => absurd h (by decide)) (fun _ => ?_)
              refine lv_aload_n hx hb d_Md_slot_70 rfl (lv_at hl 1 rfl) ?_
              refine kx_get S hw fg_Md_68 0 rfl rfl d_Md_slot_71 ?_
              refine lv_iload_n hx hb d_Md_slot_74 rfl (lv_at hl 2 rfl) ?_
              refine kx_zald S hw 3 1 rfl rfl (j := i.toNatClampNeg) rfl (by first | exact kx_i6 (N := 2) rfl h1 h2 | exact kx_i6 (N := 2) rfl h1 (Int32.not_lt.mpr h2)) d_Md_slot_75 ?_
              refine lv_if_eq (tgt := 83) hx hb d_Md_slot_76 (by decide) (fun h10 => ?_) (fun h10 => ?_)
              · refine lv_iconst (v := 0) hx hb d_Md_slot_83 (by decide) ?_
                refine lv_goto (tgt := 88) hx hb d_Md_slot_84 (by decide) ?_
                exact kx_ret_i I rfl hw () (by simp only [f_Md_slot, if_neg h1, if_pos h2, if_neg h3, if_neg h7, if_neg h8, if_pos h9, if_pos h10]) [0, 1, 2, 3, 4] (by decide) rfl d_Md_slot_88
              · refine lv_iconst (v := 1) hx hb d_Md_slot_79 (by decide) ?_
                refine lv_goto (tgt := 88) hx hb d_Md_slot_80 (by decide) ?_
                exact kx_ret_i I rfl hw () (by simp only [f_Md_slot, if_neg h1, if_pos h2, if_neg h3, if_neg h7, if_neg h8, if_pos h9, if_neg h10]) [0, 1, 2, 3, 4] (by decide) rfl d_Md_slot_88
          · refine lv_iload_n hx hb d_Md_slot_44 rfl (lv_at hl 0 rfl) ?_
            refine lv_if_eq (tgt := 57) hx hb d_Md_slot_45 (by decide) (fun h => absurd h (by decide)) (fun _ => ?_)
            refine lv_aload_n hx hb d_Md_slot_48 rfl (lv_at hl 1 rfl) ?_
            refine kx_get S hw fg_Md_65 0 rfl rfl d_Md_slot_49 ?_
            refine lv_iload_n hx hb d_Md_slot_52 rfl (lv_at hl 2 rfl) ?_
            refine kx_iald S hw 2 0 rfl rfl (j := i.toNatClampNeg) rfl (by first | exact kx_i6 (N := 2) rfl h1 h2 | exact kx_i6 (N := 2) rfl h1 (Int32.not_lt.mpr h2)) d_Md_slot_53 ?_
            refine lv_goto (tgt := 88) hx hb d_Md_slot_54 (by decide) ?_
            exact kx_ret_i I rfl hw () (by simp only [f_Md_slot, if_neg h1, if_pos h2, if_neg h3, if_neg h7, if_pos h8]) [0, 1, 2, 3, 4] (by decide) rfl d_Md_slot_88
        · refine lv_aload_n hx hb d_Md_slot_30 rfl (lv_at hl 1 rfl) ?_
          refine kx_get S hw fg_Md_62 0 rfl rfl d_Md_slot_31 ?_
          refine lv_iload_n hx hb d_Md_slot_34 rfl (lv_at hl 2 rfl) ?_
          refine kx_iald S hw 1 0 rfl rfl (j := i.toNatClampNeg) rfl (by first | exact kx_i6 (N := 2) rfl h1 h2 | exact kx_i6 (N := 2) rfl h1 (Int32.not_lt.mpr h2)) d_Md_slot_35 ?_
          refine lv_goto (tgt := 88) hx hb d_Md_slot_36 (by decide) ?_
          exact kx_ret_i I rfl hw () (by simp only [f_Md_slot, if_neg h1, if_pos h2, if_neg h3, if_pos h7]) [0, 1, 2, 3, 4] (by decide) rfl d_Md_slot_88
    · refine lv_iconst (v := (-1)) hx hb d_Md_slot_9 (by decide) ?_
      exact kx_ret_i I rfl hw () (by simp only [f_Md_slot, if_neg h1, if_neg h2]) [0, 1, 2, 3, 4] (by decide) rfl d_Md_slot_10
def f_Md_output (mi : kt_I) (po : (Nat → Int32)) (i : Int32) : Int32 :=
  if i = (-1) then mi.2.2.2.1
  else if i < 0 then (-2)
  else if i < mi.2.2.2.1 then po i.toNatClampNeg
  else (-2)
set_option maxHeartbeats 4000000 in
set_option maxRecDepth 100000 in
theorem c_Md_output (l : Launch) (D : va_G) (cI cZ cO : ClassId) (bm : Nat → Nat) (mi : kt_I) (po : (Nat → Int32)) (i : Int32) (hp : ¬ 200 < mi.2.2.2.1) : kx_Ci (S := Unit) l y_Md_output b_Md_output 2 (some .int) 0 0 0 D (kx_T cI cZ cO) [.ref (bm 0), .int i] [((bm 0), .inr (6, [.int mi.1, .int mi.2.1, .int mi.2.2.1, .ref (bm 1), .ref (bm 2), .ref (bm 3), .ref (bm 4), .ref (bm 5), .ref (bm 6), .ref (bm 7), .ref (bm 8), .ref (bm 9), .int mi.2.2.2.1, .ref (bm 10), .ref (bm 11), .ref (bm 12), .ref (bm 13), .ref (bm 14), .ref (bm 15), .ref (bm 16), .ref (bm 17), .int mi.2.2.2.2.1, .int mi.2.2.2.2.2.1, .int mi.2.2.2.2.2.2.1, .int mi.2.2.2.2.2.2.2.1, .ref (bm 18), .ref (bm 19), .ref (bm 20), .ref (bm 21), .int mi.2.2.2.2.2.2.2.2])), ((bm 9), .inl (cI, 200, .inl po))] (fun rr _ => rr = f_Md_output mi po i) (fun _ => [((bm 0), .inr (6, [.int mi.1, .int mi.2.1, .int mi.2.2.1, .ref (bm 1), .ref (bm 2), .ref (bm 3), .ref (bm 4), .ref (bm 5), .ref (bm 6), .ref (bm 7), .ref (bm 8), .ref (bm 9), .int mi.2.2.2.1, .ref (bm 10), .ref (bm 11), .ref (bm 12), .ref (bm 13), .ref (bm 14), .ref (bm 15), .ref (bm 16), .ref (bm 17), .int mi.2.2.2.2.1, .int mi.2.2.2.2.2.1, .int mi.2.2.2.2.2.2.1, .int mi.2.2.2.2.2.2.2.1, .ref (bm 18), .ref (bm 19), .ref (bm 20), .ref (bm 21), .int mi.2.2.2.2.2.2.2.2])), ((bm 9), .inl (cI, 200, .inl po))]) := by
  refine kx_enter_i (by decide) (Nat.le_of_ble_eq_true rfl) ?_
  intro p_ e_ s_ m_ below_ meth_ c_ ls A_ H I hl hw
  have S := I.1
  have hx := S.1
  have hb := S.2.1
  have hl : lv_has ls 2 [(0, .ref (bm 0)), (1, .int i)] := hl
  refine lv_iload_n hx hb d_Md_output_0 rfl (lv_at hl 1 rfl) ?_
  refine lv_iconst (v := (-1)) hx hb d_Md_output_1 (by decide) ?_
  refine lv_icmp_ne (tgt := 12) hx hb d_Md_output_2 (by decide) (fun h1 => ?_) (fun h1 => ?_)
  · refine lv_iload_n hx hb d_Md_output_12 rfl (lv_at hl 1 rfl) ?_
    refine lv_if_lt (tgt := 24) hx hb d_Md_output_13 (by decide) (fun h2 => ?_) (fun h2 => ?_)
    · refine lv_bipush (v := (-2)) hx hb d_Md_output_24 (by decide) ?_
      refine lv_goto (tgt := 35) hx hb d_Md_output_26 (by decide) ?_
      exact kx_ret_i I rfl hw () (by simp only [f_Md_output, if_neg h1, if_pos h2]) [0, 1] (by decide) rfl d_Md_output_35
    · refine lv_iload_n hx hb d_Md_output_16 rfl (lv_at hl 1 rfl) ?_
      refine lv_aload_n hx hb d_Md_output_17 rfl (lv_at hl 0 rfl) ?_
      refine kx_get S hw fg_Md_111 0 rfl rfl d_Md_output_18 ?_
      refine lv_icmp_lt (tgt := 29) hx hb d_Md_output_21 (by decide) (fun h3 => ?_) (fun h3 => ?_)
      · refine lv_aload_n hx hb d_Md_output_29 rfl (lv_at hl 0 rfl) ?_
        refine kx_get S hw fg_Md_34 0 rfl rfl d_Md_output_30 ?_
        refine lv_iload_n hx hb d_Md_output_33 rfl (lv_at hl 1 rfl) ?_
        refine kx_iald S hw 1 0 rfl rfl (j := i.toNatClampNeg) rfl (by first | exact kx_i5 h2 h3 hp | exact kx_i5 h2 (Int32.not_le.mpr h3) hp) d_Md_output_34 ?_
        exact kx_ret_i I rfl hw () (by simp only [f_Md_output, if_neg h1, if_neg h2, if_pos h3]) [0, 1] (by decide) rfl d_Md_output_35
      · refine lv_bipush (v := (-2)) hx hb d_Md_output_24 (by decide) ?_
        refine lv_goto (tgt := 35) hx hb d_Md_output_26 (by decide) ?_
        exact kx_ret_i I rfl hw () (by simp only [f_Md_output, if_neg h1, if_neg h2, if_neg h3]) [0, 1] (by decide) rfl d_Md_output_35
  · refine lv_aload_n hx hb d_Md_output_5 rfl (lv_at hl 0 rfl) ?_
    refine kx_get S hw fg_Md_111 0 rfl rfl d_Md_output_6 ?_
    refine lv_goto (tgt := 35) hx hb d_Md_output_9 (by decide) ?_
    exact kx_ret_i I rfl hw () (by simp only [f_Md_output, if_pos h1]) [0, 1] (by decide) rfl d_Md_output_35
def f_Md_driver (mi : kt_I) (e : kt_E) (d : Int32) (k : Int32) : Int32 :=
  if d < 0 then (-2)
  else if d ≤ 1 then (if k = 0 then e.1 d.toNatClampNeg
    else if k = 1 then e.2.1 d.toNatClampNeg
    else if k = 2 then e.2.2.2.1 d.toNatClampNeg
    else if k = 3 then e.2.2.2.2.1 d.toNatClampNeg
    else if k = 4 then (if (e.2.2.2.2.2.1 d.toNatClampNeg) = 0 then 1
      else 0)
    else (-2))
  else (-2)
set_option maxHeartbeats 4000000 in
set_option maxRecDepth 100000 in
theorem c_Md_driver (l : Launch) (D : va_G) (cI cZ cO : ClassId) (bm : Nat → Nat) (mi : kt_I) (e : kt_E) (d : Int32) (k : Int32) : kx_Ci (S := Unit) l y_Md_driver b_Md_driver 3 (some .int) 0 0 0 D (kx_T cI cZ cO) [.ref (bm 0), .int d, .int k] [((bm 0), .inr (6, [.int mi.1, .int mi.2.1, .int mi.2.2.1, .ref (bm 1), .ref (bm 2), .ref (bm 3), .ref (bm 4), .ref (bm 5), .ref (bm 6), .ref (bm 7), .ref (bm 8), .ref (bm 9), .int mi.2.2.2.1, .ref (bm 10), .ref (bm 11), .ref (bm 12), .ref (bm 13), .ref (bm 14), .ref (bm 15), .ref (bm 16), .ref (bm 17), .int mi.2.2.2.2.1, .int mi.2.2.2.2.2.1, .int mi.2.2.2.2.2.2.1, .int mi.2.2.2.2.2.2.2.1, .ref (bm 18), .ref (bm 19), .ref (bm 20), .ref (bm 21), .int mi.2.2.2.2.2.2.2.2])), ((bm 10), .inl (cI, 2, .inl e.1)), ((bm 11), .inl (cI, 2, .inl e.2.1)), ((bm 12), .inl (cI, 2, .inl e.2.2.1)), ((bm 13), .inl (cI, 2, .inl e.2.2.2.1)), ((bm 14), .inl (cI, 2, .inl e.2.2.2.2.1)), ((bm 15), .inl (cZ, 2, .inl e.2.2.2.2.2.1)), ((bm 16), .inl (cI, 2, .inl e.2.2.2.2.2.2.1)), ((bm 17), .inl (cI, 2, .inl e.2.2.2.2.2.2.2))] (fun rr _ => rr = f_Md_driver mi e d k) (fun _ => [((bm 0), .inr (6, [.int mi.1, .int mi.2.1, .int mi.2.2.1, .ref (bm 1), .ref (bm 2), .ref (bm 3), .ref (bm 4), .ref (bm 5), .ref (bm 6), .ref (bm 7), .ref (bm 8), .ref (bm 9), .int mi.2.2.2.1, .ref (bm 10), .ref (bm 11), .ref (bm 12), .ref (bm 13), .ref (bm 14), .ref (bm 15), .ref (bm 16), .ref (bm 17), .int mi.2.2.2.2.1, .int mi.2.2.2.2.2.1, .int mi.2.2.2.2.2.2.1, .int mi.2.2.2.2.2.2.2.1, .ref (bm 18), .ref (bm 19), .ref (bm 20), .ref (bm 21), .int mi.2.2.2.2.2.2.2.2])), ((bm 10), .inl (cI, 2, .inl e.1)), ((bm 11), .inl (cI, 2, .inl e.2.1)), ((bm 12), .inl (cI, 2, .inl e.2.2.1)), ((bm 13), .inl (cI, 2, .inl e.2.2.2.1)), ((bm 14), .inl (cI, 2, .inl e.2.2.2.2.1)), ((bm 15), .inl (cZ, 2, .inl e.2.2.2.2.2.1)), ((bm 16), .inl (cI, 2, .inl e.2.2.2.2.2.2.1)), ((bm 17), .inl (cI, 2, .inl e.2.2.2.2.2.2.2))]) := by
  refine kx_enter_i (by decide) (Nat.le_of_ble_eq_true rfl) ?_
  intro p_ e_ s_ m_ below_ meth_ c_ ls A_ H I hl hw
  have S := I.1
  have hx := S.1
  have hb := S.2.1
  have hl : lv_has ls 3 [(0, .ref (bm 0)), (1, .int d), (2, .int k)] := hl
  refine lv_iload_n hx hb d_Md_driver_0 rfl (lv_at hl 1 rfl) ?_
  refine lv_if_lt (tgt := 9) hx hb d_Md_driver_1 (by decide) (fun h1 => ?_) (fun h1 => ?_)
  · refine lv_bipush (v := (-2)) hx hb d_Md_driver_9 (by decide) ?_
    exact kx_ret_i I rfl hw () (by simp only [f_Md_driver, if_pos h1]) [0, 1, 2, 3, 4, 5, 6, 7, 8] (by decide) rfl d_Md_driver_11
  · refine lv_iload_n hx hb d_Md_driver_4 rfl (lv_at hl 1 rfl) ?_
    refine lv_iconst (v := 1) hx hb d_Md_driver_5 (by decide) ?_
    refine lv_icmp_le (tgt := 12) hx hb d_Md_driver_6 (by decide) (fun h2 => ?_) (fun h2 => ?_)
    · refine lv_iload_n hx hb d_Md_driver_12 rfl (lv_at hl 2 rfl) ?_
      by_cases h3 : k = 0
      · refine lv_tableIn (off := 35) (tgt := 48) hx hb d_Md_driver_13 (by rw [h3]; decide) (by rw [h3]; decide) (by rw [h3]; decide) (by decide) ?_
        refine lv_aload_n hx hb d_Md_driver_48 rfl (lv_at hl 0 rfl) ?_
        refine kx_get S hw fg_Md_37 0 rfl rfl d_Md_driver_49 ?_
        refine lv_iload_n hx hb d_Md_driver_52 rfl (lv_at hl 1 rfl) ?_
        refine kx_iald S hw 1 0 rfl rfl (j := d.toNatClampNeg) rfl (by first | exact kx_i6 (N := 1) rfl h1 h2 | exact kx_i6 (N := 1) rfl h1 (Int32.not_lt.mpr h2)) d_Md_driver_53 ?_
        exact kx_ret_i I rfl hw () (by simp only [f_Md_driver, if_neg h1, if_pos h2, if_pos h3]) [0, 1, 2, 3, 4, 5, 6, 7, 8] (by decide) rfl d_Md_driver_54
      by_cases h4 : k = 1
      · refine lv_tableIn (off := 42) (tgt := 55) hx hb d_Md_driver_13 (by rw [h4]; decide) (by rw [h4]; decide) (by rw [h4]; decide) (by decide) ?_
        refine lv_aload_n hx hb d_Md_driver_55 rfl (lv_at hl 0 rfl) ?_
        refine kx_get S hw fg_Md_40 0 rfl rfl d_Md_driver_56 ?_
        refine lv_iload_n hx hb d_Md_driver_59 rfl (lv_at hl 1 rfl) ?_
        refine kx_iald S hw 2 0 rfl rfl (j := d.toNatClampNeg) rfl (by first | exact kx_i6 (N := 1) rfl h1 h2 | exact kx_i6 (N := 1) rfl h1 (Int32.not_lt.mpr h2)) d_Md_driver_60 ?_
        exact kx_ret_i I rfl hw () (by simp only [f_Md_driver, if_neg h1, if_pos h2, if_neg h3, if_pos h4]) [0, 1, 2, 3, 4, 5, 6, 7, 8] (by decide) rfl d_Md_driver_61
      by_cases h5 : k = 2
      · refine lv_tableIn (off := 49) (tgt := 62) hx hb d_Md_driver_13 (by rw [h5]; decide) (by rw [h5]; decide) (by rw [h5]; decide) (by decide) ?_
        refine lv_aload_n hx hb d_Md_driver_62 rfl (lv_at hl 0 rfl) ?_
        refine kx_get S hw fg_Md_46 0 rfl rfl d_Md_driver_63 ?_
        refine lv_iload_n hx hb d_Md_driver_66 rfl (lv_at hl 1 rfl) ?_
        refine kx_iald S hw 4 0 rfl rfl (j := d.toNatClampNeg) rfl (by first | exact kx_i6 (N := 1) rfl h1 h2 | exact kx_i6 (N := 1) rfl h1 (Int32.not_lt.mpr h2)) d_Md_driver_67 ?_
        exact kx_ret_i I rfl hw () (by simp only [f_Md_driver, if_neg h1, if_pos h2, if_neg h3, if_neg h4, if_pos h5]) [0, 1, 2, 3, 4, 5, 6, 7, 8] (by decide) rfl d_Md_driver_68
      by_cases h6 : k = 3
      · refine lv_tableIn (off := 56) (tgt := 69) hx hb d_Md_driver_13 (by rw [h6]; decide) (by rw [h6]; decide) (by rw [h6]; decide) (by decide) ?_
        refine lv_aload_n hx hb d_Md_driver_69 rfl (lv_at hl 0 rfl) ?_
        refine kx_get S hw fg_Md_49 0 rfl rfl d_Md_driver_70 ?_
        refine lv_iload_n hx hb d_Md_driver_73 rfl (lv_at hl 1 rfl) ?_
        refine kx_iald S hw 5 0 rfl rfl (j := d.toNatClampNeg) rfl (by first | exact kx_i6 (N := 1) rfl h1 h2 | exact kx_i6 (N := 1) rfl h1 (Int32.not_lt.mpr h2)) d_Md_driver_74 ?_
        exact kx_ret_i I rfl hw () (by simp only [f_Md_driver, if_neg h1, if_pos h2, if_neg h3, if_neg h4, if_neg h5, if_pos h6]) [0, 1, 2, 3, 4, 5, 6, 7, 8] (by decide) rfl d_Md_driver_75
      by_cases h7 : k = 4
      · refine lv_tableIn (off := 63) (tgt := 76) hx hb d_Md_driver_13 (by rw [h7]; decide) (by rw [h7]; decide) (by rw [h7]; decide) (by decide) ?_
        refine lv_aload_n hx hb d_Md_driver_76 rfl (lv_at hl 0 rfl) ?_
        refine kx_get S hw fg_Md_52 0 rfl rfl d_Md_driver_77 ?_
        refine lv_iload_n hx hb d_Md_driver_80 rfl (lv_at hl 1 rfl) ?_
        refine kx_zald S hw 6 1 rfl rfl (j := d.toNatClampNeg) rfl (by first | exact kx_i6 (N := 1) rfl h1 h2 | exact kx_i6 (N := 1) rfl h1 (Int32.not_lt.mpr h2)) d_Md_driver_81 ?_
        refine lv_if_eq (tgt := 89) hx hb d_Md_driver_82 (by decide) (fun h8 => ?_) (fun h8 => ?_)
        · refine lv_iconst (v := 1) hx hb d_Md_driver_89 (by decide) ?_
          exact kx_ret_i I rfl hw () (by simp only [f_Md_driver, if_neg h1, if_pos h2, if_neg h3, if_neg h4, if_neg h5, if_neg h6, if_pos h7, if_pos h8]) [0, 1, 2, 3, 4, 5, 6, 7, 8] (by decide) rfl d_Md_driver_90
        · refine lv_iconst (v := 0) hx hb d_Md_driver_85 (by decide) ?_
          refine lv_goto (tgt := 90) hx hb d_Md_driver_86 (by decide) ?_
          exact kx_ret_i I rfl hw () (by simp only [f_Md_driver, if_neg h1, if_pos h2, if_neg h3, if_neg h4, if_neg h5, if_neg h6, if_pos h7, if_neg h8]) [0, 1, 2, 3, 4, 5, 6, 7, 8] (by decide) rfl d_Md_driver_90
      refine lv_tableOut (tgt := 91) hx hb d_Md_driver_13 (kx_sw5 h3 h4 h5 h6 h7) (by decide) ?_
      refine lv_bipush (v := (-2)) hx hb d_Md_driver_91 (by decide) ?_
      exact kx_ret_i I rfl hw () (by simp only [f_Md_driver, if_neg h1, if_pos h2, if_neg h3, if_neg h4, if_neg h5, if_neg h6, if_neg h7]) [0, 1, 2, 3, 4, 5, 6, 7, 8] (by decide) rfl d_Md_driver_93
    · refine lv_bipush (v := (-2)) hx hb d_Md_driver_9 (by decide) ?_
      exact kx_ret_i I rfl hw () (by simp only [f_Md_driver, if_neg h1, if_neg h2]) [0, 1, 2, 3, 4, 5, 6, 7, 8] (by decide) rfl d_Md_driver_11
def f_Md_request (mi : kt_I) (e : kt_E) (s : Int32) : Int32 :=
  if s < 0 then (-1)
  else if s ≤ 1 then e.2.2.2.2.2.2.1 s.toNatClampNeg
  else (-1)
set_option maxHeartbeats 4000000 in
set_option maxRecDepth 100000 in
theorem c_Md_request (l : Launch) (D : va_G) (cI cZ cO : ClassId) (bm : Nat → Nat) (mi : kt_I) (e : kt_E) (s : Int32) : kx_Ci (S := Unit) l y_Md_request b_Md_request 2 (some .int) 0 0 0 D (kx_T cI cZ cO) [.ref (bm 0), .int s] [((bm 0), .inr (6, [.int mi.1, .int mi.2.1, .int mi.2.2.1, .ref (bm 1), .ref (bm 2), .ref (bm 3), .ref (bm 4), .ref (bm 5), .ref (bm 6), .ref (bm 7), .ref (bm 8), .ref (bm 9), .int mi.2.2.2.1, .ref (bm 10), .ref (bm 11), .ref (bm 12), .ref (bm 13), .ref (bm 14), .ref (bm 15), .ref (bm 16), .ref (bm 17), .int mi.2.2.2.2.1, .int mi.2.2.2.2.2.1, .int mi.2.2.2.2.2.2.1, .int mi.2.2.2.2.2.2.2.1, .ref (bm 18), .ref (bm 19), .ref (bm 20), .ref (bm 21), .int mi.2.2.2.2.2.2.2.2])), ((bm 10), .inl (cI, 2, .inl e.1)), ((bm 11), .inl (cI, 2, .inl e.2.1)), ((bm 12), .inl (cI, 2, .inl e.2.2.1)), ((bm 13), .inl (cI, 2, .inl e.2.2.2.1)), ((bm 14), .inl (cI, 2, .inl e.2.2.2.2.1)), ((bm 15), .inl (cZ, 2, .inl e.2.2.2.2.2.1)), ((bm 16), .inl (cI, 2, .inl e.2.2.2.2.2.2.1)), ((bm 17), .inl (cI, 2, .inl e.2.2.2.2.2.2.2))] (fun rr _ => rr = f_Md_request mi e s) (fun _ => [((bm 0), .inr (6, [.int mi.1, .int mi.2.1, .int mi.2.2.1, .ref (bm 1), .ref (bm 2), .ref (bm 3), .ref (bm 4), .ref (bm 5), .ref (bm 6), .ref (bm 7), .ref (bm 8), .ref (bm 9), .int mi.2.2.2.1, .ref (bm 10), .ref (bm 11), .ref (bm 12), .ref (bm 13), .ref (bm 14), .ref (bm 15), .ref (bm 16), .ref (bm 17), .int mi.2.2.2.2.1, .int mi.2.2.2.2.2.1, .int mi.2.2.2.2.2.2.1, .int mi.2.2.2.2.2.2.2.1, .ref (bm 18), .ref (bm 19), .ref (bm 20), .ref (bm 21), .int mi.2.2.2.2.2.2.2.2])), ((bm 10), .inl (cI, 2, .inl e.1)), ((bm 11), .inl (cI, 2, .inl e.2.1)), ((bm 12), .inl (cI, 2, .inl e.2.2.1)), ((bm 13), .inl (cI, 2, .inl e.2.2.2.1)), ((bm 14), .inl (cI, 2, .inl e.2.2.2.2.1)), ((bm 15), .inl (cZ, 2, .inl e.2.2.2.2.2.1)), ((bm 16), .inl (cI, 2, .inl e.2.2.2.2.2.2.1)), ((bm 17), .inl (cI, 2, .inl e.2.2.2.2.2.2.2))]) := by
  refine kx_enter_i (by decide) (Nat.le_of_ble_eq_true rfl) ?_
  intro p_ e_ s_ m_ below_ meth_ c_ ls A_ H I hl hw
  have S := I.1
  have hx := S.1
  have hb := S.2.1
  have hl : lv_has ls 2 [(0, .ref (bm 0)), (1, .int s)] := hl
  refine lv_iload_n hx hb d_Md_request_0 rfl (lv_at hl 1 rfl) ?_
  refine lv_if_lt (tgt := 9) hx hb d_Md_request_1 (by decide) (fun h1 => ?_) (fun h1 => ?_)
  · refine lv_iconst (v := (-1)) hx hb d_Md_request_9 (by decide) ?_
    refine lv_goto (tgt := 19) hx hb d_Md_request_10 (by decide) ?_
    exact kx_ret_i I rfl hw () (by simp only [f_Md_request, if_pos h1]) [0, 1, 2, 3, 4, 5, 6, 7, 8] (by decide) rfl d_Md_request_19
  · refine lv_iload_n hx hb d_Md_request_4 rfl (lv_at hl 1 rfl) ?_
    refine lv_iconst (v := 1) hx hb d_Md_request_5 (by decide) ?_
    refine lv_icmp_le (tgt := 13) hx hb d_Md_request_6 (by decide) (fun h2 => ?_) (fun h2 => ?_)
    · refine lv_aload_n hx hb d_Md_request_13 rfl (lv_at hl 0 rfl) ?_
      refine kx_get S hw fg_Md_56 0 rfl rfl d_Md_request_14 ?_
      refine lv_iload_n hx hb d_Md_request_17 rfl (lv_at hl 1 rfl) ?_
      refine kx_iald S hw 7 0 rfl rfl (j := s.toNatClampNeg) rfl (by first | exact kx_i6 (N := 1) rfl h1 h2 | exact kx_i6 (N := 1) rfl h1 (Int32.not_lt.mpr h2)) d_Md_request_18 ?_
      exact kx_ret_i I rfl hw () (by simp only [f_Md_request, if_neg h1, if_pos h2]) [0, 1, 2, 3, 4, 5, 6, 7, 8] (by decide) rfl d_Md_request_19
    · refine lv_iconst (v := (-1)) hx hb d_Md_request_9 (by decide) ?_
      refine lv_goto (tgt := 19) hx hb d_Md_request_10 (by decide) ?_
      exact kx_ret_i I rfl hw () (by simp only [f_Md_request, if_neg h1, if_neg h2]) [0, 1, 2, 3, 4, 5, 6, 7, 8] (by decide) rfl d_Md_request_19
def f_Md_now (mi : kt_I) : Int32 :=
  mi.2.1
set_option maxHeartbeats 4000000 in
set_option maxRecDepth 100000 in
theorem c_Md_now (l : Launch) (D : va_G) (cI cZ cO : ClassId) (bm : Nat → Nat) (mi : kt_I) : kx_Ci (S := Unit) l y_Md_now b_Md_now 1 (some .int) 0 0 0 D (kx_T cI cZ cO) [.ref (bm 0)] [((bm 0), .inr (6, [.int mi.1, .int mi.2.1, .int mi.2.2.1, .ref (bm 1), .ref (bm 2), .ref (bm 3), .ref (bm 4), .ref (bm 5), .ref (bm 6), .ref (bm 7), .ref (bm 8), .ref (bm 9), .int mi.2.2.2.1, .ref (bm 10), .ref (bm 11), .ref (bm 12), .ref (bm 13), .ref (bm 14), .ref (bm 15), .ref (bm 16), .ref (bm 17), .int mi.2.2.2.2.1, .int mi.2.2.2.2.2.1, .int mi.2.2.2.2.2.2.1, .int mi.2.2.2.2.2.2.2.1, .ref (bm 18), .ref (bm 19), .ref (bm 20), .ref (bm 21), .int mi.2.2.2.2.2.2.2.2]))] (fun rr _ => rr = f_Md_now mi) (fun _ => [((bm 0), .inr (6, [.int mi.1, .int mi.2.1, .int mi.2.2.1, .ref (bm 1), .ref (bm 2), .ref (bm 3), .ref (bm 4), .ref (bm 5), .ref (bm 6), .ref (bm 7), .ref (bm 8), .ref (bm 9), .int mi.2.2.2.1, .ref (bm 10), .ref (bm 11), .ref (bm 12), .ref (bm 13), .ref (bm 14), .ref (bm 15), .ref (bm 16), .ref (bm 17), .int mi.2.2.2.2.1, .int mi.2.2.2.2.2.1, .int mi.2.2.2.2.2.2.1, .int mi.2.2.2.2.2.2.2.1, .ref (bm 18), .ref (bm 19), .ref (bm 20), .ref (bm 21), .int mi.2.2.2.2.2.2.2.2]))]) := by
  refine kx_enter_i (by decide) (Nat.le_of_ble_eq_true rfl) ?_
  intro p_ e_ s_ m_ below_ meth_ c_ ls A_ H I hl hw
  have S := I.1
  have hx := S.1
  have hb := S.2.1
  have hl : lv_has ls 1 [(0, .ref (bm 0))] := hl
  refine lv_aload_n hx hb d_Md_now_0 rfl (lv_at hl 0 rfl) ?_
  refine kx_get S hw fg_Md_89 0 rfl rfl d_Md_now_1 ?_
  exact kx_ret_i I rfl hw () (by simp only [f_Md_now]) [0] (by decide) rfl d_Md_now_4
def f_Md_fault (mi : kt_I) (e : kt_E) (d : Int32) (k : Int32) : Int32 × kt_E :=
  if d < 0 then (0, e)
  else if 1 < d then (0, e)
  else if k < 0 then (0, e)
  else if 3 < k then (0, e)
  else if (e.2.1 d.toNatClampNeg) = 2 then (0, e)
  else if (e.2.1 d.toNatClampNeg) = 1 then (if k = 0 then (if k = 1 then (if k ≤ 1 then (1, (e.1, upd (upd e.2.1 d.toNatClampNeg 2) d.toNatClampNeg 1, e.2.2.1, upd e.2.2.2.1 d.toNatClampNeg (-1), e.2.2.2.2.1, e.2.2.2.2.2.1, e.2.2.2.2.2.2.1, e.2.2.2.2.2.2.2))
        else (1, (e.1, upd (upd e.2.1 d.toNatClampNeg 2) d.toNatClampNeg 1, upd e.2.2.1 d.toNatClampNeg k, upd e.2.2.2.1 d.toNatClampNeg (-1), e.2.2.2.2.1, e.2.2.2.2.2.1, e.2.2.2.2.2.2.1, e.2.2.2.2.2.2.2)))
      else if k ≤ 1 then (1, (e.1, upd e.2.1 d.toNatClampNeg 2, e.2.2.1, upd e.2.2.2.1 d.toNatClampNeg (-1), e.2.2.2.2.1, e.2.2.2.2.2.1, e.2.2.2.2.2.2.1, e.2.2.2.2.2.2.2))
      else (1, (e.1, upd e.2.1 d.toNatClampNeg 2, upd e.2.2.1 d.toNatClampNeg k, upd e.2.2.2.1 d.toNatClampNeg (-1), e.2.2.2.2.1, e.2.2.2.2.2.1, e.2.2.2.2.2.2.1, e.2.2.2.2.2.2.2)))
    else (0, e))
  else if k = 0 then (if k = 1 then (if k ≤ 1 then (1, (e.1, upd (upd e.2.1 d.toNatClampNeg 2) d.toNatClampNeg 1, e.2.2.1, upd e.2.2.2.1 d.toNatClampNeg (-1), e.2.2.2.2.1, e.2.2.2.2.2.1, e.2.2.2.2.2.2.1, e.2.2.2.2.2.2.2))
      else (1, (e.1, upd (upd e.2.1 d.toNatClampNeg 2) d.toNatClampNeg 1, upd e.2.2.1 d.toNatClampNeg k, upd e.2.2.2.1 d.toNatClampNeg (-1), e.2.2.2.2.1, e.2.2.2.2.2.1, e.2.2.2.2.2.2.1, e.2.2.2.2.2.2.2)))
    else if k ≤ 1 then (1, (e.1, upd e.2.1 d.toNatClampNeg 2, e.2.2.1, upd e.2.2.2.1 d.toNatClampNeg (-1), e.2.2.2.2.1, e.2.2.2.2.2.1, e.2.2.2.2.2.2.1, e.2.2.2.2.2.2.2))
    else (1, (e.1, upd e.2.1 d.toNatClampNeg 2, upd e.2.2.1 d.toNatClampNeg k, upd e.2.2.2.1 d.toNatClampNeg (-1), e.2.2.2.2.1, e.2.2.2.2.2.1, e.2.2.2.2.2.2.1, e.2.2.2.2.2.2.2)))
  else if k = 1 then (if k ≤ 1 then (1, (e.1, upd e.2.1 d.toNatClampNeg 1, e.2.2.1, e.2.2.2.1, e.2.2.2.2.1, e.2.2.2.2.2.1, e.2.2.2.2.2.2.1, e.2.2.2.2.2.2.2))
    else (1, (e.1, upd e.2.1 d.toNatClampNeg 1, upd e.2.2.1 d.toNatClampNeg k, e.2.2.2.1, e.2.2.2.2.1, e.2.2.2.2.2.1, e.2.2.2.2.2.2.1, e.2.2.2.2.2.2.2)))
  else if k ≤ 1 then (1, e)
  else (1, (e.1, e.2.1, upd e.2.2.1 d.toNatClampNeg k, e.2.2.2.1, e.2.2.2.2.1, e.2.2.2.2.2.1, e.2.2.2.2.2.2.1, e.2.2.2.2.2.2.2))
set_option maxHeartbeats 4000000 in
set_option maxRecDepth 100000 in
theorem c_Md_fault (l : Launch) (D : va_G) (cI cZ cO : ClassId) (bm : Nat → Nat) (mi : kt_I) (e : kt_E) (d : Int32) (k : Int32) : kx_Ci (S := kt_E) l y_Md_fault b_Md_fault 3 (some .boolean) 0 0 0 D (kx_T cI cZ cO) [.ref (bm 0), .int d, .int k] [((bm 0), .inr (6, [.int mi.1, .int mi.2.1, .int mi.2.2.1, .ref (bm 1), .ref (bm 2), .ref (bm 3), .ref (bm 4), .ref (bm 5), .ref (bm 6), .ref (bm 7), .ref (bm 8), .ref (bm 9), .int mi.2.2.2.1, .ref (bm 10), .ref (bm 11), .ref (bm 12), .ref (bm 13), .ref (bm 14), .ref (bm 15), .ref (bm 16), .ref (bm 17), .int mi.2.2.2.2.1, .int mi.2.2.2.2.2.1, .int mi.2.2.2.2.2.2.1, .int mi.2.2.2.2.2.2.2.1, .ref (bm 18), .ref (bm 19), .ref (bm 20), .ref (bm 21), .int mi.2.2.2.2.2.2.2.2])), ((bm 10), .inl (cI, 2, .inl e.1)), ((bm 11), .inl (cI, 2, .inl e.2.1)), ((bm 12), .inl (cI, 2, .inl e.2.2.1)), ((bm 13), .inl (cI, 2, .inl e.2.2.2.1)), ((bm 14), .inl (cI, 2, .inl e.2.2.2.2.1)), ((bm 15), .inl (cZ, 2, .inl e.2.2.2.2.2.1)), ((bm 16), .inl (cI, 2, .inl e.2.2.2.2.2.2.1)), ((bm 17), .inl (cI, 2, .inl e.2.2.2.2.2.2.2))] (fun rr zz => (rr, zz) = f_Md_fault mi e d k ∧ kx_b rr) (fun zz => [((bm 0), .inr (6, [.int mi.1, .int mi.2.1, .int mi.2.2.1, .ref (bm 1), .ref (bm 2), .ref (bm 3), .ref (bm 4), .ref (bm 5), .ref (bm 6), .ref (bm 7), .ref (bm 8), .ref (bm 9), .int mi.2.2.2.1, .ref (bm 10), .ref (bm 11), .ref (bm 12), .ref (bm 13), .ref (bm 14), .ref (bm 15), .ref (bm 16), .ref (bm 17), .int mi.2.2.2.2.1, .int mi.2.2.2.2.2.1, .int mi.2.2.2.2.2.2.1, .int mi.2.2.2.2.2.2.2.1, .ref (bm 18), .ref (bm 19), .ref (bm 20), .ref (bm 21), .int mi.2.2.2.2.2.2.2.2])), ((bm 10), .inl (cI, 2, .inl zz.1)), ((bm 11), .inl (cI, 2, .inl zz.2.1)), ((bm 12), .inl (cI, 2, .inl zz.2.2.1)), ((bm 13), .inl (cI, 2, .inl zz.2.2.2.1)), ((bm 14), .inl (cI, 2, .inl zz.2.2.2.2.1)), ((bm 15), .inl (cZ, 2, .inl zz.2.2.2.2.2.1)), ((bm 16), .inl (cI, 2, .inl zz.2.2.2.2.2.2.1)), ((bm 17), .inl (cI, 2, .inl zz.2.2.2.2.2.2.2))]) := by
  refine kx_enter_i (by decide) (Nat.le_of_ble_eq_true rfl) ?_
  intro p_ e_ s_ m_ below_ meth_ c_ ls A_ H I hl hw
  have S := I.1
  have hx := S.1
  have hb := S.2.1
  have hl : lv_has ls 3 [(0, .ref (bm 0)), (1, .int d), (2, .int k)] := hl
  refine lv_iload_n hx hb d_Md_fault_0 rfl (lv_at hl 1 rfl) ?_
  refine lv_if_lt (tgt := 42) hx hb d_Md_fault_1 (by decide) (fun h1 => ?_) (fun h1 => ?_)
  · refine lv_iconst (v := 0) hx hb d_Md_fault_42 (by decide) ?_
    exact kx_ret_z I rfl hw (Or.inl rfl) e ⟨(by simp only [f_Md_fault, if_pos h1]), (Or.inl rfl)⟩ [0, 1, 2, 3, 4, 5, 6, 7, 8] (by decide) rfl d_Md_fault_43
  · refine lv_iload_n hx hb d_Md_fault_4 rfl (lv_at hl 1 rfl) ?_
    refine lv_iconst (v := 1) hx hb d_Md_fault_5 (by decide) ?_
    refine lv_icmp_gt (tgt := 42) hx hb d_Md_fault_6 (by decide) (fun h2 => ?_) (fun h2 => ?_)
    · refine lv_iconst (v := 0) hx hb d_Md_fault_42 (by decide) ?_
      exact kx_ret_z I rfl hw (Or.inl rfl) e ⟨(by simp only [f_Md_fault, if_neg h1, if_pos h2]), (Or.inl rfl)⟩ [0, 1, 2, 3, 4, 5, 6, 7, 8] (by decide) rfl d_Md_fault_43
    · refine lv_iload_n hx hb d_Md_fault_9 rfl (lv_at hl 2 rfl) ?_
      refine lv_if_lt (tgt := 42) hx hb d_Md_fault_10 (by decide) (fun h3 => ?_) (fun h3 => ?_)
      · refine lv_iconst (v := 0) hx hb d_Md_fault_42 (by decide) ?_
        exact kx_ret_z I rfl hw (Or.inl rfl) e ⟨(by simp only [f_Md_fault, if_neg h1, if_neg h2, if_pos h3]), (Or.inl rfl)⟩ [0, 1, 2, 3, 4, 5, 6, 7, 8] (by decide) rfl d_Md_fault_43
      · refine lv_iload_n hx hb d_Md_fault_13 rfl (lv_at hl 2 rfl) ?_
        refine lv_iconst (v := 3) hx hb d_Md_fault_14 (by decide) ?_
        refine lv_icmp_gt (tgt := 42) hx hb d_Md_fault_15 (by decide) (fun h4 => ?_) (fun h4 => ?_)
        · refine lv_iconst (v := 0) hx hb d_Md_fault_42 (by decide) ?_
          exact kx_ret_z I rfl hw (Or.inl rfl) e ⟨(by simp only [f_Md_fault, if_neg h1, if_neg h2, if_neg h3, if_pos h4]), (Or.inl rfl)⟩ [0, 1, 2, 3, 4, 5, 6, 7, 8] (by decide) rfl d_Md_fault_43
        · refine lv_aload_n hx hb d_Md_fault_18 rfl (lv_at hl 0 rfl) ?_
          refine kx_get S hw fg_Md_40 0 rfl rfl d_Md_fault_19 ?_
          refine lv_iload_n hx hb d_Md_fault_22 rfl (lv_at hl 1 rfl) ?_
          refine kx_iald S hw 2 0 rfl rfl (j := d.toNatClampNeg) rfl (by first | exact kx_i6 (N := 1) rfl h1 h2 | exact kx_i6 (N := 1) rfl h1 (Int32.not_lt.mpr h2)) d_Md_fault_23 ?_
          refine lv_iconst (v := 2) hx hb d_Md_fault_24 (by decide) ?_
          refine lv_icmp_eq (tgt := 42) hx hb d_Md_fault_25 (by decide) (fun h5 => ?_) (fun h5 => ?_)
          · refine lv_iconst (v := 0) hx hb d_Md_fault_42 (by decide) ?_
            exact kx_ret_z I rfl hw (Or.inl rfl) e ⟨(by simp only [f_Md_fault, if_neg h1, if_neg h2, if_neg h3, if_neg h4, if_pos h5]), (Or.inl rfl)⟩ [0, 1, 2, 3, 4, 5, 6, 7, 8] (by decide) rfl d_Md_fault_43
          · refine lv_aload_n hx hb d_Md_fault_28 rfl (lv_at hl 0 rfl) ?_
            refine kx_get S hw fg_Md_40 0 rfl rfl d_Md_fault_29 ?_
            refine lv_iload_n hx hb d_Md_fault_32 rfl (lv_at hl 1 rfl) ?_
            refine kx_iald S hw 2 0 rfl rfl (j := d.toNatClampNeg) rfl (by first | exact kx_i6 (N := 1) rfl h1 h2 | exact kx_i6 (N := 1) rfl h1 (Int32.not_lt.mpr h2)) d_Md_fault_33 ?_
            refine lv_iconst (v := 1) hx hb d_Md_fault_34 (by decide) ?_
            refine lv_icmp_ne (tgt := 44) hx hb d_Md_fault_35 (by decide) (fun h6 => ?_) (fun h6 => ?_)
            · refine lv_iload_n hx hb d_Md_fault_44 rfl (lv_at hl 2 rfl) ?_
              refine lv_if_ne (tgt := 62) hx hb d_Md_fault_45 (by decide) (fun h7 => ?_) (fun h7 => ?_)
              · refine lv_iload_n hx hb d_Md_fault_62 rfl (lv_at hl 2 rfl) ?_
                refine lv_iconst (v := 1) hx hb d_Md_fault_63 (by decide) ?_
                refine lv_icmp_ne (tgt := 74) hx hb d_Md_fault_64 (by decide) (fun h8 => ?_) (fun h8 => ?_)
                · refine lv_iload_n hx hb d_Md_fault_74 rfl (lv_at hl 2 rfl) ?_
                  refine lv_iconst (v := 1) hx hb d_Md_fault_75 (by decide) ?_
                  refine lv_icmp_le (tgt := 86) hx hb d_Md_fault_76 (by decide) (fun h9 => ?_) (fun h9 => ?_)
                  · refine lv_iconst (v := 1) hx hb d_Md_fault_86 (by decide) ?_
                    exact kx_ret_z I rfl hw (Or.inr rfl) e ⟨(by simp only [f_Md_fault, if_neg h1, if_neg h2, if_neg h3, if_neg h4, if_neg h5, if_neg h6, if_neg h7, if_neg h8, if_pos h9]), (Or.inr rfl)⟩ [0, 1, 2, 3, 4, 5, 6, 7, 8] (by decide) rfl d_Md_fault_87
                  · refine lv_aload_n hx hb d_Md_fault_79 rfl (lv_at hl 0 rfl) ?_
                    refine kx_get S hw fg_Md_43 0 rfl rfl d_Md_fault_80 ?_
                    refine lv_iload_n hx hb d_Md_fault_83 rfl (lv_at hl 1 rfl) ?_
                    refine lv_iload_n hx hb d_Md_fault_84 rfl (lv_at hl 2 rfl) ?_
                    refine kx_iast S hw 3 0 rfl rfl (j := d.toNatClampNeg) rfl (by first | exact kx_i6 (N := 1) rfl h1 h2 | exact kx_i6 (N := 1) rfl h1 (Int32.not_lt.mpr h2)) d_Md_fault_85 (fun H locs hw => ?_)
                    have hw : kx_w D (kx_T cI cZ cO) A_ s_ [((bm 0), .inr (6, [.int mi.1, .int mi.2.1, .int mi.2.2.1, .ref (bm 1), .ref (bm 2), .ref (bm 3), .ref (bm 4), .ref (bm 5), .ref (bm 6), .ref (bm 7), .ref (bm 8), .ref (bm 9), .int mi.2.2.2.1, .ref (bm 10), .ref (bm 11), .ref (bm 12), .ref (bm 13), .ref (bm 14), .ref (bm 15), .ref (bm 16), .ref (bm 17), .int mi.2.2.2.2.1, .int mi.2.2.2.2.2.1, .int mi.2.2.2.2.2.2.1, .int mi.2.2.2.2.2.2.2.1, .ref (bm 18), .ref (bm 19), .ref (bm 20), .ref (bm 21), .int mi.2.2.2.2.2.2.2.2])), ((bm 10), .inl (cI, 2, .inl e.1)), ((bm 11), .inl (cI, 2, .inl e.2.1)), ((bm 12), .inl (cI, 2, .inl (upd e.2.2.1 d.toNatClampNeg k))), ((bm 13), .inl (cI, 2, .inl e.2.2.2.1)), ((bm 14), .inl (cI, 2, .inl e.2.2.2.2.1)), ((bm 15), .inl (cZ, 2, .inl e.2.2.2.2.2.1)), ((bm 16), .inl (cI, 2, .inl e.2.2.2.2.2.2.1)), ((bm 17), .inl (cI, 2, .inl e.2.2.2.2.2.2.2))] H locs := hw
                    refine lv_iconst (v := 1) hx hb d_Md_fault_86 (by decide) ?_
                    exact kx_ret_z I rfl hw (Or.inr rfl) (e.1, e.2.1, upd e.2.2.1 d.toNatClampNeg k, e.2.2.2.1, e.2.2.2.2.1, e.2.2.2.2.2.1, e.2.2.2.2.2.2.1, e.2.2.2.2.2.2.2) ⟨(by simp only [f_Md_fault, if_neg h1, if_neg h2, if_neg h3, if_neg h4, if_neg h5, if_neg h6, if_neg h7, if_neg h8, if_neg h9]), (Or.inr rfl)⟩ [0, 1, 2, 3, 4, 5, 6, 7, 8] (by decide) rfl d_Md_fault_87
                · refine lv_aload_n hx hb d_Md_fault_67 rfl (lv_at hl 0 rfl) ?_
                  refine kx_get S hw fg_Md_40 0 rfl rfl d_Md_fault_68 ?_
                  refine lv_iload_n hx hb d_Md_fault_71 rfl (lv_at hl 1 rfl) ?_
                  refine lv_iconst (v := 1) hx hb d_Md_fault_72 (by decide) ?_
                  refine kx_iast S hw 2 0 rfl rfl (j := d.toNatClampNeg) rfl (by first | exact kx_i6 (N := 1) rfl h1 h2 | exact kx_i6 (N := 1) rfl h1 (Int32.not_lt.mpr h2)) d_Md_fault_73 (fun H locs hw => ?_)
                  have hw : kx_w D (kx_T cI cZ cO) A_ s_ [((bm 0), .inr (6, [.int mi.1, .int mi.2.1, .int mi.2.2.1, .ref (bm 1), .ref (bm 2), .ref (bm 3), .ref (bm 4), .ref (bm 5), .ref (bm 6), .ref (bm 7), .ref (bm 8), .ref (bm 9), .int mi.2.2.2.1, .ref (bm 10), .ref (bm 11), .ref (bm 12), .ref (bm 13), .ref (bm 14), .ref (bm 15), .ref (bm 16), .ref (bm 17), .int mi.2.2.2.2.1, .int mi.2.2.2.2.2.1, .int mi.2.2.2.2.2.2.1, .int mi.2.2.2.2.2.2.2.1, .ref (bm 18), .ref (bm 19), .ref (bm 20), .ref (bm 21), .int mi.2.2.2.2.2.2.2.2])), ((bm 10), .inl (cI, 2, .inl e.1)), ((bm 11), .inl (cI, 2, .inl (upd e.2.1 d.toNatClampNeg 1))), ((bm 12), .inl (cI, 2, .inl e.2.2.1)), ((bm 13), .inl (cI, 2, .inl e.2.2.2.1)), ((bm 14), .inl (cI, 2, .inl e.2.2.2.2.1)), ((bm 15), .inl (cZ, 2, .inl e.2.2.2.2.2.1)), ((bm 16), .inl (cI, 2, .inl e.2.2.2.2.2.2.1)), ((bm 17), .inl (cI, 2, .inl e.2.2.2.2.2.2.2))] H locs := hw
                  refine lv_iload_n hx hb d_Md_fault_74 rfl (lv_at hl 2 rfl) ?_
                  refine lv_iconst (v := 1) hx hb d_Md_fault_75 (by decide) ?_
                  refine lv_icmp_le (tgt := 86) hx hb d_Md_fault_76 (by decide) (fun h10 => ?_) (fun h10 => ?_)
                  · refine lv_iconst (v := 1) hx hb d_Md_fault_86 (by decide) ?_
                    exact kx_ret_z I rfl hw (Or.inr rfl) (e.1, upd e.2.1 d.toNatClampNeg 1, e.2.2.1, e.2.2.2.1, e.2.2.2.2.1, e.2.2.2.2.2.1, e.2.2.2.2.2.2.1, e.2.2.2.2.2.2.2) ⟨(by simp only [f_Md_fault, if_neg h1, if_neg h2, if_neg h3, if_neg h4, if_neg h5, if_neg h6, if_neg h7, if_pos h8, if_pos h10]), (Or.inr rfl)⟩ [0, 1, 2, 3, 4, 5, 6, 7, 8] (by decide) rfl d_Md_fault_87
                  · refine lv_aload_n hx hb d_Md_fault_79 rfl (lv_at hl 0 rfl) ?_
                    refine kx_get S hw fg_Md_43 0 rfl rfl d_Md_fault_80 ?_
                    refine lv_iload_n hx hb d_Md_fault_83 rfl (lv_at hl 1 rfl) ?_
                    refine lv_iload_n hx hb d_Md_fault_84 rfl (lv_at hl 2 rfl) ?_
                    refine kx_iast S hw 3 0 rfl rfl (j := d.toNatClampNeg) rfl (by first | exact kx_i6 (N := 1) rfl h1 h2 | exact kx_i6 (N := 1) rfl h1 (Int32.not_lt.mpr h2)) d_Md_fault_85 (fun H locs hw => ?_)
                    have hw : kx_w D (kx_T cI cZ cO) A_ s_ [((bm 0), .inr (6, [.int mi.1, .int mi.2.1, .int mi.2.2.1, .ref (bm 1), .ref (bm 2), .ref (bm 3), .ref (bm 4), .ref (bm 5), .ref (bm 6), .ref (bm 7), .ref (bm 8), .ref (bm 9), .int mi.2.2.2.1, .ref (bm 10), .ref (bm 11), .ref (bm 12), .ref (bm 13), .ref (bm 14), .ref (bm 15), .ref (bm 16), .ref (bm 17), .int mi.2.2.2.2.1, .int mi.2.2.2.2.2.1, .int mi.2.2.2.2.2.2.1, .int mi.2.2.2.2.2.2.2.1, .ref (bm 18), .ref (bm 19), .ref (bm 20), .ref (bm 21), .int mi.2.2.2.2.2.2.2.2])), ((bm 10), .inl (cI, 2, .inl e.1)), ((bm 11), .inl (cI, 2, .inl (upd e.2.1 d.toNatClampNeg 1))), ((bm 12), .inl (cI, 2, .inl (upd e.2.2.1 d.toNatClampNeg k))), ((bm 13), .inl (cI, 2, .inl e.2.2.2.1)), ((bm 14), .inl (cI, 2, .inl e.2.2.2.2.1)), ((bm 15), .inl (cZ, 2, .inl e.2.2.2.2.2.1)), ((bm 16), .inl (cI, 2, .inl e.2.2.2.2.2.2.1)), ((bm 17), .inl (cI, 2, .inl e.2.2.2.2.2.2.2))] H locs := hw
                    refine lv_iconst (v := 1) hx hb d_Md_fault_86 (by decide) ?_
                    exact kx_ret_z I rfl hw (Or.inr rfl) (e.1, upd e.2.1 d.toNatClampNeg 1, upd e.2.2.1 d.toNatClampNeg k, e.2.2.2.1, e.2.2.2.2.1, e.2.2.2.2.2.1, e.2.2.2.2.2.2.1, e.2.2.2.2.2.2.2) ⟨(by simp only [f_Md_fault, if_neg h1, if_neg h2, if_neg h3, if_neg h4, if_neg h5, if_neg h6, if_neg h7, if_pos h8, if_neg h10]), (Or.inr rfl)⟩ [0, 1, 2, 3, 4, 5, 6, 7, 8] (by decide) rfl d_Md_fault_87
              · refine lv_aload_n hx hb d_Md_fault_48 rfl (lv_at hl 0 rfl) ?_
                refine kx_get S hw fg_Md_40 0 rfl rfl d_Md_fault_49 ?_
                refine lv_iload_n hx hb d_Md_fault_52 rfl (lv_at hl 1 rfl) ?_
                refine lv_iconst (v := 2) hx hb d_Md_fault_53 (by decide) ?_
                refine kx_iast S hw 2 0 rfl rfl (j := d.toNatClampNeg) rfl (by first | exact kx_i6 (N := 1) rfl h1 h2 | exact kx_i6 (N := 1) rfl h1 (Int32.not_lt.mpr h2)) d_Md_fault_54 (fun H locs hw => ?_)
                have hw : kx_w D (kx_T cI cZ cO) A_ s_ [((bm 0), .inr (6, [.int mi.1, .int mi.2.1, .int mi.2.2.1, .ref (bm 1), .ref (bm 2), .ref (bm 3), .ref (bm 4), .ref (bm 5), .ref (bm 6), .ref (bm 7), .ref (bm 8), .ref (bm 9), .int mi.2.2.2.1, .ref (bm 10), .ref (bm 11), .ref (bm 12), .ref (bm 13), .ref (bm 14), .ref (bm 15), .ref (bm 16), .ref (bm 17), .int mi.2.2.2.2.1, .int mi.2.2.2.2.2.1, .int mi.2.2.2.2.2.2.1, .int mi.2.2.2.2.2.2.2.1, .ref (bm 18), .ref (bm 19), .ref (bm 20), .ref (bm 21), .int mi.2.2.2.2.2.2.2.2])), ((bm 10), .inl (cI, 2, .inl e.1)), ((bm 11), .inl (cI, 2, .inl (upd e.2.1 d.toNatClampNeg 2))), ((bm 12), .inl (cI, 2, .inl e.2.2.1)), ((bm 13), .inl (cI, 2, .inl e.2.2.2.1)), ((bm 14), .inl (cI, 2, .inl e.2.2.2.2.1)), ((bm 15), .inl (cZ, 2, .inl e.2.2.2.2.2.1)), ((bm 16), .inl (cI, 2, .inl e.2.2.2.2.2.2.1)), ((bm 17), .inl (cI, 2, .inl e.2.2.2.2.2.2.2))] H locs := hw
                refine lv_aload_n hx hb d_Md_fault_55 rfl (lv_at hl 0 rfl) ?_
                refine kx_get S hw fg_Md_46 0 rfl rfl d_Md_fault_56 ?_
                refine lv_iload_n hx hb d_Md_fault_59 rfl (lv_at hl 1 rfl) ?_
                refine lv_iconst (v := (-1)) hx hb d_Md_fault_60 (by decide) ?_
                refine kx_iast S hw 4 0 rfl rfl (j := d.toNatClampNeg) rfl (by first | exact kx_i6 (N := 1) rfl h1 h2 | exact kx_i6 (N := 1) rfl h1 (Int32.not_lt.mpr h2)) d_Md_fault_61 (fun H locs hw => ?_)
                have hw : kx_w D (kx_T cI cZ cO) A_ s_ [((bm 0), .inr (6, [.int mi.1, .int mi.2.1, .int mi.2.2.1, .ref (bm 1), .ref (bm 2), .ref (bm 3), .ref (bm 4), .ref (bm 5), .ref (bm 6), .ref (bm 7), .ref (bm 8), .ref (bm 9), .int mi.2.2.2.1, .ref (bm 10), .ref (bm 11), .ref (bm 12), .ref (bm 13), .ref (bm 14), .ref (bm 15), .ref (bm 16), .ref (bm 17), .int mi.2.2.2.2.1, .int mi.2.2.2.2.2.1, .int mi.2.2.2.2.2.2.1, .int mi.2.2.2.2.2.2.2.1, .ref (bm 18), .ref (bm 19), .ref (bm 20), .ref (bm 21), .int mi.2.2.2.2.2.2.2.2])), ((bm 10), .inl (cI, 2, .inl e.1)), ((bm 11), .inl (cI, 2, .inl (upd e.2.1 d.toNatClampNeg 2))), ((bm 12), .inl (cI, 2, .inl e.2.2.1)), ((bm 13), .inl (cI, 2, .inl (upd e.2.2.2.1 d.toNatClampNeg (-1)))), ((bm 14), .inl (cI, 2, .inl e.2.2.2.2.1)), ((bm 15), .inl (cZ, 2, .inl e.2.2.2.2.2.1)), ((bm 16), .inl (cI, 2, .inl e.2.2.2.2.2.2.1)), ((bm 17), .inl (cI, 2, .inl e.2.2.2.2.2.2.2))] H locs := hw
                refine lv_iload_n hx hb d_Md_fault_62 rfl (lv_at hl 2 rfl) ?_
                refine lv_iconst (v := 1) hx hb d_Md_fault_63 (by decide) ?_
                refine lv_icmp_ne (tgt := 74) hx hb d_Md_fault_64 (by decide) (fun h11 => ?_) (fun h11 => ?_)
                · refine lv_iload_n hx hb d_Md_fault_74 rfl (lv_at hl 2 rfl) ?_
                  refine lv_iconst (v := 1) hx hb d_Md_fault_75 (by decide) ?_
                  refine lv_icmp_le (tgt := 86) hx hb d_Md_fault_76 (by decide) (fun h12 => ?_) (fun h12 => ?_)
                  · refine lv_iconst (v := 1) hx hb d_Md_fault_86 (by decide) ?_
                    exact kx_ret_z I rfl hw (Or.inr rfl) (e.1, upd e.2.1 d.toNatClampNeg 2, e.2.2.1, upd e.2.2.2.1 d.toNatClampNeg (-1), e.2.2.2.2.1, e.2.2.2.2.2.1, e.2.2.2.2.2.2.1, e.2.2.2.2.2.2.2) ⟨(by simp only [f_Md_fault, if_neg h1, if_neg h2, if_neg h3, if_neg h4, if_neg h5, if_neg h6, if_pos h7, if_neg h11, if_pos h12]), (Or.inr rfl)⟩ [0, 1, 2, 3, 4, 5, 6, 7, 8] (by decide) rfl d_Md_fault_87
                  · refine lv_aload_n hx hb d_Md_fault_79 rfl (lv_at hl 0 rfl) ?_
                    refine kx_get S hw fg_Md_43 0 rfl rfl d_Md_fault_80 ?_
                    refine lv_iload_n hx hb d_Md_fault_83 rfl (lv_at hl 1 rfl) ?_
                    refine lv_iload_n hx hb d_Md_fault_84 rfl (lv_at hl 2 rfl) ?_
                    refine kx_iast S hw 3 0 rfl rfl (j := d.toNatClampNeg) rfl (by first | exact kx_i6 (N := 1) rfl h1 h2 | exact kx_i6 (N := 1) rfl h1 (Int32.not_lt.mpr h2)) d_Md_fault_85 (fun H locs hw => ?_)
                    have hw : kx_w D (kx_T cI cZ cO) A_ s_ [((bm 0), .inr (6, [.int mi.1, .int mi.2.1, .int mi.2.2.1, .ref (bm 1), .ref (bm 2), .ref (bm 3), .ref (bm 4), .ref (bm 5), .ref (bm 6), .ref (bm 7), .ref (bm 8), .ref (bm 9), .int mi.2.2.2.1, .ref (bm 10), .ref (bm 11), .ref (bm 12), .ref (bm 13), .ref (bm 14), .ref (bm 15), .ref (bm 16), .ref (bm 17), .int mi.2.2.2.2.1, .int mi.2.2.2.2.2.1, .int mi.2.2.2.2.2.2.1, .int mi.2.2.2.2.2.2.2.1, .ref (bm 18), .ref (bm 19), .ref (bm 20), .ref (bm 21), .int mi.2.2.2.2.2.2.2.2])), ((bm 10), .inl (cI, 2, .inl e.1)), ((bm 11), .inl (cI, 2, .inl (upd e.2.1 d.toNatClampNeg 2))), ((bm 12), .inl (cI, 2, .inl (upd e.2.2.1 d.toNatClampNeg k))), ((bm 13), .inl (cI, 2, .inl (upd e.2.2.2.1 d.toNatClampNeg (-1)))), ((bm 14), .inl (cI, 2, .inl e.2.2.2.2.1)), ((bm 15), .inl (cZ, 2, .inl e.2.2.2.2.2.1)), ((bm 16), .inl (cI, 2, .inl e.2.2.2.2.2.2.1)), ((bm 17), .inl (cI, 2, .inl e.2.2.2.2.2.2.2))] H locs := hw
                    refine lv_iconst (v := 1) hx hb d_Md_fault_86 (by decide) ?_
                    exact kx_ret_z I rfl hw (Or.inr rfl) (e.1, upd e.2.1 d.toNatClampNeg 2, upd e.2.2.1 d.toNatClampNeg k, upd e.2.2.2.1 d.toNatClampNeg (-1), e.2.2.2.2.1, e.2.2.2.2.2.1, e.2.2.2.2.2.2.1, e.2.2.2.2.2.2.2) ⟨(by simp only [f_Md_fault, if_neg h1, if_neg h2, if_neg h3, if_neg h4, if_neg h5, if_neg h6, if_pos h7, if_neg h11, if_neg h12]), (Or.inr rfl)⟩ [0, 1, 2, 3, 4, 5, 6, 7, 8] (by decide) rfl d_Md_fault_87
                · refine lv_aload_n hx hb d_Md_fault_67 rfl (lv_at hl 0 rfl) ?_
                  refine kx_get S hw fg_Md_40 0 rfl rfl d_Md_fault_68 ?_
                  refine lv_iload_n hx hb d_Md_fault_71 rfl (lv_at hl 1 rfl) ?_
                  refine lv_iconst (v := 1) hx hb d_Md_fault_72 (by decide) ?_
                  refine kx_iast S hw 2 0 rfl rfl (j := d.toNatClampNeg) rfl (by first | exact kx_i6 (N := 1) rfl h1 h2 | exact kx_i6 (N := 1) rfl h1 (Int32.not_lt.mpr h2)) d_Md_fault_73 (fun H locs hw => ?_)
                  have hw : kx_w D (kx_T cI cZ cO) A_ s_ [((bm 0), .inr (6, [.int mi.1, .int mi.2.1, .int mi.2.2.1, .ref (bm 1), .ref (bm 2), .ref (bm 3), .ref (bm 4), .ref (bm 5), .ref (bm 6), .ref (bm 7), .ref (bm 8), .ref (bm 9), .int mi.2.2.2.1, .ref (bm 10), .ref (bm 11), .ref (bm 12), .ref (bm 13), .ref (bm 14), .ref (bm 15), .ref (bm 16), .ref (bm 17), .int mi.2.2.2.2.1, .int mi.2.2.2.2.2.1, .int mi.2.2.2.2.2.2.1, .int mi.2.2.2.2.2.2.2.1, .ref (bm 18), .ref (bm 19), .ref (bm 20), .ref (bm 21), .int mi.2.2.2.2.2.2.2.2])), ((bm 10), .inl (cI, 2, .inl e.1)), ((bm 11), .inl (cI, 2, .inl (upd (upd e.2.1 d.toNatClampNeg 2) d.toNatClampNeg 1))), ((bm 12), .inl (cI, 2, .inl e.2.2.1)), ((bm 13), .inl (cI, 2, .inl (upd e.2.2.2.1 d.toNatClampNeg (-1)))), ((bm 14), .inl (cI, 2, .inl e.2.2.2.2.1)), ((bm 15), .inl (cZ, 2, .inl e.2.2.2.2.2.1)), ((bm 16), .inl (cI, 2, .inl e.2.2.2.2.2.2.1)), ((bm 17), .inl (cI, 2, .inl e.2.2.2.2.2.2.2))] H locs := hw
                  refine lv_iload_n hx hb d_Md_fault_74 rfl (lv_at hl 2 rfl) ?_
                  refine lv_iconst (v := 1) hx hb d_Md_fault_75 (by decide) ?_
                  refine lv_icmp_le (tgt := 86) hx hb d_Md_fault_76 (by decide) (fun h13 => ?_) (fun h13 => ?_)
                  · refine lv_iconst (v := 1) hx hb d_Md_fault_86 (by decide) ?_
                    exact kx_ret_z I rfl hw (Or.inr rfl) (e.1, upd (upd e.2.1 d.toNatClampNeg 2) d.toNatClampNeg 1, e.2.2.1, upd e.2.2.2.1 d.toNatClampNeg (-1), e.2.2.2.2.1, e.2.2.2.2.2.1, e.2.2.2.2.2.2.1, e.2.2.2.2.2.2.2) ⟨(by simp only [f_Md_fault, if_neg h1, if_neg h2, if_neg h3, if_neg h4, if_neg h5, if_neg h6, if_pos h7, if_pos h11, if_pos h13]), (Or.inr rfl)⟩ [0, 1, 2, 3, 4, 5, 6, 7, 8] (by decide) rfl d_Md_fault_87
                  · refine lv_aload_n hx hb d_Md_fault_79 rfl (lv_at hl 0 rfl) ?_
                    refine kx_get S hw fg_Md_43 0 rfl rfl d_Md_fault_80 ?_
                    refine lv_iload_n hx hb d_Md_fault_83 rfl (lv_at hl 1 rfl) ?_
                    refine lv_iload_n hx hb d_Md_fault_84 rfl (lv_at hl 2 rfl) ?_
                    refine kx_iast S hw 3 0 rfl rfl (j := d.toNatClampNeg) rfl (by first | exact kx_i6 (N := 1) rfl h1 h2 | exact kx_i6 (N := 1) rfl h1 (Int32.not_lt.mpr h2)) d_Md_fault_85 (fun H locs hw => ?_)
                    have hw : kx_w D (kx_T cI cZ cO) A_ s_ [((bm 0), .inr (6, [.int mi.1, .int mi.2.1, .int mi.2.2.1, .ref (bm 1), .ref (bm 2), .ref (bm 3), .ref (bm 4), .ref (bm 5), .ref (bm 6), .ref (bm 7), .ref (bm 8), .ref (bm 9), .int mi.2.2.2.1, .ref (bm 10), .ref (bm 11), .ref (bm 12), .ref (bm 13), .ref (bm 14), .ref (bm 15), .ref (bm 16), .ref (bm 17), .int mi.2.2.2.2.1, .int mi.2.2.2.2.2.1, .int mi.2.2.2.2.2.2.1, .int mi.2.2.2.2.2.2.2.1, .ref (bm 18), .ref (bm 19), .ref (bm 20), .ref (bm 21), .int mi.2.2.2.2.2.2.2.2])), ((bm 10), .inl (cI, 2, .inl e.1)), ((bm 11), .inl (cI, 2, .inl (upd (upd e.2.1 d.toNatClampNeg 2) d.toNatClampNeg 1))), ((bm 12), .inl (cI, 2, .inl (upd e.2.2.1 d.toNatClampNeg k))), ((bm 13), .inl (cI, 2, .inl (upd e.2.2.2.1 d.toNatClampNeg (-1)))), ((bm 14), .inl (cI, 2, .inl e.2.2.2.2.1)), ((bm 15), .inl (cZ, 2, .inl e.2.2.2.2.2.1)), ((bm 16), .inl (cI, 2, .inl e.2.2.2.2.2.2.1)), ((bm 17), .inl (cI, 2, .inl e.2.2.2.2.2.2.2))] H locs := hw
                    refine lv_iconst (v := 1) hx hb d_Md_fault_86 (by decide) ?_
                    exact kx_ret_z I rfl hw (Or.inr rfl) (e.1, upd (upd e.2.1 d.toNatClampNeg 2) d.toNatClampNeg 1, upd e.2.2.1 d.toNatClampNeg k, upd e.2.2.2.1 d.toNatClampNeg (-1), e.2.2.2.2.1, e.2.2.2.2.2.1, e.2.2.2.2.2.2.1, e.2.2.2.2.2.2.2) ⟨(by simp only [f_Md_fault, if_neg h1, if_neg h2, if_neg h3, if_neg h4, if_neg h5, if_neg h6, if_pos h7, if_pos h11, if_neg h13]), (Or.inr rfl)⟩ [0, 1, 2, 3, 4, 5, 6, 7, 8] (by decide) rfl d_Md_fault_87
            · refine lv_iload_n hx hb d_Md_fault_38 rfl (lv_at hl 2 rfl) ?_
              refine lv_if_eq (tgt := 44) hx hb d_Md_fault_39 (by decide) (fun h14 => ?_) (fun h14 => ?_)
              · refine lv_iload_n hx hb d_Md_fault_44 rfl (lv_at hl 2 rfl) ?_
                refine lv_if_ne (tgt := 62) hx hb d_Md_fault_45 (by decide) (fun h => absurd h14 h) (fun _ => ?_)
                refine lv_aload_n hx hb d_Md_fault_48 rfl (lv_at hl 0 rfl) ?_
                refine kx_get S hw fg_Md_40 0 rfl rfl d_Md_fault_49 ?_
                refine lv_iload_n hx hb d_Md_fault_52 rfl (lv_at hl 1 rfl) ?_
                refine lv_iconst (v := 2) hx hb d_Md_fault_53 (by decide) ?_
                refine kx_iast S hw 2 0 rfl rfl (j := d.toNatClampNeg) rfl (by first | exact kx_i6 (N := 1) rfl h1 h2 | exact kx_i6 (N := 1) rfl h1 (Int32.not_lt.mpr h2)) d_Md_fault_54 (fun H locs hw => ?_)
                have hw : kx_w D (kx_T cI cZ cO) A_ s_ [((bm 0), .inr (6, [.int mi.1, .int mi.2.1, .int mi.2.2.1, .ref (bm 1), .ref (bm 2), .ref (bm 3), .ref (bm 4), .ref (bm 5), .ref (bm 6), .ref (bm 7), .ref (bm 8), .ref (bm 9), .int mi.2.2.2.1, .ref (bm 10), .ref (bm 11), .ref (bm 12), .ref (bm 13), .ref (bm 14), .ref (bm 15), .ref (bm 16), .ref (bm 17), .int mi.2.2.2.2.1, .int mi.2.2.2.2.2.1, .int mi.2.2.2.2.2.2.1, .int mi.2.2.2.2.2.2.2.1, .ref (bm 18), .ref (bm 19), .ref (bm 20), .ref (bm 21), .int mi.2.2.2.2.2.2.2.2])), ((bm 10), .inl (cI, 2, .inl e.1)), ((bm 11), .inl (cI, 2, .inl (upd e.2.1 d.toNatClampNeg 2))), ((bm 12), .inl (cI, 2, .inl e.2.2.1)), ((bm 13), .inl (cI, 2, .inl e.2.2.2.1)), ((bm 14), .inl (cI, 2, .inl e.2.2.2.2.1)), ((bm 15), .inl (cZ, 2, .inl e.2.2.2.2.2.1)), ((bm 16), .inl (cI, 2, .inl e.2.2.2.2.2.2.1)), ((bm 17), .inl (cI, 2, .inl e.2.2.2.2.2.2.2))] H locs := hw
                refine lv_aload_n hx hb d_Md_fault_55 rfl (lv_at hl 0 rfl) ?_
                refine kx_get S hw fg_Md_46 0 rfl rfl d_Md_fault_56 ?_
                refine lv_iload_n hx hb d_Md_fault_59 rfl (lv_at hl 1 rfl) ?_
                refine lv_iconst (v := (-1)) hx hb d_Md_fault_60 (by decide) ?_
                refine kx_iast S hw 4 0 rfl rfl (j := d.toNatClampNeg) rfl (by first | exact kx_i6 (N := 1) rfl h1 h2 | exact kx_i6 (N := 1) rfl h1 (Int32.not_lt.mpr h2)) d_Md_fault_61 (fun H locs hw => ?_)
                have hw : kx_w D (kx_T cI cZ cO) A_ s_ [((bm 0), .inr (6, [.int mi.1, .int mi.2.1, .int mi.2.2.1, .ref (bm 1), .ref (bm 2), .ref (bm 3), .ref (bm 4), .ref (bm 5), .ref (bm 6), .ref (bm 7), .ref (bm 8), .ref (bm 9), .int mi.2.2.2.1, .ref (bm 10), .ref (bm 11), .ref (bm 12), .ref (bm 13), .ref (bm 14), .ref (bm 15), .ref (bm 16), .ref (bm 17), .int mi.2.2.2.2.1, .int mi.2.2.2.2.2.1, .int mi.2.2.2.2.2.2.1, .int mi.2.2.2.2.2.2.2.1, .ref (bm 18), .ref (bm 19), .ref (bm 20), .ref (bm 21), .int mi.2.2.2.2.2.2.2.2])), ((bm 10), .inl (cI, 2, .inl e.1)), ((bm 11), .inl (cI, 2, .inl (upd e.2.1 d.toNatClampNeg 2))), ((bm 12), .inl (cI, 2, .inl e.2.2.1)), ((bm 13), .inl (cI, 2, .inl (upd e.2.2.2.1 d.toNatClampNeg (-1)))), ((bm 14), .inl (cI, 2, .inl e.2.2.2.2.1)), ((bm 15), .inl (cZ, 2, .inl e.2.2.2.2.2.1)), ((bm 16), .inl (cI, 2, .inl e.2.2.2.2.2.2.1)), ((bm 17), .inl (cI, 2, .inl e.2.2.2.2.2.2.2))] H locs := hw
                refine lv_iload_n hx hb d_Md_fault_62 rfl (lv_at hl 2 rfl) ?_
                refine lv_iconst (v := 1) hx hb d_Md_fault_63 (by decide) ?_
                refine lv_icmp_ne (tgt := 74) hx hb d_Md_fault_64 (by decide) (fun h15 => ?_) (fun h15 => ?_)
                · refine lv_iload_n hx hb d_Md_fault_74 rfl (lv_at hl 2 rfl) ?_
                  refine lv_iconst (v := 1) hx hb d_Md_fault_75 (by decide) ?_
                  refine lv_icmp_le (tgt := 86) hx hb d_Md_fault_76 (by decide) (fun h16 => ?_) (fun h16 => ?_)
                  · refine lv_iconst (v := 1) hx hb d_Md_fault_86 (by decide) ?_
                    exact kx_ret_z I rfl hw (Or.inr rfl) (e.1, upd e.2.1 d.toNatClampNeg 2, e.2.2.1, upd e.2.2.2.1 d.toNatClampNeg (-1), e.2.2.2.2.1, e.2.2.2.2.2.1, e.2.2.2.2.2.2.1, e.2.2.2.2.2.2.2) ⟨(by simp only [f_Md_fault, if_neg h1, if_neg h2, if_neg h3, if_neg h4, if_neg h5, if_pos h6, if_pos h14, if_neg h15, if_pos h16]), (Or.inr rfl)⟩ [0, 1, 2, 3, 4, 5, 6, 7, 8] (by decide) rfl d_Md_fault_87
                  · refine lv_aload_n hx hb d_Md_fault_79 rfl (lv_at hl 0 rfl) ?_
                    refine kx_get S hw fg_Md_43 0 rfl rfl d_Md_fault_80 ?_
                    refine lv_iload_n hx hb d_Md_fault_83 rfl (lv_at hl 1 rfl) ?_
                    refine lv_iload_n hx hb d_Md_fault_84 rfl (lv_at hl 2 rfl) ?_
                    refine kx_iast S hw 3 0 rfl rfl (j := d.toNatClampNeg) rfl (by first | exact kx_i6 (N := 1) rfl h1 h2 | exact kx_i6 (N := 1) rfl h1 (Int32.not_lt.mpr h2)) d_Md_fault_85 (fun H locs hw => ?_)
                    have hw : kx_w D (kx_T cI cZ cO) A_ s_ [((bm 0), .inr (6, [.int mi.1, .int mi.2.1, .int mi.2.2.1, .ref (bm 1), .ref (bm 2), .ref (bm 3), .ref (bm 4), .ref (bm 5), .ref (bm 6), .ref (bm 7), .ref (bm 8), .ref (bm 9), .int mi.2.2.2.1, .ref (bm 10), .ref (bm 11), .ref (bm 12), .ref (bm 13), .ref (bm 14), .ref (bm 15), .ref (bm 16), .ref (bm 17), .int mi.2.2.2.2.1, .int mi.2.2.2.2.2.1, .int mi.2.2.2.2.2.2.1, .int mi.2.2.2.2.2.2.2.1, .ref (bm 18), .ref (bm 19), .ref (bm 20), .ref (bm 21), .int mi.2.2.2.2.2.2.2.2])), ((bm 10), .inl (cI, 2, .inl e.1)), ((bm 11), .inl (cI, 2, .inl (upd e.2.1 d.toNatClampNeg 2))), ((bm 12), .inl (cI, 2, .inl (upd e.2.2.1 d.toNatClampNeg k))), ((bm 13), .inl (cI, 2, .inl (upd e.2.2.2.1 d.toNatClampNeg (-1)))), ((bm 14), .inl (cI, 2, .inl e.2.2.2.2.1)), ((bm 15), .inl (cZ, 2, .inl e.2.2.2.2.2.1)), ((bm 16), .inl (cI, 2, .inl e.2.2.2.2.2.2.1)), ((bm 17), .inl (cI, 2, .inl e.2.2.2.2.2.2.2))] H locs := hw
                    refine lv_iconst (v := 1) hx hb d_Md_fault_86 (by decide) ?_
                    exact kx_ret_z I rfl hw (Or.inr rfl) (e.1, upd e.2.1 d.toNatClampNeg 2, upd e.2.2.1 d.toNatClampNeg k, upd e.2.2.2.1 d.toNatClampNeg (-1), e.2.2.2.2.1, e.2.2.2.2.2.1, e.2.2.2.2.2.2.1, e.2.2.2.2.2.2.2) ⟨(by simp only [f_Md_fault, if_neg h1, if_neg h2, if_neg h3, if_neg h4, if_neg h5, if_pos h6, if_pos h14, if_neg h15, if_neg h16]), (Or.inr rfl)⟩ [0, 1, 2, 3, 4, 5, 6, 7, 8] (by decide) rfl d_Md_fault_87
                · refine lv_aload_n hx hb d_Md_fault_67 rfl (lv_at hl 0 rfl) ?_
                  refine kx_get S hw fg_Md_40 0 rfl rfl d_Md_fault_68 ?_
                  refine lv_iload_n hx hb d_Md_fault_71 rfl (lv_at hl 1 rfl) ?_
                  refine lv_iconst (v := 1) hx hb d_Md_fault_72 (by decide) ?_
                  refine kx_iast S hw 2 0 rfl rfl (j := d.toNatClampNeg) rfl (by first | exact kx_i6 (N := 1) rfl h1 h2 | exact kx_i6 (N := 1) rfl h1 (Int32.not_lt.mpr h2)) d_Md_fault_73 (fun H locs hw => ?_)
                  have hw : kx_w D (kx_T cI cZ cO) A_ s_ [((bm 0), .inr (6, [.int mi.1, .int mi.2.1, .int mi.2.2.1, .ref (bm 1), .ref (bm 2), .ref (bm 3), .ref (bm 4), .ref (bm 5), .ref (bm 6), .ref (bm 7), .ref (bm 8), .ref (bm 9), .int mi.2.2.2.1, .ref (bm 10), .ref (bm 11), .ref (bm 12), .ref (bm 13), .ref (bm 14), .ref (bm 15), .ref (bm 16), .ref (bm 17), .int mi.2.2.2.2.1, .int mi.2.2.2.2.2.1, .int mi.2.2.2.2.2.2.1, .int mi.2.2.2.2.2.2.2.1, .ref (bm 18), .ref (bm 19), .ref (bm 20), .ref (bm 21), .int mi.2.2.2.2.2.2.2.2])), ((bm 10), .inl (cI, 2, .inl e.1)), ((bm 11), .inl (cI, 2, .inl (upd (upd e.2.1 d.toNatClampNeg 2) d.toNatClampNeg 1))), ((bm 12), .inl (cI, 2, .inl e.2.2.1)), ((bm 13), .inl (cI, 2, .inl (upd e.2.2.2.1 d.toNatClampNeg (-1)))), ((bm 14), .inl (cI, 2, .inl e.2.2.2.2.1)), ((bm 15), .inl (cZ, 2, .inl e.2.2.2.2.2.1)), ((bm 16), .inl (cI, 2, .inl e.2.2.2.2.2.2.1)), ((bm 17), .inl (cI, 2, .inl e.2.2.2.2.2.2.2))] H locs := hw
                  refine lv_iload_n hx hb d_Md_fault_74 rfl (lv_at hl 2 rfl) ?_
                  refine lv_iconst (v := 1) hx hb d_Md_fault_75 (by decide) ?_
                  refine lv_icmp_le (tgt := 86) hx hb d_Md_fault_76 (by decide) (fun h17 => ?_) (fun h17 => ?_)
                  · refine lv_iconst (v := 1) hx hb d_Md_fault_86 (by decide) ?_
                    exact kx_ret_z I rfl hw (Or.inr rfl) (e.1, upd (upd e.2.1 d.toNatClampNeg 2) d.toNatClampNeg 1, e.2.2.1, upd e.2.2.2.1 d.toNatClampNeg (-1), e.2.2.2.2.1, e.2.2.2.2.2.1, e.2.2.2.2.2.2.1, e.2.2.2.2.2.2.2) ⟨(by simp only [f_Md_fault, if_neg h1, if_neg h2, if_neg h3, if_neg h4, if_neg h5, if_pos h6, if_pos h14, if_pos h15, if_pos h17]), (Or.inr rfl)⟩ [0, 1, 2, 3, 4, 5, 6, 7, 8] (by decide) rfl d_Md_fault_87
                  · refine lv_aload_n hx hb d_Md_fault_79 rfl (lv_at hl 0 rfl) ?_
                    refine kx_get S hw fg_Md_43 0 rfl rfl d_Md_fault_80 ?_
                    refine lv_iload_n hx hb d_Md_fault_83 rfl (lv_at hl 1 rfl) ?_
                    refine lv_iload_n hx hb d_Md_fault_84 rfl (lv_at hl 2 rfl) ?_
                    refine kx_iast S hw 3 0 rfl rfl (j := d.toNatClampNeg) rfl (by first | exact kx_i6 (N := 1) rfl h1 h2 | exact kx_i6 (N := 1) rfl h1 (Int32.not_lt.mpr h2)) d_Md_fault_85 (fun H locs hw => ?_)
                    have hw : kx_w D (kx_T cI cZ cO) A_ s_ [((bm 0), .inr (6, [.int mi.1, .int mi.2.1, .int mi.2.2.1, .ref (bm 1), .ref (bm 2), .ref (bm 3), .ref (bm 4), .ref (bm 5), .ref (bm 6), .ref (bm 7), .ref (bm 8), .ref (bm 9), .int mi.2.2.2.1, .ref (bm 10), .ref (bm 11), .ref (bm 12), .ref (bm 13), .ref (bm 14), .ref (bm 15), .ref (bm 16), .ref (bm 17), .int mi.2.2.2.2.1, .int mi.2.2.2.2.2.1, .int mi.2.2.2.2.2.2.1, .int mi.2.2.2.2.2.2.2.1, .ref (bm 18), .ref (bm 19), .ref (bm 20), .ref (bm 21), .int mi.2.2.2.2.2.2.2.2])), ((bm 10), .inl (cI, 2, .inl e.1)), ((bm 11), .inl (cI, 2, .inl (upd (upd e.2.1 d.toNatClampNeg 2) d.toNatClampNeg 1))), ((bm 12), .inl (cI, 2, .inl (upd e.2.2.1 d.toNatClampNeg k))), ((bm 13), .inl (cI, 2, .inl (upd e.2.2.2.1 d.toNatClampNeg (-1)))), ((bm 14), .inl (cI, 2, .inl e.2.2.2.2.1)), ((bm 15), .inl (cZ, 2, .inl e.2.2.2.2.2.1)), ((bm 16), .inl (cI, 2, .inl e.2.2.2.2.2.2.1)), ((bm 17), .inl (cI, 2, .inl e.2.2.2.2.2.2.2))] H locs := hw
                    refine lv_iconst (v := 1) hx hb d_Md_fault_86 (by decide) ?_
                    exact kx_ret_z I rfl hw (Or.inr rfl) (e.1, upd (upd e.2.1 d.toNatClampNeg 2) d.toNatClampNeg 1, upd e.2.2.1 d.toNatClampNeg k, upd e.2.2.2.1 d.toNatClampNeg (-1), e.2.2.2.2.1, e.2.2.2.2.2.1, e.2.2.2.2.2.2.1, e.2.2.2.2.2.2.2) ⟨(by simp only [f_Md_fault, if_neg h1, if_neg h2, if_neg h3, if_neg h4, if_neg h5, if_pos h6, if_pos h14, if_pos h15, if_neg h17]), (Or.inr rfl)⟩ [0, 1, 2, 3, 4, 5, 6, 7, 8] (by decide) rfl d_Md_fault_87
              · refine lv_iconst (v := 0) hx hb d_Md_fault_42 (by decide) ?_
                exact kx_ret_z I rfl hw (Or.inl rfl) e ⟨(by simp only [f_Md_fault, if_neg h1, if_neg h2, if_neg h3, if_neg h4, if_neg h5, if_pos h6, if_neg h14]), (Or.inl rfl)⟩ [0, 1, 2, 3, 4, 5, 6, 7, 8] (by decide) rfl d_Md_fault_43
