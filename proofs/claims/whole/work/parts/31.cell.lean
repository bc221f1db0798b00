theorem mm_432 : Cond.code ⟨"RebornDriversLaw", "cell", "([II)I"⟩ method_2_code 2 (some .int) ∈ kx_tbl := List.mem_filter.mpr ⟨List.mem_append_right _ (List.mem_of_getElem? (i := 432) (by decide +kernel)), by decide +kernel⟩
theorem mm_0 : Cond.initialized "RebornDriversLaw" ∈ kx_tbl := List.mem_filter.mpr ⟨List.mem_append_right _ (List.mem_of_getElem? (i := 0) (by decide +kernel)), by decide +kernel⟩
theorem mm_430 : Cond.methodLink "RebornDriversLaw" 9 ⟨"RebornDriversLaw", "cell", "([II)I"⟩ ∈ kx_tbl := List.mem_filter.mpr ⟨List.mem_append_right _ (List.mem_of_getElem? (i := 430) (by decide +kernel)), by decide +kernel⟩
theorem mm_431 : Cond.static ⟨"RebornDriversLaw", "cell", "([II)I"⟩ ∈ kx_tbl := List.mem_filter.mpr ⟨List.mem_append_right _ (List.mem_of_getElem? (i := 431) (by decide +kernel)), by decide +kernel⟩
theorem fc_Lw_9 : kx_m "RebornDriversLaw" 9 y_Lw_cell b_Lw_cell 2 (some .int) 2 ∧ Cond.static y_Lw_cell ∈ kx_tbl := ⟨⟨mm_432, mm_0, by decide +kernel, Or.inl mm_430⟩, mm_431⟩
/-! the law's own helper, and its start -/
set_option maxHeartbeats 4000000 in
/-- cell(script, 0) -/
theorem c_Lw_cell (l : Launch) (b L : Nat) (xs : Nat → Int32) (hL : L ≤ 2049) : Met l y_Lw_cell (Cond.code y_Lw_cell b_Lw_cell 2 (some .int) :: kx_tbl) (kx_R 0 0 0) (va_Pc [.ref b, .int 0] (fun U => va_X b L xs U U.heap ∧ b < U.heap.size)) (va_Qi (S := Unit) (fun r _ => r = if L = 0 then 0 else xs 0) (fun _ _ => True) (fun _ => False)) 0 0 (fun _ => False) := by
  refine Met.ofW (cc := b_Lw_cell) (maxL := 2) (ret := some .int) (by decide) rfl ?_
  intro p e s m args below meth c s₁ B hml hv
  obtain ⟨rfl, hX, hbl⟩ := hv
  have hx := B.exec
  have hb := B.bytes
  have hr := B.returns
  have hlocks := B.notSynchronized
  have hl := lv_entry [.ref b, .int 0] (n := 2) (Nat.le_of_ble_eq_true rfl)
  rw [lg_entry_eq]
  generalize (lg_sl [.ref b, .int 0] ++ List.replicate (2 - (lg_sl [.ref b, .int 0]).length) Slot.unset).toArray = ls at hl ⊢
  have hl : lv_has ls 2 [(0, .ref b), (1, .int 0)] := hl
  have hS : va_S (fun _ => False) s.heap s.heap [] := va_S.rf
  refine lv_iload_n hx hb d_Lw_cell_0 rfl (lv_at hl 1 rfl) ?_
  refine lv_aload_n hx hb d_Lw_cell_1 rfl (lv_at hl 0 rfl) ?_
  refine va_slen hx hb hX hbl (fun h => h) hS d_Lw_cell_2 ?_
  refine lv_icmp_ge (tgt := 12) hx hb d_Lw_cell_3 (by decide) (fun h => ?_) (fun h => ?_)
  · refine lv_iconst (v := 0) hx hb d_Lw_cell_12 (by decide) ?_
    have h0 : L = 0 := by
      have h1 : nI L ≤ nI 0 := h
      rw [nI_leI (by omega) (by decide)] at h1
      omega
    exact W.iret (v := 0) hx hb hr (fun t ht hW => ⟨⟨0, (), rfl, by rw [if_pos h0], trivial⟩, hS.F ht⟩) hS.2.2 d_Lw_cell_13 hlocks
  · have h0 : ¬ L = 0 := by
      intro e0
      subst e0
      exact h (by decide)
    refine lv_aload_n hx hb d_Lw_cell_6 rfl (lv_at hl 0 rfl) ?_
    refine lv_iload_n hx hb d_Lw_cell_7 rfl (lv_at hl 1 rfl) ?_
    refine va_sld hx hb hX hbl (fun h => h) hS (show vp_in (nI 0) L from vp_in_nI (by omega) (by omega)) d_Lw_cell_8 ?_
    refine lv_goto (tgt := 13) hx hb d_Lw_cell_9 (by decide) ?_
    exact W.iret (v := xs 0) hx hb hr (fun t ht hW => ⟨⟨xs 0, (), rfl, by rw [if_neg h0], trivial⟩, hS.F ht⟩) hS.2.2 d_Lw_cell_13 hlocks
theorem kx_cell {p : Program} {l : Launch} {e : Env} {s : State} {m : MethodId} {below : List Frame} {meth : Method} {c : Code} {H : Heap} {locs : List Loc} {cells slots pc : Nat} {Q : State → Prop} {ls : Array Slot} {rest : List Value} {D : va_G} {A : Nat → Prop} {tys : List (ClassId × FieldType)} {ws : va_W} {b L : Nat} {xs : Nat → Int32} (S : CallFix p m c code 4 s #[Value.ref b] kx_tbl "RebornDriversLaw") (hL : L ≤ 2049) (X : va_X b L xs s s.heap ∧ b < s.heap.size ∧ ¬ A b) (hw : kx_w D tys A s ws H locs) (hsz : ls.size = 4) (hc : cells ≤ room_1.cells) (hs : slots ≤ room_1.slots) (hsum : (rest.map fun v => v.category).sum ≤ 8) (hdg : decode code pc = .ok (.invokestatic 9, 3))
    (kk : ∀ (H1 : Heap) (locs1 : List Loc), kx_w D tys A s ws H1 locs1 → W p l e room_1 s m #[Value.ref b] below meth c H1 locs1 cells slots Q (F0 m (pc + 3) ls (.int (if L = 0 then 0 else xs 0) :: rest))) : W p l e room_1 s m #[Value.ref b] below meth c H locs cells slots Q (F0 m pc ls (.int 0 :: .ref b :: rest)) := by
  obtain ⟨⟨f1, f2, f3, f4⟩, f5⟩ := fc_Lw_9
  have hts := S.2.2.2.2
  have hXH : va_X b L xs s H := X.1.kept (hw.2.2.2.1.2.1 b X.2.1 X.2.2)
  have hbH : b < H.size := Nat.lt_of_lt_of_le X.2.1 hw.2.2.2.1.1
  have hpre : PreS s H (va_Pc [.ref b, .int 0] (fun U => va_X b L xs U U.heap ∧ b < U.heap.size)) [.ref b, .int 0] := ⟨fun a U g mk q => ⟨q.1, q.2.1.moved (u := U) (U := U.calling g mk a) (Vm.Alike.refl U.vm), q.2.2⟩, fun U hU hW => ⟨rfl, by rw [hU]; exact hXH.moved hW.alike, by rw [hU]; exact hbH⟩⟩
  have f4 : Cond.methodLink "RebornDriversLaw" 9 y_Lw_cell ∈ kx_tbl := mm_430
  refine va_calli (va_runS S (c_Lw_cell l b L xs hL) ⟨callB_of 2 hts (kx_good f1) rfl rfl rfl (hts _ f2) (hts _ f4) f3 (by decide), hts _ f5⟩ hpre (rest := rest) rfl rfl hsz rfl (lv_room hsum) hdg ⟨hc, hs⟩) hw.2.2.2.1 (fun q _ h => h.elim) (fun q h => h.elim) (fun r u t H1 locs1 ht hvm hp hB hz hk hS => ?_)
  rw [hp]
  exact kk H1 locs1 ⟨hw.1, hw.2.1.kept (fun k q hq => hk q.1 ((hw.2.1 k q hq).lt) (fun h => h)), hw.2.2.1, hS, hw.2.2.2.2⟩
