theorem lw_ar {L t : Nat} (hL : L ≤ 2049) (ht : t ≤ 512) (h : ¬ (Int32.ofNat L - 4) < nI (1 + 4 * t)) : 4 * t + 5 ≤ L := by
  rw [Int32.lt_iff_toInt_lt] at h
  have a : (Int32.ofNat L - 4).toInt = (L : Int) - 4 := pk_sub_toInt (a := L) (b := 4) (by omega) (by decide)
  rw [a, nI_toInt (by omega)] at h
  omega
theorem lw_in {L t : Nat} (k : Nat) (hk : k ≤ 3) (hL : L ≤ 2049) (h : 4 * t + 5 ≤ L) : vp_in (nI (1 + 4 * t) + nI k) L := by
  rw [nI_add]
  exact vp_in_nI (by omega) (by omega)
theorem lw_in0 {L t : Nat} (hL : L ≤ 2049) (h : 4 * t + 5 ≤ L) : vp_in (nI (1 + 4 * t)) L := vp_in_nI (by omega) (by omega)
theorem lw_nx (t : Nat) : nI (1 + 4 * t) + Int32.ofInt 4 = nI (1 + 4 * (t + 1)) := by
  rw [show Int32.ofInt 4 = nI 4 by decide, nI_add]
  have e : 1 + 4 * t + 4 = 1 + 4 * (t + 1) := by omega
  rw [e]
theorem kx_sw15 {x : Int32} (h0 : ¬ x = 0) (h1 : ¬ x = 1) (h2 : ¬ x = 2) (h3 : ¬ x = 3) (h4 : ¬ x = 4) (h5 : ¬ x = 5) (h6 : ¬ x = 6) (h7 : ¬ x = 7) (h8 : ¬ x = 8) (h9 : ¬ x = 9) (h10 : ¬ x = 10) (h11 : ¬ x = 11) (h12 : ¬ x = 12) (h13 : ¬ x = 13) (h14 : ¬ x = 14) : x.toInt < 0 ∨ 14 < x.toInt := by
  have a0 := kx_ne h0
  rw [show (0 : Int32).toInt = 0 from rfl] at a0
  have a1 := kx_ne h1
  rw [show (1 : Int32).toInt = 1 from rfl] at a1
  have a2 := kx_ne h2
  rw [show (2 : Int32).toInt = 2 from rfl] at a2
  have a3 := kx_ne h3
  rw [show (3 : Int32).toInt = 3 from rfl] at a3
  have a4 := kx_ne h4
  rw [show (4 : Int32).toInt = 4 from rfl] at a4
  have a5 := kx_ne h5
  rw [show (5 : Int32).toInt = 5 from rfl] at a5
  have a6 := kx_ne h6
  rw [show (6 : Int32).toInt = 6 from rfl] at a6
  have a7 := kx_ne h7
  rw [show (7 : Int32).toInt = 7 from rfl] at a7
  have a8 := kx_ne h8
  rw [show (8 : Int32).toInt = 8 from rfl] at a8
  have a9 := kx_ne h9
  rw [show (9 : Int32).toInt = 9 from rfl] at a9
  have a10 := kx_ne h10
  rw [show (10 : Int32).toInt = 10 from rfl] at a10
  have a11 := kx_ne h11
  rw [show (11 : Int32).toInt = 11 from rfl] at a11
  have a12 := kx_ne h12
  rw [show (12 : Int32).toInt = 12 from rfl] at a12
  have a13 := kx_ne h13
  rw [show (13 : Int32).toInt = 13 from rfl] at a13
  have a14 := kx_ne h14
  rw [show (14 : Int32).toInt = 14 from rfl] at a14
  omega
set_option maxHeartbeats 4000000 in
set_option maxRecDepth 100000 in
/-- one turn of the law's loop -/
theorem lc_body {p_ : Program} {l : Launch} {e_ : Env} {s_ : State} {m_ : MethodId} {below_ : List Frame} {meth_ : Method} {c_ : Code} {b_ L : Nat} {xs : Nat → Int32} {D : va_G} {cI cZ cO : ClassId} {A_ : Nat → Prop} {ad bm : Nat → Nat} {t : Nat} {mm : kt_M} {ops : Nat → kt_Op} {fl : kt_Ln} {tl : kt_Ln} {dk : kt_Dr} {co : kt_Dr} {fr : kt_Rq} {tr : kt_Rq} {ca : kt_Ca} {dv : Nat → Int32} {po : Nat → Int32} {mi : kt_I} {w : kt_W} {e : kt_E} {y : kt_Ca} {dw : Nat → Int32} {pw : Nat → Int32} {ls : Array Slot} {H : Heap} {locs : List Loc} (S : CallFix p_ m_ c_ code 4 s_ #[Value.ref b_] kx_tbl "RebornDriversLaw") (X : va_X b_ L xs s_ s_.heap ∧ b_ < s_.heap.size ∧ ¬ A_ b_) (hr : meth_.sig.returnType = ret) (hlk : meth_.locks = false) (hL : L ≤ 2049) (hA : ∀ q, A_ q → s_.heap.size ≤ q) (htt : t ≤ 512) (hR : kr t mm ops fl tl dk co fr tr ca dv po mi w e y dw pw) (hl : lv_has ls 4 [(3, .int (nI (1 + 4 * t))), (2, .ref (bm 0)), (1, .ref (ad 0)), (0, .ref b_)]) (hw : kx_w D (kx_T cI cZ cO) A_ s_ (kw_w cI cZ cO ad bm mm ops fl tl dk co fr tr ca dv po mi w e y dw pw) H locs) (K0 : t < 512 → kw_K p_ l e_ s_ m_ below_ meth_ c_ b_ D cI cZ cO A_ ad bm 28 (1 + 4 * (t + 1)) (t + 1)) : W p_ l e_ room_1 s_ m_ #[Value.ref b_] below_ meth_ c_ H locs 43 614 (lw_Z below_ #[Value.ref b_] s_) (F0 m_ 28 ls []) := by
  have hx := S.1
  have hb := S.2.1
  refine lv_iload_n hx hb d_Lw_law_28 rfl (lv_at hl 0 rfl) ?_
  refine lv_aload_n hx hb d_Lw_law_29 rfl (lv_at hl 3 rfl) ?_
  refine va_slen hx hb X.1 X.2.1 X.2.2 hw.2.2.2.1 d_Lw_law_30 ?_
  refine lv_iconst (v := 4) hx hb d_Lw_law_31 (by decide) ?_
  refine lv_isub hx hb d_Lw_law_32 ?_
  refine lv_icmp_gt (tgt := 517) hx hb d_Lw_law_33 (by decide) (fun h => ?_) (fun h => ?_)
  · refine lv_iconst (v := 1) hx hb d_Lw_law_517 (by decide) ?_
    refine va_forget (fun q hq => hA _ (hw.2.2.2.1.2.2 q hq)) ?_
    refine W.widen (k := 600000) (n := 7302250) (by decide) (by decide) ?_
    exact lw_ret hx hb hr hlk d_Lw_law_518
  · have hle := lw_ar hL htt h
    have ht : t < 512 := by omega
    have K : kw_K p_ l e_ s_ m_ below_ meth_ c_ b_ D cI cZ cO A_ ad bm 511 (1 + 4 * t) (t + 1) := by
      intro mm ops fl tl dk co fr tr ca dv po mi w e y dw pw ls H locs hR hl hw
      refine lv_iinc (v := nI (1 + 4 * (t + 1))) (k := 0) (lv' := [(3, .int (nI (1 + 4 * (t + 1)))), (2, .ref (bm 0)), (1, .ref (ad 0)), (0, .ref b_)]) hx hb d_Lw_law_511 hl rfl (lw_nx t) (by decide) rfl (fun ls hl => ?_)
      refine lv_goto (tgt := 28) hx hb d_Lw_law_514 (by decide) ?_
      exact K0 ht mm ops fl tl dk co fr tr ca dv po mi w e y dw pw ls H locs hR hl hw
    refine lv_aload_n hx hb d_Lw_law_36 rfl (lv_at hl 3 rfl) ?_
    refine lv_iload_n hx hb d_Lw_law_37 rfl (lv_at hl 0 rfl) ?_
    refine kx_sld S X hw rfl (lw_in0 hL hle) d_Lw_law_38 ?_
    refine lv_bipush (v := 15) hx hb d_Lw_law_39 (by decide) ?_
    refine lv_iand hx hb d_Lw_law_41 ?_
    refine lv_topi (fun q hq => ?_)
    by_cases h0 : q = 0
    · refine lv_tableIn (off := 74) (tgt := 116) hx hb d_Lw_law_42 (by rw [h0]; decide) (by rw [h0]; decide) (by rw [h0]; decide) (by decide) ?_
      exact lc_read S X ht rfl (lw_in 1 (by decide) hL hle) rfl (lw_in 2 (by decide) hL hle) hR hl hw K
    by_cases h1 : q = 1
    · refine lv_tableIn (off := 107) (tgt := 149) hx hb d_Lw_law_42 (by rw [h1]; decide) (by rw [h1]; decide) (by rw [h1]; decide) (by decide) ?_
      exact lc_write S X ht rfl (lw_in 1 (by decide) hL hle) rfl (lw_in 2 (by decide) hL hle) rfl (lw_in 3 (by decide) hL hle) hR hl hw K
    by_cases h2 : q = 2
    · refine lv_tableIn (off := 150) (tgt := 192) hx hb d_Lw_law_42 (by rw [h2]; decide) (by rw [h2]; decide) (by rw [h2]; decide) (by decide) ?_
      exact lc_sync S X ht rfl (lw_in 1 (by decide) hL hle) hR hl hw K
    by_cases h3 : q = 3
    · refine lv_tableIn (off := 173) (tgt := 215) hx hb d_Lw_law_42 (by rw [h3]; decide) (by rw [h3]; decide) (by rw [h3]; decide) (by decide) ?_
      exact lc_print S X ht rfl (lw_in 1 (by decide) hL hle) rfl (lw_in 2 (by decide) hL hle) hR hl hw K
    by_cases h4 : q = 4
    · refine lv_tableIn (off := 206) (tgt := 248) hx hb d_Lw_law_42 (by rw [h4]; decide) (by rw [h4]; decide) (by rw [h4]; decide) (by decide) ?_
      exact lc_tick S X ht  hR hl hw K
    by_cases h5 : q = 5
    · refine lv_tableIn (off := 219) (tgt := 261) hx hb d_Lw_law_42 (by rw [h5]; decide) (by rw [h5]; decide) (by rw [h5]; decide) (by decide) ?_
      exact lc_fault S X ht rfl (lw_in 1 (by decide) hL hle) rfl (lw_in 2 (by decide) hL hle) hR hl hw K
    by_cases h6 : q = 6
    · refine lv_tableIn (off := 252) (tgt := 294) hx hb d_Lw_law_42 (by rw [h6]; decide) (by rw [h6]; decide) (by rw [h6]; decide) (by decide) ?_
      exact lc_state S X ht rfl (lw_in 1 (by decide) hL hle) hR hl hw K
    by_cases h7 : q = 7
    · refine lv_tableIn (off := 275) (tgt := 317) hx hb d_Lw_law_42 (by rw [h7]; decide) (by rw [h7]; decide) (by rw [h7]; decide) (by decide) ?_
      exact lc_result S X ht rfl (lw_in 1 (by decide) hL hle) hR hl hw K
    by_cases h8 : q = 8
    · refine lv_tableIn (off := 298) (tgt := 340) hx hb d_Lw_law_42 (by rw [h8]; decide) (by rw [h8]; decide) (by rw [h8]; decide) (by decide) ?_
      exact lc_line S X ht rfl (lw_in 1 (by decide) hL hle) hR hl hw K
    by_cases h9 : q = 9
    · refine lv_tableIn (off := 321) (tgt := 363) hx hb d_Lw_law_42 (by rw [h9]; decide) (by rw [h9]; decide) (by rw [h9]; decide) (by decide) ?_
      exact lc_device S X ht rfl (lw_in 1 (by decide) hL hle) hR hl hw K
    by_cases h10 : q = 10
    · refine lv_tableIn (off := 344) (tgt := 386) hx hb d_Lw_law_42 (by rw [h10]; decide) (by rw [h10]; decide) (by rw [h10]; decide) (by decide) ?_
      exact lc_slot S X ht rfl (lw_in 1 (by decide) hL hle) rfl (lw_in 2 (by decide) hL hle) hR hl hw K
    by_cases h11 : q = 11
    · refine lv_tableIn (off := 377) (tgt := 419) hx hb d_Lw_law_42 (by rw [h11]; decide) (by rw [h11]; decide) (by rw [h11]; decide) (by decide) ?_
      exact lc_output S X ht rfl (lw_in 1 (by decide) hL hle) hR hl hw K
    by_cases h12 : q = 12
    · refine lv_tableIn (off := 400) (tgt := 442) hx hb d_Lw_law_42 (by rw [h12]; decide) (by rw [h12]; decide) (by rw [h12]; decide) (by decide) ?_
      exact lc_driver S X ht rfl (lw_in 1 (by decide) hL hle) rfl (lw_in 2 (by decide) hL hle) hR hl hw K
    by_cases h13 : q = 13
    · refine lv_tableIn (off := 433) (tgt := 475) hx hb d_Lw_law_42 (by rw [h13]; decide) (by rw [h13]; decide) (by rw [h13]; decide) (by decide) ?_
      exact lc_request S X ht rfl (lw_in 1 (by decide) hL hle) hR hl hw K
    by_cases h14 : q = 14
    · refine lv_tableIn (off := 456) (tgt := 498) hx hb d_Lw_law_42 (by rw [h14]; decide) (by rw [h14]; decide) (by rw [h14]; decide) (by decide) ?_
      exact lc_now S X ht  hR hl hw K
    refine lv_tableOut (tgt := 511) hx hb d_Lw_law_42 (kx_sw15 h0 h1 h2 h3 h4 h5 h6 h7 h8 h9 h10 h11 h12 h13 h14) (by decide) ?_
    exact K mm ops fl tl dk co fr tr ca dv po mi w e y dw pw ls H locs (rl_skip hR) hl hw
set_option maxHeartbeats 4000000 in
/-- the law's loop -/
theorem lc_loop {p_ : Program} {l : Launch} {e_ : Env} {s_ : State} {m_ : MethodId} {below_ : List Frame} {meth_ : Method} {c_ : Code} {b_ L : Nat} {xs : Nat → Int32} {D : va_G} {cI cZ cO : ClassId} {A_ : Nat → Prop} {ad bm : Nat → Nat} (S : CallFix p_ m_ c_ code 4 s_ #[Value.ref b_] kx_tbl "RebornDriversLaw") (X : va_X b_ L xs s_ s_.heap ∧ b_ < s_.heap.size ∧ ¬ A_ b_) (hr : meth_.sig.returnType = ret) (hlk : meth_.locks = false) (hL : L ≤ 2049) (hA : ∀ q, A_ q → s_.heap.size ≤ q) (n : Nat) : ∀ t, t ≤ 512 → 513 ≤ n + t → kw_K p_ l e_ s_ m_ below_ meth_ c_ b_ D cI cZ cO A_ ad bm 28 (1 + 4 * t) t := by
  induction n with
  | zero => intro t h1 h2; omega
  | succ n ih =>
    intro t h1 h2 mm ops fl tl dk co fr tr ca dv po mi w e y dw pw ls H locs hR hl hw
    exact lc_body S X hr hlk hL hA h1 hR hl hw (fun ht => ih (t + 1) (by omega) (by omega))
