
def f_Md_head (mi : kt_I) (w : kt_W) (s : Int32) : Int32 :=
  match f_Md_stands mi w 0 s with
  | r1 => if r1 = 0 then (match f_Md_stands mi w 1 s with
      | r3 => if r3 = 0 then (match f_Md_stands mi w 2 s with
          | r5 => if r5 = 0 then (match f_Md_stands mi w 3 s with
              | r7 => if r7 = 0 then (-1)
                else 3)
            else match f_Md_stands mi w 3 s with
            | r9 => if r9 = 0 then 2
              else if (w.2.2.2.1 2) ≤ (w.2.2.2.1 3) then 2
              else 3)
        else match f_Md_stands mi w 2 s with
        | r12 => if r12 = 0 then (match f_Md_stands mi w 3 s with
            | r14 => if r14 = 0 then 1
              else if (w.2.2.2.1 1) ≤ (w.2.2.2.1 3) then 1
              else 3)
          else if (w.2.2.2.1 1) ≤ (w.2.2.2.1 2) then (match f_Md_stands mi w 3 s with
            | r18 => if r18 = 0 then 1
              else if (w.2.2.2.1 1) ≤ (w.2.2.2.1 3) then 1
              else 3)
          else match f_Md_stands mi w 3 s with
          | r21 => if r21 = 0 then 2
            else if (w.2.2.2.1 2) ≤ (w.2.2.2.1 3) then 2
            else 3)
    else match f_Md_stands mi w 1 s with
    | r24 => if r24 = 0 then (match f_Md_stands mi w 2 s with
        | r26 => if r26 = 0 then (match f_Md_stands mi w 3 s with
            | r28 => if r28 = 0 then 0
              else if (w.2.2.2.1 0) ≤ (w.2.2.2.1 3) then 0
              else 3)
          else if (w.2.2.2.1 0) ≤ (w.2.2.2.1 2) then (match f_Md_stands mi w 3 s with
            | r32 => if r32 = 0 then 0
              else if (w.2.2.2.1 0) ≤ (w.2.2.2.1 3) then 0
              else 3)
          else match f_Md_stands mi w 3 s with
          | r35 => if r35 = 0 then 2
            else if (w.2.2.2.1 2) ≤ (w.2.2.2.1 3) then 2
            else 3)
      else if (w.2.2.2.1 0) ≤ (w.2.2.2.1 1) then (match f_Md_stands mi w 2 s with
        | r39 => if r39 = 0 then (match f_Md_stands mi w 3 s with
            | r41 => if r41 = 0 then 0
              else if (w.2.2.2.1 0) ≤ (w.2.2.2.1 3) then 0
              else 3)
          else if (w.2.2.2.1 0) ≤ (w.2.2.2.1 2) then (match f_Md_stands mi w 3 s with
            | r45 => if r45 = 0 then 0
              else if (w.2.2.2.1 0) ≤ (w.2.2.2.1 3) then 0
              else 3)
          else match f_Md_stands mi w 3 s with
          | r48 => if r48 = 0 then 2
            else if (w.2.2.2.1 2) ≤ (w.2.2.2.1 3) then 2
            else 3)
      else match f_Md_stands mi w 2 s with
      | r51 => if r51 = 0 then (match f_Md_stands mi w 3 s with
          | r53 => if r53 = 0 then 1
            else if (w.2.2.2.1 1) ≤ (w.2.2.2.1 3) then 1
            else 3)
        else if (w.2.2.2.1 1) ≤ (w.2.2.2.1 2) then (match f_Md_stands mi w 3 s with
          | r57 => if r57 = 0 then 1
            else if (w.2.2.2.1 1) ≤ (w.2.2.2.1 3) then 1
            else 3)
        else match f_Md_stands mi w 3 s with
        | r60 => if r60 = 0 then 2
          else if (w.2.2.2.1 2) ≤ (w.2.2.2.1 3) then 2
          else 3
set_option maxHeartbeats 4000000 in
set_option maxRecDepth 100000 in
theorem c_Md_head (l : Launch) (D : va_G) (cI cZ cO : ClassId) (bm : Nat → Nat) (mi : kt_I) (w : kt_W) (s : Int32) : kx_Ci (S := Unit) l y_Md_head b_Md_head 4 (some .int) 1 0 0 D (kx_T cI cZ cO) [.ref (bm 0), .int s] [((bm 0), .inr (6, [.int mi.1, .int mi.2.1, .int mi.2.2.1, .ref (bm 1), .ref (bm 2), .ref (bm 3), .ref (bm 4), .ref (bm 5), .ref (bm 6), .ref (bm 7), .ref (bm 8), .ref (bm 9), .int mi.2.2.2.1, .ref (bm 10), .ref (bm 11), .ref (bm 12), .ref (bm 13), .ref (bm 14), .ref (bm 15), .ref (bm 16), .ref (bm 17), .int mi.2.2.2.2.1, .int mi.2.2.2.2.2.1, .int mi.2.2.2.2.2.2.1, .int mi.2.2.2.2.2.2.2.1, .ref (bm 18), .ref (bm 19), .ref (bm 20), .ref (bm 21), .int mi.2.2.2.2.2.2.2.2])), ((bm 1), .inl (cI, 4, .inl w.1)), ((bm 2), .inl (cI, 4, .inl w.2.1)), ((bm 3), .inl (cI, 4, .inl w.2.2.1)), ((bm 4), .inl (cI, 4, .inl w.2.2.2.1)), ((bm 5), .inl (cI, 4, .inl w.2.2.2.2.1)), ((bm 6), .inl (cI, 4, .inl w.2.2.2.2.2.1)), ((bm 7), .inl (cI, 4, .inl w.2.2.2.2.2.2))] (fun rr _ => rr = f_Md_head mi w s) (fun _ => [((bm 0), .inr (6, [.int mi.1, .int mi.2.1, .int mi.2.2.1, .ref (bm 1), .ref (bm 2), .ref (bm 3), .ref (bm 4), .ref (bm 5), .ref (bm 6), .ref (bm 7), .ref (bm 8), .ref (bm 9), .int mi.2.2.2.1, .ref (bm 10), .ref (bm 11), .ref (bm 12), .ref (bm 13), .ref (bm 14), .ref (bm 15), .ref (bm 16), .ref (bm 17), .int mi.2.2.2.2.1, .int mi.2.2.2.2.2.1, .int mi.2.2.2.2.2.2.1, .int mi.2.2.2.2.2.2.2.1, .ref (bm 18), .ref (bm 19), .ref (bm 20), .ref (bm 21), .int mi.2.2.2.2.2.2.2.2])), ((bm 1), .inl (cI, 4, .inl w.1)), ((bm 2), .inl (cI, 4, .inl w.2.1)), ((bm 3), .inl (cI, 4, .inl w.2.2.1)), ((bm 4), .inl (cI, 4, .inl w.2.2.2.1)), ((bm 5), .inl (cI, 4, .inl w.2.2.2.2.1)), ((bm 6), .inl (cI, 4, .inl w.2.2.2.2.2.1)), ((bm 7), .inl (cI, 4, .inl w.2.2.2.2.2.2))]) := by
  refine kx_enter_i (by decide) (Nat.le_of_ble_eq_true rfl) ?_
  intro p_ e_ s_ m_ below_ meth_ c_ ls A_ H I hl hw
  have S := I.1
  have hx := S.1
  have hb := S.2.1
  have hl : lv_has ls 4 [(0, .ref (bm 0)), (1, .int s)] := hl
  refine lv_iconst (v := (-1)) hx hb d_Md_head_0 (by decide) ?_
  refine lv_istore_n (lv' := [(2, .int (-1)), (0, .ref (bm 0)), (1, .int s)]) hx hb d_Md_head_1 rfl hl (by decide) rfl (fun ls hl => ?_)
  refine lv_iconst (v := 0) hx hb d_Md_head_2 (by decide) ?_
  refine lv_istore_n (lv' := [(3, .int 0), (2, .int (-1)), (0, .ref (bm 0)), (1, .int s)]) hx hb d_Md_head_3 rfl hl (by decide) rfl (fun ls hl => ?_)
  refine lv_iload_n hx hb d_Md_head_4 rfl (lv_at hl 0 rfl) ?_
  refine lv_iconst (v := 4) hx hb d_Md_head_5 (by decide) ?_
  refine lv_icmp_ge (tgt := 49) hx hb d_Md_head_6 (by decide) (fun h => absurd h (by decide)) (fun _ => ?_)
  refine lv_aload_n hx hb d_Md_head_9 rfl (lv_at hl 2 rfl) ?_
  refine lv_iload_n hx hb d_Md_head_10 rfl (lv_at hl 0 rfl) ?_
  refine lv_iload_n hx hb d_Md_head_11 rfl (lv_at hl 3 rfl) ?_
  refine kx_call_i (wc := [((bm 0), .inr (6, [.int mi.1, .int mi.2.1, .int mi.2.2.1, .ref (bm 1), .ref (bm 2), .ref (bm 3), .ref (bm 4), .ref (bm 5), .ref (bm 6), .ref (bm 7), .ref (bm 8), .ref (bm 9), .int mi.2.2.2.1, .ref (bm 10), .ref (bm 11), .ref (bm 12), .ref (bm 13), .ref (bm 14), .ref (bm 15), .ref (bm 16), .ref (bm 17), .int mi.2.2.2.2.1, .int mi.2.2.2.2.2.1, .int mi.2.2.2.2.2.2.1, .int mi.2.2.2.2.2.2.2.1, .ref (bm 18), .ref (bm 19), .ref (bm 20), .ref (bm 21), .int mi.2.2.2.2.2.2.2.2])), ((bm 1), .inl (cI, 4, .inl w.1)), ((bm 2), .inl (cI, 4, .inl w.2.1)), ((bm 3), .inl (cI, 4, .inl w.2.2.1)), ((bm 4), .inl (cI, 4, .inl w.2.2.2.1)), ((bm 5), .inl (cI, 4, .inl w.2.2.2.2.1)), ((bm 6), .inl (cI, 4, .inl w.2.2.2.2.2.1)), ((bm 7), .inl (cI, 4, .inl w.2.2.2.2.2.2))]) (wr := []) (rest := []) hw [0, 1, 2, 3, 4, 5, 6, 7] [] rfl rfl (by decide) (by decide) (kx_runV S hw fc_Md_85 rfl 0 rfl [0, 1, 2, 3, 4, 5, 6, 7] (by decide) rfl (c_Md_stands l D cI cZ cO bm mi w 0 s ((by unfold vp_in; decide)) H.size) rfl hl.1 rfl (Nat.le_of_ble_eq_true rfl) d_Md_head_12 (by decide) (by decide)) (fun r1 u1 H locs hp1 hw => ?_)
  obtain ⟨hp1, hb1⟩ := hp1
  have hw : kx_w D (kx_T cI cZ cO) A_ s_ [((bm 0), .inr (6, [.int mi.1, .int mi.2.1, .int mi.2.2.1, .ref (bm 1), .ref (bm 2), .ref (bm 3), .ref (bm 4), .ref (bm 5), .ref (bm 6), .ref (bm 7), .ref (bm 8), .ref (bm 9), .int mi.2.2.2.1, .ref (bm 10), .ref (bm 11), .ref (bm 12), .ref (bm 13), .ref (bm 14), .ref (bm 15), .ref (bm 16), .ref (bm 17), .int mi.2.2.2.2.1, .int mi.2.2.2.2.2.1, .int mi.2.2.2.2.2.2.1, .int mi.2.2.2.2.2.2.2.1, .ref (bm 18), .ref (bm 19), .ref (bm 20), .ref (bm 21), .int mi.2.2.2.2.2.2.2.2])), ((bm 1), .inl (cI, 4, .inl w.1)), ((bm 2), .inl (cI, 4, .inl w.2.1)), ((bm 3), .inl (cI, 4, .inl w.2.2.1)), ((bm 4), .inl (cI, 4, .inl w.2.2.2.1)), ((bm 5), .inl (cI, 4, .inl w.2.2.2.2.1)), ((bm 6), .inl (cI, 4, .inl w.2.2.2.2.2.1)), ((bm 7), .inl (cI, 4, .inl w.2.2.2.2.2.2))] H locs := hw
  refine lv_if_eq (tgt := 41) hx hb d_Md_head_15 (by decide) (fun h2 => ?_) (fun h2 => ?_)
  · refine lv_iload_n hx hb d_Md_head_41 rfl (lv_at hl 1 rfl) ?_
    refine lv_istore_n (lv' := [(2, .int (-1)), (3, .int 0), (0, .ref (bm 0)), (1, .int s)]) hx hb d_Md_head_42 rfl hl (by decide) rfl (fun ls hl => ?_)
    refine lv_iinc (v := 1) (k := 1) (lv' := [(3, .int 1), (2, .int (-1)), (0, .ref (bm 0)), (1, .int s)]) hx hb d_Md_head_43 hl rfl (by decide) (by decide) rfl (fun ls hl => ?_)
    refine lv_goto (tgt := 4) hx hb d_Md_head_46 (by decide) ?_
    refine lv_iload_n hx hb d_Md_head_4 rfl (lv_at hl 0 rfl) ?_
    refine lv_iconst (v := 4) hx hb d_Md_head_5 (by decide) ?_
    refine lv_icmp_ge (tgt := 49) hx hb d_Md_head_6 (by decide) (fun h => absurd h (by decide)) (fun _ => ?_)
    refine lv_aload_n hx hb d_Md_head_9 rfl (lv_at hl 2 rfl) ?_
    refine lv_iload_n hx hb d_Md_head_10 rfl (lv_at hl 0 rfl) ?_
    refine lv_iload_n hx hb d_Md_head_11 rfl (lv_at hl 3 rfl) ?_
    refine kx_call_i (wc := [((bm 0), .inr (6, [.int mi.1, .int mi.2.1, .int mi.2.2.1, .ref (bm 1), .ref (bm 2), .ref (bm 3), .ref (bm 4), .ref (bm 5), .ref (bm 6), .ref (bm 7), .ref (bm 8), .ref (bm 9), .int mi.2.2.2.1, .ref (bm 10), .ref (bm 11), .ref (bm 12), .ref (bm 13), .ref (bm 14), .ref (bm 15), .ref (bm 16), .ref (bm 17), .int mi.2.2.2.2.1, .int mi.2.2.2.2.2.1, .int mi.2.2.2.2.2.2.1, .int mi.2.2.2.2.2.2.2.1, .ref (bm 18), .ref (bm 19), .ref (bm 20), .ref (bm 21), .int mi.2.2.2.2.2.2.2.2])), ((bm 1), .inl (cI, 4, .inl w.1)), ((bm 2), .inl (cI, 4, .inl w.2.1)), ((bm 3), .inl (cI, 4, .inl w.2.2.1)), ((bm 4), .inl (cI, 4, .inl w.2.2.2.1)), ((bm 5), .inl (cI, 4, .inl w.2.2.2.2.1)), ((bm 6), .inl (cI, 4, .inl w.2.2.2.2.2.1)), ((bm 7), .inl (cI, 4, .inl w.2.2.2.2.2.2))]) (wr := []) (rest := []) hw [0, 1, 2, 3, 4, 5, 6, 7] [] rfl rfl (by decide) (by decide) (kx_runV S hw fc_Md_85 rfl 0 rfl [0, 1, 2, 3, 4, 5, 6, 7] (by decide) rfl (c_Md_stands l D cI cZ cO bm mi w 1 s ((by unfold vp_in; decide)) H.size) rfl hl.1 rfl (Nat.le_of_ble_eq_true rfl) d_Md_head_12 (by decide) (by decide)) (fun r3 u3 H locs hp3 hw => ?_)
    obtain ⟨hp3, hb3⟩ := hp3
    have hw : kx_w D (kx_T cI cZ cO) A_ s_ [((bm 0), .inr (6, [.int mi.1, .int mi.2.1, .int mi.2.2.1, .ref (bm 1), .ref (bm 2), .ref (bm 3), .ref (bm 4), .ref (bm 5), .ref (bm 6), .ref (bm 7), .ref (bm 8), .ref (bm 9), .int mi.2.2.2.1, .ref (bm 10), .ref (bm 11), .ref (bm 12), .ref (bm 13), .ref (bm 14), .ref (bm 15), .ref (bm 16), .ref (bm 17), .int mi.2.2.2.2.1, .int mi.2.2.2.2.2.1, .int mi.2.2.2.2.2.2.1, .int mi.2.2.2.2.2.2.2.1, .ref (bm 18), .ref (bm 19), .ref (bm 20), .ref (bm 21), .int mi.2.2.2.2.2.2.2.2])), ((bm 1), .inl (cI, 4, .inl w.1)), ((bm 2), .inl (cI, 4, .inl w.2.1)), ((bm 3), .inl (cI, 4, .inl w.2.2.1)), ((bm 4), .inl (cI, 4, .inl w.2.2.2.1)), ((bm 5), .inl (cI, 4, .inl w.2.2.2.2.1)), ((bm 6), .inl (cI, 4, .inl w.2.2.2.2.2.1)), ((bm 7), .inl (cI, 4, .inl w.2.2.2.2.2.2))] H locs := hw
    refine lv_if_eq (tgt := 41) hx hb d_Md_head_15 (by decide) (fun h4 => ?_) (fun h4 => ?_)
    · refine lv_iload_n hx hb d_Md_head_41 rfl (lv_at hl 1 rfl) ?_
      refine lv_istore_n (lv' := [(2, .int (-1)), (3, .int 1), (0, .ref (bm 0)), (1, .int s)]) hx hb d_Md_head_42 rfl hl (by decide) rfl (fun ls hl => ?_)
      refine lv_iinc (v := 2) (k := 1) (lv' := [(3, .int 2), (2, .int (-1)), (0, .ref (bm 0)), (1, .int s)]) hx hb d_Md_head_43 hl rfl (by decide) (by decide) rfl (fun ls hl => ?_)
      refine lv_goto (tgt := 4) hx hb d_Md_head_46 (by decide) ?_
      refine lv_iload_n hx hb d_Md_head_4 rfl (lv_at hl 0 rfl) ?_
      refine lv_iconst (v := 4) hx hb d_Md_head_5 (by decide) ?_
      refine lv_icmp_ge (tgt := 49) hx hb d_Md_head_6 (by decide) (fun h => absurd h (by decide)) (fun _ => ?_)
      refine lv_aload_n hx hb d_Md_head_9 rfl (lv_at hl 2 rfl) ?_
      refine lv_iload_n hx hb d_Md_head_10 rfl (lv_at hl 0 rfl) ?_
      refine lv_iload_n hx hb d_Md_head_11 rfl (lv_at hl 3 rfl) ?_
      refine kx_call_i (wc := [((bm 0), .inr (6, [.int mi.1, .int mi.2.1, .int mi.2.2.1, .ref (bm 1), .ref (bm 2), .ref (bm 3), .ref (bm 4), .ref (bm 5), .ref (bm 6), .ref (bm 7), .ref (bm 8), .ref (bm 9), .int mi.2.2.2.1, .ref (bm 10), .ref (bm 11), .ref (bm 12), .ref (bm 13), .ref (bm 14), .ref (bm 15), .ref (bm 16), .ref (bm 17), .int mi.2.2.2.2.1, .int mi.2.2.2.2.2.1, .int mi.2.2.2.2.2.2.1, .int mi.2.2.2.2.2.2.2.1, .ref (bm 18), .ref (bm 19), .ref (bm 20), .ref (bm 21), .int mi.2.2.2.2.2.2.2.2])), ((bm 1), .inl (cI, 4, .inl w.1)), ((bm 2), .inl (cI, 4, .inl w.2.1)), ((bm 3), .inl (cI, 4, .inl w.2.2.1)), ((bm 4), .inl (cI, 4, .inl w.2.2.2.1)), ((bm 5), .inl (cI, 4, .inl w.2.2.2.2.1)), ((bm 6), .inl (cI, 4, .inl w.2.2.2.2.2.1)), ((bm 7), .inl (cI, 4, .inl w.2.2.2.2.2.2))]) (wr := []) (rest := []) hw [0, 1, 2, 3, 4, 5, 6, 7] [] rfl rfl (by decide) (by decide) (kx_runV S hw fc_Md_85 rfl 0 rfl [0, 1, 2, 3, 4, 5, 6, 7] (by decide) rfl (c_Md_stands l D cI cZ cO bm mi w 2 s ((by unfold vp_in; decide)) H.size) rfl hl.1 rfl (Nat.le_of_ble_eq_true rfl) d_Md_head_12 (by decide) (by decide)) (fun r5 u5 H locs hp5 hw => ?_)
      obtain ⟨hp5, hb5⟩ := hp5
      have hw : kx_w D (kx_T cI cZ cO) A_ s_ [((bm 0), .inr (6, [.int mi.1, .int mi.2.1, .int mi.2.2.1, .ref (bm 1), .ref (bm 2), .ref (bm 3), .ref (bm 4), .ref (bm 5), .ref (bm 6), .ref (bm 7), .ref (bm 8), .ref (bm 9), .int mi.2.2.2.1, .ref (bm 10), .ref (bm 11), .ref (bm 12), .ref (bm 13), .ref (bm 14), .ref (bm 15), .ref (bm 16), .ref (bm 17), .int mi.2.2.2.2.1, .int mi.2.2.2.2.2.1, .int mi.2.2.2.2.2.2.1, .int mi.2.2.2.2.2.2.2.1, .ref (bm 18), .ref (bm 19), .ref (bm 20), .ref (bm 21), .int mi.2.2.2.2.2.2.2.2])), ((bm 1), .inl (cI, 4, .inl w.1)), ((bm 2), .inl (cI, 4, .inl w.2.1)), ((bm 3), .inl (cI, 4, .inl w.2.2.1)), ((bm 4), .inl (cI, 4, .inl w.2.2.2.1)), ((bm 5), .inl (cI, 4, .inl w.2.2.2.2.1)), ((bm 6), .inl (cI, 4, .inl w.2.2.2.2.2.1)), ((bm 7), .inl (cI, 4, .inl w.2.2.2.2.2.2))] H locs := hw
      refine lv_if_eq (tgt := 41) hx hb d_Md_head_15 (by decide) (fun h6 => ?_) (fun h6 => ?_)
      · refine lv_iload_n hx hb d_Md_head_41 rfl (lv_at hl 1 rfl) ?_
        refine lv_istore_n (lv' := [(2, .int (-1)), (3, .int 2), (0, .ref (bm 0)), (1, .int s)]) hx hb d_Md_head_42 rfl hl (by decide) rfl (fun ls hl => ?_)
        refine lv_iinc (v := 3) (k := 1) (lv' := [(3, .int 3), (2, .int (-1)), (0, .ref (bm 0)), (1, .int s)]) hx hb d_Md_head_43 hl rfl (by decide) (by decide) rfl (fun ls hl => ?_)
        refine lv_goto (tgt := 4) hx hb d_Md_head_46 (by decide) ?_
        refine lv_iload_n hx hb d_Md_head_4 rfl (lv_at hl 0 rfl) ?_
        refine lv_iconst (v := 4) hx hb d_Md_head_5 (by decide) ?_
        refine lv_icmp_ge (tgt := 49) hx hb d_Md_head_6 (by decide) (fun h => absurd h (by decide)) (fun _ => ?_)
        refine lv_aload_n hx hb d_Md_head_9 rfl (lv_at hl 2 rfl) ?_
        refine lv_iload_n hx hb d_Md_head_10 rfl (lv_at hl 0 rfl) ?_
        refine lv_iload_n hx hb d_Md_head_11 rfl (lv_at hl 3 rfl) ?_
        refine kx_call_i (wc := [((bm 0), .inr (6, [.int mi.1, .int mi.2.1, .int mi.2.2.1, .ref (bm 1), .ref (bm 2), .ref (bm 3), .ref (bm 4), .ref (bm 5), .ref (bm 6), .ref (bm 7), .ref (bm 8), .ref (bm 9), .int mi.2.2.2.1, .ref (bm 10), .ref (bm 11), .ref (bm 12), .ref (bm 13), .ref (bm 14), .ref (bm 15), .ref (bm 16), .ref (bm 17), .int mi.2.2.2.2.1, .int mi.2.2.2.2.2.1, .int mi.2.2.2.2.2.2.1, .int mi.2.2.2.2.2.2.2.1, .ref (bm 18), .ref (bm 19), .ref (bm 20), .ref (bm 21), .int mi.2.2.2.2.2.2.2.2])), ((bm 1), .inl (cI, 4, .inl w.1)), ((bm 2), .inl (cI, 4, .inl w.2.1)), ((bm 3), .inl (cI, 4, .inl w.2.2.1)), ((bm 4), .inl (cI, 4, .inl w.2.2.2.1)), ((bm 5), .inl (cI, 4, .inl w.2.2.2.2.1)), ((bm 6), .inl (cI, 4, .inl w.2.2.2.2.2.1)), ((bm 7), .inl (cI, 4, .inl w.2.2.2.2.2.2))]) (wr := []) (rest := []) hw [0, 1, 2, 3, 4, 5, 6, 7] [] rfl rfl (by decide) (by decide) (kx_runV S hw fc_Md_85 rfl 0 rfl [0, 1, 2, 3, 4, 5, 6, 7] (by decide) rfl (c_Md_stands l D cI cZ cO bm mi w 3 s ((by unfold vp_in; decide)) H.size) rfl hl.1 rfl (Nat.le_of_ble_eq_true rfl) d_Md_head_12 (by decide) (by decide)) (fun r7 u7 H locs hp7 hw => ?_)
        obtain ⟨hp7, hb7⟩ := hp7
        have hw : kx_w D (kx_T cI cZ cO) A_ s_ [((bm 0), .inr (6, [.int mi.1, .int mi.2.1, .int mi.2.2.1, .ref (bm 1), .ref (bm 2), .ref (bm 3), .ref (bm 4), .ref (bm 5), .ref (bm 6), .ref (bm 7), .ref (bm 8), .ref (bm 9), .int mi.2.2.2.1, .ref (bm 10), .ref (bm 11), .ref (bm 12), .ref (bm 13), .ref (bm 14), .ref (bm 15), .ref (bm 16), .ref (bm 17), .int mi.2.2.2.2.1, .int mi.2.2.2.2.2.1, .int mi.2.2.2.2.2.2.1, .int mi.2.2.2.2.2.2.2.1, .ref (bm 18), .ref (bm 19), .ref (bm 20), .ref (bm 21), .int mi.2.2.2.2.2.2.2.2])), ((bm 1), .inl (cI, 4, .inl w.1)), ((bm 2), .inl (cI, 4, .inl w.2.1)), ((bm 3), .inl (cI, 4, .inl w.2.2.1)), ((bm 4), .inl (cI, 4, .inl w.2.2.2.1)), ((bm 5), .inl (cI, 4, .inl w.2.2.2.2.1)), ((bm 6), .inl (cI, 4, .inl w.2.2.2.2.2.1)), ((bm 7), .inl (cI, 4, .inl w.2.2.2.2.2.2))] H locs := hw
        refine lv_if_eq (tgt := 41) hx hb d_Md_head_15 (by decide) (fun h8 => ?_) (fun h8 => ?_)
        · refine lv_iload_n hx hb d_Md_head_41 rfl (lv_at hl 1 rfl) ?_
          refine lv_istore_n (lv' := [(2, .int (-1)), (3, .int 3), (0, .ref (bm 0)), (1, .int s)]) hx hb d_Md_head_42 rfl hl (by decide) rfl (fun ls hl => ?_)
          refine lv_iinc (v := 4) (k := 1) (lv' := [(3, .int 4), (2, .int (-1)), (0, .ref (bm 0)), (1, .int s)]) hx hb d_Md_head_43 hl rfl (by decide) (by decide) rfl (fun ls hl => ?_)
          refine lv_goto (tgt := 4) hx hb d_Md_head_46 (by decide) ?_
          refine lv_iload_n hx hb d_Md_head_4 rfl (lv_at hl 0 rfl) ?_
          refine lv_iconst (v := 4) hx hb d_Md_head_5 (by decide) ?_
          refine lv_icmp_ge (tgt := 49) hx hb d_Md_head_6 (by decide) (fun _ => ?_) (fun h => absurd h (by decide))
          refine lv_iload_n hx hb d_Md_head_49 rfl (lv_at hl 1 rfl) ?_
          exact kx_ret_i I rfl hw () (by simp only [f_Md_head, ← hp1, if_pos h2, ← hp3, if_pos h4, ← hp5, if_pos h6, ← hp7, if_pos h8]) [0, 1, 2, 3, 4, 5, 6, 7] (by decide) rfl d_Md_head_50
        · refine lv_iload_n hx hb d_Md_head_18 rfl (lv_at hl 1 rfl) ?_
          refine lv_if_lt (tgt := 37) hx hb d_Md_head_19 (by decide) (fun _ => ?_) (fun h => absurd h (by decide))
          refine lv_iload_n hx hb d_Md_head_37 rfl (lv_at hl 0 rfl) ?_
          refine lv_goto (tgt := 42) hx hb d_Md_head_38 (by decide) ?_
          refine lv_istore_n (lv' := [(2, .int 3), (3, .int 3), (0, .ref (bm 0)), (1, .int s)]) hx hb d_Md_head_42 rfl hl (by decide) rfl (fun ls hl => ?_)
          refine lv_iinc (v := 4) (k := 1) (lv' := [(3, .int 4), (2, .int 3), (0, .ref (bm 0)), (1, .int s)]) hx hb d_Md_head_43 hl rfl (by decide) (by decide) rfl (fun ls hl => ?_)
          refine lv_goto (tgt := 4) hx hb d_Md_head_46 (by decide) ?_
          refine lv_iload_n hx hb d_Md_head_4 rfl (lv_at hl 0 rfl) ?_
          refine lv_iconst (v := 4) hx hb d_Md_head_5 (by decide) ?_
          refine lv_icmp_ge (tgt := 49) hx hb d_Md_head_6 (by decide) (fun _ => ?_) (fun h => absurd h (by decide))
          refine lv_iload_n hx hb d_Md_head_49 rfl (lv_at hl 1 rfl) ?_
          exact kx_ret_i I rfl hw () (by simp only [f_Md_head, ← hp1, if_pos h2, ← hp3, if_pos h4, ← hp5, if_pos h6, ← hp7, if_neg h8]) [0, 1, 2, 3, 4, 5, 6, 7] (by decide) rfl d_Md_head_50
      · refine lv_iload_n hx hb d_Md_head_18 rfl (lv_at hl 1 rfl) ?_
        refine lv_if_lt (tgt := 37) hx hb d_Md_head_19 (by decide) (fun _ => ?_) (fun h => absurd h (by decide))
        refine lv_iload_n hx hb d_Md_head_37 rfl (lv_at hl 0 rfl) ?_
        refine lv_goto (tgt := 42) hx hb d_Md_head_38 (by decide) ?_
        refine lv_istore_n (lv' := [(2, .int 2), (3, .int 2), (0, .ref (bm 0)), (1, .int s)]) hx hb d_Md_head_42 rfl hl (by decide) rfl (fun ls hl => ?_)
        refine lv_iinc (v := 3) (k := 1) (lv' := [(3, .int 3), (2, .int 2), (0, .ref (bm 0)), (1, .int s)]) hx hb d_Md_head_43 hl rfl (by decide) (by decide) rfl (fun ls hl => ?_)
        refine lv_goto (tgt := 4) hx hb d_Md_head_46 (by decide) ?_
        refine lv_iload_n hx hb d_Md_head_4 rfl (lv_at hl 0 rfl) ?_
        refine lv_iconst (v := 4) hx hb d_Md_head_5 (by decide) ?_
        refine lv_icmp_ge (tgt := 49) hx hb d_Md_head_6 (by decide) (fun h => absurd h (by decide)) (fun _ => ?_)
        refine lv_aload_n hx hb d_Md_head_9 rfl (lv_at hl 2 rfl) ?_
        refine lv_iload_n hx hb d_Md_head_10 rfl (lv_at hl 0 rfl) ?_
        refine lv_iload_n hx hb d_Md_head_11 rfl (lv_at hl 3 rfl) ?_
        refine kx_call_i (wc := [((bm 0), .inr (6, [.int mi.1, .int mi.2.1, .int mi.2.2.1, .ref (bm 1), .ref (bm 2), .ref (bm 3), .ref (bm 4), .ref (bm 5), .ref (bm 6), .ref (bm 7), .ref (bm 8), .ref (bm 9), .int mi.2.2.2.1, .ref (bm 10), .ref (bm 11), .ref (bm 12), .ref (bm 13), .ref (bm 14), .ref (bm 15), .ref (bm 16), .ref (bm 17), .int mi.2.2.2.2.1, .int mi.2.2.2.2.2.1, .int mi.2.2.2.2.2.2.1, .int mi.2.2.2.2.2.2.2.1, .ref (bm 18), .ref (bm 19), .ref (bm 20), .ref (bm 21), .int mi.2.2.2.2.2.2.2.2])), ((bm 1), .inl (cI, 4, .inl w.1)), ((bm 2), .inl (cI, 4, .inl w.2.1)), ((bm 3), .inl (cI, 4, .inl w.2.2.1)), ((bm 4), .inl (cI, 4, .inl w.2.2.2.1)), ((bm 5), .inl (cI, 4, .inl w.2.2.2.2.1)), ((bm 6), .inl (cI, 4, .inl w.2.2.2.2.2.1)), ((bm 7), .inl (cI, 4, .inl w.2.2.2.2.2.2))]) (wr := []) (rest := []) hw [0, 1, 2, 3, 4, 5, 6, 7] [] rfl rfl (by decide) (by decide) (kx_runV S hw fc_Md_85 rfl 0 rfl [0, 1, 2, 3, 4, 5, 6, 7] (by decide) rfl (c_Md_stands l D cI cZ cO bm mi w 3 s ((by unfold vp_in; decide)) H.size) rfl hl.1 rfl (Nat.le_of_ble_eq_true rfl) d_Md_head_12 (by decide) (by decide)) (fun r9 u9 H locs hp9 hw => ?_)
        obtain ⟨hp9, hb9⟩ := hp9
        have hw : kx_w D (kx_T cI cZ cO) A_ s_ [((bm 0), .inr (6, [.int mi.1, .int mi.2.1, .int mi.2.2.1, .ref (bm 1), .ref (bm 2), .ref (bm 3), .ref (bm 4), .ref (bm 5), .ref (bm 6), .ref (bm 7), .ref (bm 8), .ref (bm 9), .int mi.2.2.2.1, .ref (bm 10), .ref (bm 11), .ref (bm 12), .ref (bm 13), .ref (bm 14), .ref (bm 15), .ref (bm 16), .ref (bm 17), .int mi.2.2.2.2.1, .int mi.2.2.2.2.2.1, .int mi.2.2.2.2.2.2.1, .int mi.2.2.2.2.2.2.2.1, .ref (bm 18), .ref (bm 19), .ref (bm 20), .ref (bm 21), .int mi.2.2.2.2.2.2.2.2])), ((bm 1), .inl (cI, 4, .inl w.1)), ((bm 2), .inl (cI, 4, .inl w.2.1)), ((bm 3), .inl (cI, 4, .inl w.2.2.1)), ((bm 4), .inl (cI, 4, .inl w.2.2.2.1)), ((bm 5), .inl (cI, 4, .inl w.2.2.2.2.1)), ((bm 6), .inl (cI, 4, .inl w.2.2.2.2.2.1)), ((bm 7), .inl (cI, 4, .inl w.2.2.2.2.2.2))] H locs := hw
        refine lv_if_eq (tgt := 41) hx hb d_Md_head_15 (by decide) (fun h10 => ?_) (fun h10 => ?_)
        · refine lv_iload_n hx hb d_Md_head_41 rfl (lv_at hl 1 rfl) ?_
          refine lv_istore_n (lv' := [(2, .int 2), (3, .int 3), (0, .ref (bm 0)), (1, .int s)]) hx hb d_Md_head_42 rfl hl (by decide) rfl (fun ls hl => ?_)
          refine lv_iinc (v := 4) (k := 1) (lv' := [(3, .int 4), (2, .int 2), (0, .ref (bm 0)), (1, .int s)]) hx hb d_Md_head_43 hl rfl (by decide) (by decide) rfl (fun ls hl => ?_)
          refine lv_goto (tgt := 4) hx hb d_Md_head_46 (by decide) ?_
          refine lv_iload_n hx hb d_Md_head_4 rfl (lv_at hl 0 rfl) ?_
          refine lv_iconst (v := 4) hx hb d_Md_head_5 (by decide) ?_
          refine lv_icmp_ge (tgt := 49) hx hb d_Md_head_6 (by decide) (fun _ => ?_) (fun h => absurd h (by decide))
          refine lv_iload_n hx hb d_Md_head_49 rfl (lv_at hl 1 rfl) ?_
          exact kx_ret_i I rfl hw () (by simp only [f_Md_head, ← hp1, if_pos h2, ← hp3, if_pos h4, ← hp5, if_neg h6, ← hp9, if_pos h10]) [0, 1, 2, 3, 4, 5, 6, 7] (by decide) rfl d_Md_head_50
        · refine lv_iload_n hx hb d_Md_head_18 rfl (lv_at hl 1 rfl) ?_
          refine lv_if_lt (tgt := 37) hx hb d_Md_head_19 (by decide) (fun h => absurd h (by decide)) (fun _ => ?_)
          refine lv_aload_n hx hb d_Md_head_22 rfl (lv_at hl 2 rfl) ?_
          refine kx_get S hw fg_Md_19 0 rfl rfl d_Md_head_23 ?_
          refine lv_iload_n hx hb d_Md_head_26 rfl (lv_at hl 0 rfl) ?_
          refine kx_iald S hw 4 0 rfl rfl (j := 3) (by decide) (by unfold vp_in; decide) d_Md_head_27 ?_
          refine lv_aload_n hx hb d_Md_head_28 rfl (lv_at hl 2 rfl) ?_
          refine kx_get S hw fg_Md_19 0 rfl rfl d_Md_head_29 ?_
          refine lv_iload_n hx hb d_Md_head_32 rfl (lv_at hl 1 rfl) ?_
          refine kx_iald S hw 4 0 rfl rfl (j := 2) (by decide) (by unfold vp_in; decide) d_Md_head_33 ?_
          refine lv_icmp_ge (tgt := 41) hx hb d_Md_head_34 (by decide) (fun h11 => ?_) (fun h11 => ?_)
          · refine lv_iload_n hx hb d_Md_head_41 rfl (lv_at hl 1 rfl) ?_
            refine lv_istore_n (lv' := [(2, .int 2), (3, .int 3), (0, .ref (bm 0)), (1, .int s)]) hx hb d_Md_head_42 rfl hl (by decide) rfl (fun ls hl => ?_)
            refine lv_iinc (v := 4) (k := 1) (lv' := [(3, .int 4), (2, .int 2), (0, .ref (bm 0)), (1, .int s)]) hx hb d_Md_head_43 hl rfl (by decide) (by decide) rfl (fun ls hl => ?_)
            refine lv_goto (tgt := 4) hx hb d_Md_head_46 (by decide) ?_
            refine lv_iload_n hx hb d_Md_head_4 rfl (lv_at hl 0 rfl) ?_
            refine lv_iconst (v := 4) hx hb d_Md_head_5 (by decide) ?_
            refine lv_icmp_ge (tgt := 49) hx hb d_Md_head_6 (by decide) (fun _ => ?_) (fun h => absurd h (by decide))
            refine lv_iload_n hx hb d_Md_head_49 rfl (lv_at hl 1 rfl) ?_
            exact kx_ret_i I rfl hw () (by simp only [f_Md_head, ← hp1, if_pos h2, ← hp3, if_pos h4, ← hp5, if_neg h6, ← hp9, if_neg h10, if_pos h11]) [0, 1, 2, 3, 4, 5, 6, 7] (by decide) rfl d_Md_head_50
          · refine lv_iload_n hx hb d_Md_head_37 rfl (lv_at hl 0 rfl) ?_
            refine lv_goto (tgt := 42) hx hb d_Md_head_38 (by decide) ?_
            refine lv_istore_n (lv' := [(2, .int 3), (3, .int 3), (0, .ref (bm 0)), (1, .int s)]) hx hb d_Md_head_42 rfl hl (by decide) rfl (fun ls hl => ?_)
            refine lv_iinc (v := 4) (k := 1) (lv' := [(3, .int 4), (2, .int 3), (0, .ref (bm 0)), (1, .int s)]) hx hb d_Md_head_43 hl rfl (by decide) (by decide) rfl (fun ls hl => ?_)
            refine lv_goto (tgt := 4) hx hb d_Md_head_46 (by decide) ?_
            refine lv_iload_n hx hb d_Md_head_4 rfl (lv_at hl 0 rfl) ?_
            refine lv_iconst (v := 4) hx hb d_Md_head_5 (by decide) ?_
            refine lv_icmp_ge (tgt := 49) hx hb d_Md_head_6 (by decide) (fun _ => ?_) (fun h => absurd h (by decide))
            refine lv_iload_n hx hb d_Md_head_49 rfl (lv_at hl 1 rfl) ?_
            exact kx_ret_i I rfl hw () (by simp only [f_Md_head, ← hp1, if_pos h2, ← hp3, if_pos h4, ← hp5, if_neg h6, ← hp9, if_neg h10, if_neg h11]) [0, 1, 2, 3, 4, 5, 6, 7] (by decide) rfl d_Md_head_50
    · refine lv_iload_n hx hb d_Md_head_18 rfl (lv_at hl 1 rfl) ?_
      refine lv_if_lt (tgt := 37) hx hb d_Md_head_19 (by decide) (fun _ => ?_) (fun h => absurd h (by decide))
      refine lv_iload_n hx hb d_Md_head_37 rfl (lv_at hl 0 rfl) ?_
      refine lv_goto (tgt := 42) hx hb d_Md_head_38 (by decide) ?_
      refine lv_istore_n (lv' := [(2, .int 1), (3, .int 1), (0, .ref (bm 0)), (1, .int s)]) hx hb d_Md_head_42 rfl hl (by decide) rfl (fun ls hl => ?_)
      refine lv_iinc (v := 2) (k := 1) (lv' := [(3, .int 2), (2, .int 1), (0, .ref (bm 0)), (1, .int s)]) hx hb d_Md_head_43 hl rfl (by decide) (by decide) rfl (fun ls hl => ?_)
      refine lv_goto (tgt := 4) hx hb d_Md_head_46 (by decide) ?_
      refine lv_iload_n hx hb d_Md_head_4 rfl (lv_at hl 0 rfl) ?_
      refine lv_iconst (v := 4) hx hb d_Md_head_5 (by decide) ?_
      refine lv_icmp_ge (tgt := 49) hx hb d_Md_head_6 (by decide) (fun h => absurd h (by decide)) (fun _ => ?_)
      refine lv_aload_n hx hb d_Md_head_9 rfl (lv_at hl 2 rfl) ?_
      refine lv_iload_n hx hb d_Md_head_10 rfl (lv_at hl 0 rfl) ?_
      refine lv_iload_n hx hb d_Md_head_11 rfl (lv_at hl 3 rfl) ?_
      refine kx_call_i (wc := [((bm 0), .inr (6, [.int mi.1, .int mi.2.1, .int mi.2.2.1, .ref (bm 1), .ref (bm 2), .ref (bm 3), .ref (bm 4), .ref (bm 5), .ref (bm 6), .ref (bm 7), .ref (bm 8), .ref (bm 9), .int mi.2.2.2.1, .ref (bm 10), .ref (bm 11), .ref (bm 12), .ref (bm 13), .ref (bm 14), .ref (bm 15), .ref (bm 16), .ref (bm 17), .int mi.2.2.2.2.1, .int mi.2.2.2.2.2.1, .int mi.2.2.2.2.2.2.1, .int mi.2.2.2.2.2.2.2.1, .ref (bm 18), .ref (bm 19), .ref (bm 20), .ref (bm 21), .int mi.2.2.2.2.2.2.2.2])), ((bm 1), .inl (cI, 4, .inl w.1)), ((bm 2), .inl (cI, 4, .inl w.2.1)), ((bm 3), .inl (cI, 4, .inl w.2.2.1)), ((bm 4), .inl (cI, 4, .inl w.2.2.2.1)), ((bm 5), .inl (cI, 4, .inl w.2.2.2.2.1)), ((bm 6), .inl (cI, 4, .inl w.2.2.2.2.2.1)), ((bm 7), .inl (cI, 4, .inl w.2.2.2.2.2.2))]) (wr := []) (rest := []) hw [0, 1, 2, 3, 4, 5, 6, 7] [] rfl rfl (by decide) (by decide) (kx_runV S hw fc_Md_85 rfl 0 rfl [0, 1, 2, 3, 4, 5, 6, 7] (by decide) rfl (c_Md_stands l D cI cZ cO bm mi w 2 s ((by unfold vp_in; decide)) H.size) rfl hl.1 rfl (Nat.le_of_ble_eq_true rfl) d_Md_head_12 (by decide) (by decide)) (fun r12 u12 H locs hp12 hw => ?_)
      obtain ⟨hp12, hb12⟩ := hp12
      have hw : kx_w D (kx_T cI cZ cO) A_ s_ [((bm 0), .inr (6, [.int mi.1, .int mi.2.1, .int mi.2.2.1, .ref (bm 1), .ref (bm 2), .ref (bm 3), .ref (bm 4), .ref (bm 5), .ref (bm 6), .ref (bm 7), .ref (bm 8), .ref (bm 9), .int mi.2.2.2.1, .ref (bm 10), .ref (bm 11), .ref (bm 12), .ref (bm 13), .ref (bm 14), .ref (bm 15), .ref (bm 16), .ref (bm 17), .int mi.2.2.2.2.1, .int mi.2.2.2.2.2.1, .int mi.2.2.2.2.2.2.1, .int mi.2.2.2.2.2.2.2.1, .ref (bm 18), .ref (bm 19), .ref (bm 20), .ref (bm 21), .int mi.2.2.2.2.2.2.2.2])), ((bm 1), .inl (cI, 4, .inl w.1)), ((bm 2), .inl (cI, 4, .inl w.2.1)), ((bm 3), .inl (cI, 4, .inl w.2.2.1)), ((bm 4), .inl (cI, 4, .inl w.2.2.2.1)), ((bm 5), .inl (cI, 4, .inl w.2.2.2.2.1)), ((bm 6), .inl (cI, 4, .inl w.2.2.2.2.2.1)), ((bm 7), .inl (cI, 4, .inl w.2.2.2.2.2.2))] H locs := hw
      refine lv_if_eq (tgt := 41) hx hb d_Md_head_15 (by decide) (fun h13 => ?_) (fun h13 => ?_)
      · refine lv_iload_n hx hb d_Md_head_41 rfl (lv_at hl 1 rfl) ?_
        refine lv_istore_n (lv' := [(2, .int 1), (3, .int 2), (0, .ref (bm 0)), (1, .int s)]) hx hb d_Md_head_42 rfl hl (by decide) rfl (fun ls hl => ?_)
        refine lv_iinc (v := 3) (k := 1) (lv' := [(3, .int 3), (2, .int 1), (0, .ref (bm 0)), (1, .int s)]) hx hb d_Md_head_43 hl rfl (by decide) (by decide) rfl (fun ls hl => ?_)
        refine lv_goto (tgt := 4) hx hb d_Md_head_46 (by decide) ?_
        refine lv_iload_n hx hb d_Md_head_4 rfl (lv_at hl 0 rfl) ?_
        refine lv_iconst (v := 4) hx hb d_Md_head_5 (by decide) ?_
        refine lv_icmp_ge (tgt := 49) hx hb d_Md_head_6 (by decide) (fun h => absurd h (by decide)) (fun _ => ?_)
        refine lv_aload_n hx hb d_Md_head_9 rfl (lv_at hl 2 rfl) ?_
        refine lv_iload_n hx hb d_Md_head_10 rfl (lv_at hl 0 rfl) ?_
        refine lv_iload_n hx hb d_Md_head_11 rfl (lv_at hl 3 rfl) ?_
        refine kx_call_i (wc := [((bm 0), .inr (6, [.int mi.1, .int mi.2.1, .int mi.2.2.1, .ref (bm 1), .ref (bm 2), .ref (bm 3), .ref (bm 4), .ref (bm 5), .ref (bm 6), .ref (bm 7), .ref (bm 8), .ref (bm 9), .int mi.2.2.2.1, .ref (bm 10), .ref (bm 11), .ref (bm 12), .ref (bm 13), .ref (bm 14), .ref (bm 15), .ref (bm 16), .ref (bm 17), .int mi.2.2.2.2.1, .int mi.2.2.2.2.2.1, .int mi.2.2.2.2.2.2.1, .int mi.2.2.2.2.2.2.2.1, .ref (bm 18), .ref (bm 19), .ref (bm 20), .ref (bm 21), .int mi.2.2.2.2.2.2.2.2])), ((bm 1), .inl (cI, 4, .inl w.1)), ((bm 2), .inl (cI, 4, .inl w.2.1)), ((bm 3), .inl (cI, 4, .inl w.2.2.1)), ((bm 4), .inl (cI, 4, .inl w.2.2.2.1)), ((bm 5), .inl (cI, 4, .inl w.2.2.2.2.1)), ((bm 6), .inl (cI, 4, .inl w.2.2.2.2.2.1)), ((bm 7), .inl (cI, 4, .inl w.2.2.2.2.2.2))]) (wr := []) (rest := []) hw [0, 1, 2, 3, 4, 5, 6, 7] [] rfl rfl (by decide) (by decide) (kx_runV S hw fc_Md_85 rfl 0 rfl [0, 1, 2, 3, 4, 5, 6, 7] (by decide) rfl (c_Md_stands l D cI cZ cO bm mi w 3 s ((by unfold vp_in; decide)) H.size) rfl hl.1 rfl (Nat.le_of_ble_eq_true rfl) d_Md_head_12 (by decide) (by decide)) (fun r14 u14 H locs hp14 hw => ?_)
        obtain ⟨hp14, hb14⟩ := hp14
        have hw : kx_w D (kx_T cI cZ cO) A_ s_ [((bm 0), .inr (6, [.int mi.1, .int mi.2.1, .int mi.2.2.1, .ref (bm 1), .ref (bm 2), .ref (bm 3), .ref (bm 4), .ref (bm 5), .ref (bm 6), .ref (bm 7), .ref (bm 8), .ref (bm 9), .int mi.2.2.2.1, .ref (bm 10), .ref (bm 11), .ref (bm 12), .ref (bm 13), .ref (bm 14), .ref (bm 15), .ref (bm 16), .ref (bm 17), .int mi.2.2.2.2.1, .int mi.2.2.2.2.2.1, .int mi.2.2.2.2.2.2.1, .int mi.2.2.2.2.2.2.2.1, .ref (bm 18), .ref (bm 19), .ref (bm 20), .ref (bm 21), .int mi.2.2.2.2.2.2.2.2])), ((bm 1), .inl (cI, 4, .inl w.1)), ((bm 2), .inl (cI, 4, .inl w.2.1)), ((bm 3), .inl (cI, 4, .inl w.2.2.1)), ((bm 4), .inl (cI, 4, .inl w.2.2.2.1)), ((bm 5), .inl (cI, 4, .inl w.2.2.2.2.1)), ((bm 6), .inl (cI, 4, .inl w.2.2.2.2.2.1)), ((bm 7), .inl (cI, 4, .inl w.2.2.2.2.2.2))] H locs := hw
        refine lv_if_eq (tgt := 41) hx hb d_Md_head_15 (by decide) (fun h15 => ?_) (fun h15 => ?_)
        · refine lv_iload_n hx hb d_Md_head_41 rfl (lv_at hl 1 rfl) ?_
          refine lv_istore_n (lv' := [(2, .int 1), (3, .int 3), (0, .ref (bm 0)), (1, .int s)]) hx hb d_Md_head_42 rfl hl (by decide) rfl (fun ls hl => ?_)
          refine lv_iinc (v := 4) (k := 1) (lv' := [(3, .int 4), (2, .int 1), (0, .ref (bm 0)), (1, .int s)]) hx hb d_Md_head_43 hl rfl (by decide) (by decide) rfl (fun ls hl => ?_)
          refine lv_goto (tgt := 4) hx hb d_Md_head_46 (by decide) ?_
          refine lv_iload_n hx hb d_Md_head_4 rfl (lv_at hl 0 rfl) ?_
          refine lv_iconst (v := 4) hx hb d_Md_head_5 (by decide) ?_
          refine lv_icmp_ge (tgt := 49) hx hb d_Md_head_6 (by decide) (fun _ => ?_) (fun h => absurd h (by decide))
          refine lv_iload_n hx hb d_Md_head_49 rfl (lv_at hl 1 rfl) ?_
          exact kx_ret_i I rfl hw () (by simp only [f_Md_head, ← hp1, if_pos h2, ← hp3, if_neg h4, ← hp12, if_pos h13, ← hp14, if_pos h15]) [0, 1, 2, 3, 4, 5, 6, 7] (by decide) rfl d_Md_head_50
        · refine lv_iload_n hx hb d_Md_head_18 rfl (lv_at hl 1 rfl) ?_
          refine lv_if_lt (tgt := 37) hx hb d_Md_head_19 (by decide) (fun h => absurd h (by decide)) (fun _ => ?_)
          refine lv_aload_n hx hb d_Md_head_22 rfl (lv_at hl 2 rfl) ?_
          refine kx_get S hw fg_Md_19 0 rfl rfl d_Md_head_23 ?_
          refine lv_iload_n hx hb d_Md_head_26 rfl (lv_at hl 0 rfl) ?_
          refine kx_iald S hw 4 0 rfl rfl (j := 3) (by decide) (by unfold vp_in; decide) d_Md_head_27 ?_
          refine lv_aload_n hx hb d_Md_head_28 rfl (lv_at hl 2 rfl) ?_
          refine kx_get S hw fg_Md_19 0 rfl rfl d_Md_head_29 ?_
          refine lv_iload_n hx hb d_Md_head_32 rfl (lv_at hl 1 rfl) ?_
          refine kx_iald S hw 4 0 rfl rfl (j := 1) (by decide) (by unfold vp_in; decide) d_Md_head_33 ?_
          refine lv_icmp_ge (tgt := 41) hx hb d_Md_head_34 (by decide) (fun h16 => ?_) (fun h16 => ?_)
          · refine lv_iload_n hx hb d_Md_head_41 rfl (lv_at hl 1 rfl) ?_
            refine lv_istore_n (lv' := [(2, .int 1), (3, .int 3), (0, .ref (bm 0)), (1, .int s)]) hx hb d_Md_head_42 rfl hl (by decide) rfl (fun ls hl => ?_)
            refine lv_iinc (v := 4) (k := 1) (lv' := [(3, .int 4), (2, .int 1), (0, .ref (bm 0)), (1, .int s)]) hx hb d_Md_head_43 hl rfl (by decide) (by decide) rfl (fun ls hl => ?_)
            refine lv_goto (tgt := 4) hx hb d_Md_head_46 (by decide) ?_
            refine lv_iload_n hx hb d_Md_head_4 rfl (lv_at hl 0 rfl) ?_
            refine lv_iconst (v := 4) hx hb d_Md_head_5 (by decide) ?_
            refine lv_icmp_ge (tgt := 49) hx hb d_Md_head_6 (by decide) (fun _ => ?_) (fun h => absurd h (by decide))
            refine lv_iload_n hx hb d_Md_head_49 rfl (lv_at hl 1 rfl) ?_
            exact kx_ret_i I rfl hw () (by simp only [f_Md_head, ← hp1, if_pos h2, ← hp3, if_neg h4, ← hp12, if_pos h13, ← hp14, if_neg h15, if_pos h16]) [0, 1, 2, 3, 4, 5, 6, 7] (by decide) rfl d_Md_head_50
          · refine lv_iload_n hx hb d_Md_head_37 rfl (lv_at hl 0 rfl) ?_
            refine lv_goto (tgt := 42) hx hb d_Md_head_38 (by decide) ?_
            refine lv_istore_n (lv' := [(2, .int 3), (3, .int 3), (0, .ref (bm 0)), (1, .int s)]) hx hb d_Md_head_42 rfl hl (by decide) rfl (fun ls hl => ?_)
            refine lv_iinc (v := 4) (k := 1) (lv' := [(3, .int 4), (2, .int 3), (0, .ref (bm 0)), (1, .int s)]) hx hb d_Md_head_43 hl rfl (by decide) (by decide) rfl (fun ls hl => ?_)
            refine lv_goto (tgt := 4) hx hb d_Md_head_46 (by decide) ?_
            refine lv_iload_n hx hb d_Md_head_4 rfl (lv_at hl 0 rfl) ?_
            refine lv_iconst (v := 4) hx hb d_Md_head_5 (by decide) ?_
            refine lv_icmp_ge (tgt := 49) hx hb d_Md_head_6 (by decide) (fun _ => ?_) (fun h => absurd h (by decide))
            refine lv_iload_n hx hb d_Md_head_49 rfl (lv_at hl 1 rfl) ?_
            exact kx_ret_i I rfl hw () (by simp only [f_Md_head, ← hp1, if_pos h2, ← hp3, if_neg h4, ← hp12, if_pos h13, ← hp14, if_neg h15, if_neg h16]) [0, 1, 2, 3, 4, 5, 6, 7] (by decide) rfl d_Md_head_50
      · refine lv_iload_n hx hb d_Md_head_18 rfl (lv_at hl 1 rfl) ?_
        refine lv_if_lt (tgt := 37) hx hb d_Md_head_19 (by decide) (fun h => absurd h (by decide)) (fun _ => ?_)
        refine lv_aload_n hx hb d_Md_head_22 rfl (lv_at hl 2 rfl) ?_
        refine kx_get S hw fg_Md_19 0 rfl rfl d_Md_head_23 ?_
        refine lv_iload_n hx hb d_Md_head_26 rfl (lv_at hl 0 rfl) ?_
        refine kx_iald S hw 4 0 rfl rfl (j := 2) (by decide) (by unfold vp_in; decide) d_Md_head_27 ?_
        refine lv_aload_n hx hb d_Md_head_28 rfl (lv_at hl 2 rfl) ?_
        refine kx_get S hw fg_Md_19 0 rfl rfl d_Md_head_29 ?_
        refine lv_iload_n hx hb d_Md_head_32 rfl (lv_at hl 1 rfl) ?_
        refine kx_iald S hw 4 0 rfl rfl (j := 1) (by decide) (by unfold vp_in; decide) d_Md_head_33 ?_
        refine lv_icmp_ge (tgt := 41) hx hb d_Md_head_34 (by decide) (fun h17 => ?_) (fun h17 => ?_)
        · refine lv_iload_n hx hb d_Md_head_41 rfl (lv_at hl 1 rfl) ?_
          refine lv_istore_n (lv' := [(2, .int 1), (3, .int 2), (0, .ref (bm 0)), (1, .int s)]) hx hb d_Md_head_42 rfl hl (by decide) rfl (fun ls hl => ?_)
          refine lv_iinc (v := 3) (k := 1) (lv' := [(3, .int 3), (2, .int 1), (0, .ref (bm 0)), (1, .int s)]) hx hb d_Md_head_43 hl rfl (by decide) (by decide) rfl (fun ls hl => ?_)
          refine lv_goto (tgt := 4) hx hb d_Md_head_46 (by decide) ?_
          refine lv_iload_n hx hb d_Md_head_4 rfl (lv_at hl 0 rfl) ?_
          refine lv_iconst (v := 4) hx hb d_Md_head_5 (by decide) ?_
          refine lv_icmp_ge (tgt := 49) hx hb d_Md_head_6 (by decide) (fun h => absurd h (by decide)) (fun _ => ?_)
          refine lv_aload_n hx hb d_Md_head_9 rfl (lv_at hl 2 rfl) ?_
          refine lv_iload_n hx hb d_Md_head_10 rfl (lv_at hl 0 rfl) ?_
          refine lv_iload_n hx hb d_Md_head_11 rfl (lv_at hl 3 rfl) ?_
          refine kx_call_i (wc := [((bm 0), .inr (6, [.int mi.1, .int mi.2.1, .int mi.2.2.1, .ref (bm 1), .ref (bm 2), .ref (bm 3), .ref (bm 4), .ref (bm 5), .ref (bm 6), .ref (bm 7), .ref (bm 8), .ref (bm 9), .int mi.2.2.2.1, .ref (bm 10), .ref (bm 11), .ref (bm 12), .ref (bm 13), .ref (bm 14), .ref (bm 15), .ref (bm 16), .ref (bm 17), .int mi.2.2.2.2.1, .int mi.2.2.2.2.2.1, .int mi.2.2.2.2.2.2.1, .int mi.2.2.2.2.2.2.2.1, .ref (bm 18), .ref (bm 19), .ref (bm 20), .ref (bm 21), .int mi.2.2.2.2.2.2.2.2])), ((bm 1), .inl (cI, 4, .inl w.1)), ((bm 2), .inl (cI, 4, .inl w.2.1)), ((bm 3), .inl (cI, 4, .inl w.2.2.1)), ((bm 4), .inl (cI, 4, .inl w.2.2.2.1)), ((bm 5), .inl (cI, 4, .inl w.2.2.2.2.1)), ((bm 6), .inl (cI, 4, .inl w.2.2.2.2.2.1)), ((bm 7), .inl (cI, 4, .inl w.2.2.2.2.2.2))]) (wr := []) (rest := []) hw [0, 1, 2, 3, 4, 5, 6, 7] [] rfl rfl (by decide) (by decide) (kx_runV S hw fc_Md_85 rfl 0 rfl [0, 1, 2, 3, 4, 5, 6, 7] (by decide) rfl (c_Md_stands l D cI cZ cO bm mi w 3 s ((by unfold vp_in; decide)) H.size) rfl hl.1 rfl (Nat.le_of_ble_eq_true rfl) d_Md_head_12 (by decide) (by decide)) (fun r18 u18 H locs hp18 hw => ?_)
          obtain ⟨hp18, hb18⟩ := hp18
          have hw : kx_w D (kx_T cI cZ cO) A_ s_ [((bm 0), .inr (6, [.int mi.1, .int mi.2.1, .int mi.2.2.1, .ref (bm 1), .ref (bm 2), .ref (bm 3), .ref (bm 4), .ref (bm 5), .ref (bm 6), .ref (bm 7), .ref (bm 8), .ref (bm 9), .int mi.2.2.2.1, .ref (bm 10), .ref (bm 11), .ref (bm 12), .ref (bm 13), .ref (bm 14), .ref (bm 15), .ref (bm 16), .ref (bm 17), .int mi.2.2.2.2.1, .int mi.2.2.2.2.2.1, .int mi.2.2.2.2.2.2.1, .int mi.2.2.2.2.2.2.2.1, .ref (bm 18), .ref (bm 19), .ref (bm 20), .ref (bm 21), .int mi.2.2.2.2.2.2.2.2])), ((bm 1), .inl (cI, 4, .inl w.1)), ((bm 2), .inl (cI, 4, .inl w.2.1)), ((bm 3), .inl (cI, 4, .inl w.2.2.1)), ((bm 4), .inl (cI, 4, .inl w.2.2.2.1)), ((bm 5), .inl (cI, 4, .inl w.2.2.2.2.1)), ((bm 6), .inl (cI, 4, .inl w.2.2.2.2.2.1)), ((bm 7), .inl (cI, 4, .inl w.2.2.2.2.2.2))] H locs := hw
          refine lv_if_eq (tgt := 41) hx hb d_Md_head_15 (by decide) (fun h19 => ?_) (fun h19 => ?_)
          · refine lv_iload_n hx hb d_Md_head_41 rfl (lv_at hl 1 rfl) ?_
            refine lv_istore_n (lv' := [(2, .int 1), (3, .int 3), (0, .ref (bm 0)), (1, .int s)]) hx hb d_Md_head_42 rfl hl (by decide) rfl (fun ls hl => ?_)
            refine lv_iinc (v := 4) (k := 1) (lv' := [(3, .int 4), (2, .int 1), (0, .ref (bm 0)), (1, .int s)]) hx hb d_Md_head_43 hl rfl (by decide) (by decide) rfl (fun ls hl => ?_)
            refine lv_goto (tgt := 4) hx hb d_Md_head_46 (by decide) ?_
            refine lv_iload_n hx hb d_Md_head_4 rfl (lv_at hl 0 rfl) ?_
            refine lv_iconst (v := 4) hx hb d_Md_head_5 (by decide) ?_
            refine lv_icmp_ge (tgt := 49) hx hb d_Md_head_6 (by decide) (fun _ => ?_) (fun h => absurd h (by decide))
            refine lv_iload_n hx hb d_Md_head_49 rfl (lv_at hl 1 rfl) ?_
            exact kx_ret_i I rfl hw () (by simp only [f_Md_head, ← hp1, if_pos h2, ← hp3, if_neg h4, ← hp12, if_neg h13, if_pos h17, ← hp18, if_pos h19]) [0, 1, 2, 3, 4, 5, 6, 7] (by decide) rfl d_Md_head_50
          · refine lv_iload_n hx hb d_Md_head_18 rfl (lv_at hl 1 rfl) ?_
            refine lv_if_lt (tgt := 37) hx hb d_Md_head_19 (by decide) (fun h => absurd h (by decide)) (fun _ => ?_)
            refine lv_aload_n hx hb d_Md_head_22 rfl (lv_at hl 2 rfl) ?_
            refine kx_get S hw fg_Md_19 0 rfl rfl d_Md_head_23 ?_
            refine lv_iload_n hx hb d_Md_head_26 rfl (lv_at hl 0 rfl) ?_
            refine kx_iald S hw 4 0 rfl rfl (j := 3) (by decide) (by unfold vp_in; decide) d_Md_head_27 ?_
            refine lv_aload_n hx hb d_Md_head_28 rfl (lv_at hl 2 rfl) ?_
            refine kx_get S hw fg_Md_19 0 rfl rfl d_Md_head_29 ?_
            refine lv_iload_n hx hb d_Md_head_32 rfl (lv_at hl 1 rfl) ?_
            refine kx_iald S hw 4 0 rfl rfl (j := 1) (by decide) (by unfold vp_in; decide) d_Md_head_33 ?_
            refine lv_icmp_ge (tgt := 41) hx hb d_Md_head_34 (by decide) (fun h20 => ?_) (fun h20 => ?_)
            · refine lv_iload_n hx hb d_Md_head_41 rfl (lv_at hl 1 rfl) ?_
              refine lv_istore_n (lv' := [(2, .int 1), (3, .int 3), (0, .ref (bm 0)), (1, .int s)]) hx hb d_Md_head_42 rfl hl (by decide) rfl (fun ls hl => ?_)
              refine lv_iinc (v := 4) (k := 1) (lv' := [(3, .int 4), (2, .int 1), (0, .ref (bm 0)), (1, .int s)]) hx hb d_Md_head_43 hl rfl (by decide) (by decide) rfl (fun ls hl => ?_)
              refine lv_goto (tgt := 4) hx hb d_Md_head_46 (by decide) ?_
              refine lv_iload_n hx hb d_Md_head_4 rfl (lv_at hl 0 rfl) ?_
              refine lv_iconst (v := 4) hx hb d_Md_head_5 (by decide) ?_
              refine lv_icmp_ge (tgt := 49) hx hb d_Md_head_6 (by decide) (fun _ => ?_) (fun h => absurd h (by decide))
              refine lv_iload_n hx hb d_Md_head_49 rfl (lv_at hl 1 rfl) ?_
              exact kx_ret_i I rfl hw () (by simp only [f_Md_head, ← hp1, if_pos h2, ← hp3, if_neg h4, ← hp12, if_neg h13, if_pos h17, ← hp18, if_neg h19, if_pos h20]) [0, 1, 2, 3, 4, 5, 6, 7] (by decide) rfl d_Md_head_50
            · refine lv_iload_n hx hb d_Md_head_37 rfl (lv_at hl 0 rfl) ?_
              refine lv_goto (tgt := 42) hx hb d_Md_head_38 (by decide) ?_
              refine lv_istore_n (lv' := [(2, .int 3), (3, .int 3), (0, .ref (bm 0)), (1, .int s)]) hx hb d_Md_head_42 rfl hl (by decide) rfl (fun ls hl => ?_)
              refine lv_iinc (v := 4) (k := 1) (lv' := [(3, .int 4), (2, .int 3), (0, .ref (bm 0)), (1, .int s)]) hx hb d_Md_head_43 hl rfl (by decide) (by decide) rfl (fun ls hl => ?_)
              refine lv_goto (tgt := 4) hx hb d_Md_head_46 (by decide) ?_
              refine lv_iload_n hx hb d_Md_head_4 rfl (lv_at hl 0 rfl) ?_
              refine lv_iconst (v := 4) hx hb d_Md_head_5 (by decide) ?_
              refine lv_icmp_ge (tgt := 49) hx hb d_Md_head_6 (by decide) (fun _ => ?_) (fun h => absurd h (by decide))
              refine lv_iload_n hx hb d_Md_head_49 rfl (lv_at hl 1 rfl) ?_
              exact kx_ret_i I rfl hw () (by simp only [f_Md_head, ← hp1, if_pos h2, ← hp3, if_neg h4, ← hp12, if_neg h13, if_pos h17, ← hp18, if_neg h19, if_neg h20]) [0, 1, 2, 3, 4, 5, 6, 7] (by decide) rfl d_Md_head_50
        · refine lv_iload_n hx hb d_Md_head_37 rfl (lv_at hl 0 rfl) ?_
          refine lv_goto (tgt := 42) hx hb d_Md_head_38 (by decide) ?_
          refine lv_istore_n (lv' := [(2, .int 2), (3, .int 2), (0, .ref (bm 0)), (1, .int s)]) hx hb d_Md_head_42 rfl hl (by decide) rfl (fun ls hl => ?_)
          refine lv_iinc (v := 3) (k := 1) (lv' := [(3, .int 3), (2, .int 2), (0, .ref (bm 0)), (1, .int s)]) hx hb d_Md_head_43 hl rfl (by decide) (by decide) rfl (fun ls hl => ?_)
          refine lv_goto (tgt := 4) hx hb d_Md_head_46 (by decide) ?_
          refine lv_iload_n hx hb d_Md_head_4 rfl (lv_at hl 0 rfl) ?_
          refine lv_iconst (v := 4) hx hb d_Md_head_5 (by decide) ?_
          refine lv_icmp_ge (tgt := 49) hx hb d_Md_head_6 (by decide) (fun h => absurd h (by decide)) (fun _ => ?_)
          refine lv_aload_n hx hb d_Md_head_9 rfl (lv_at hl 2 rfl) ?_
          refine lv_iload_n hx hb d_Md_head_10 rfl (lv_at hl 0 rfl) ?_
          refine lv_iload_n hx hb d_Md_head_11 rfl (lv_at hl 3 rfl) ?_
          refine kx_call_i (wc := [((bm 0), .inr (6, [.int mi.1, .int mi.2.1, .int mi.2.2.1, .ref (bm 1), .ref (bm 2), .ref (bm 3), .ref (bm 4), .ref (bm 5), .ref (bm 6), .ref (bm 7), .ref (bm 8), .ref (bm 9), .int mi.2.2.2.1, .ref (bm 10), .ref (bm 11), .ref (bm 12), .ref (bm 13), .ref (bm 14), .ref (bm 15), .ref (bm 16), .ref (bm 17), .int mi.2.2.2.2.1, .int mi.2.2.2.2.2.1, .int mi.2.2.2.2.2.2.1, .int mi.2.2.2.2.2.2.2.1, .ref (bm 18), .ref (bm 19), .ref (bm 20), .ref (bm 21), .int mi.2.2.2.2.2.2.2.2])), ((bm 1), .inl (cI, 4, .inl w.1)), ((bm 2), .inl (cI, 4, .inl w.2.1)), ((bm 3), .inl (cI, 4, .inl w.2.2.1)), ((bm 4), .inl (cI, 4, .inl w.2.2.2.1)), ((bm 5), .inl (cI, 4, .inl w.2.2.2.2.1)), ((bm 6), .inl (cI, 4, .inl w.2.2.2.2.2.1)), ((bm 7), .inl (cI, 4, .inl w.2.2.2.2.2.2))]) (wr := []) (rest := []) hw [0, 1, 2, 3, 4, 5, 6, 7] [] rfl rfl (by decide) (by decide) (kx_runV S hw fc_Md_85 rfl 0 rfl [0, 1, 2, 3, 4, 5, 6, 7] (by decide) rfl (c_Md_stands l D cI cZ cO bm mi w 3 s ((by unfold vp_in; decide)) H.size) rfl hl.1 rfl (Nat.le_of_ble_eq_true rfl) d_Md_head_12 (by decide) (by decide)) (fun r21 u21 H locs hp21 hw => ?_)
          obtain ⟨hp21, hb21⟩ := hp21
          have hw : kx_w D (kx_T cI cZ cO) A_ s_ [((bm 0), .inr (6, [.int mi.1, .int mi.2.1, .int mi.2.2.1, .ref (bm 1), .ref (bm 2), .ref (bm 3), .ref (bm 4), .ref (bm 5), .ref (bm 6), .ref (bm 7), .ref (bm 8), .ref (bm 9), .int mi.2.2.2.1, .ref (bm 10), .ref (bm 11), .ref (bm 12), .ref (bm 13), .ref (bm 14), .ref (bm 15), .ref (bm 16), .ref (bm 17), .int mi.2.2.2.2.1, .int mi.2.2.2.2.2.1, .int mi.2.2.2.2.2.2.1, .int mi.2.2.2.2.2.2.2.1, .ref (bm 18), .ref (bm 19), .ref (bm 20), .ref (bm 21), .int mi.2.2.2.2.2.2.2.2])), ((bm 1), .inl (cI, 4, .inl w.1)), ((bm 2), .inl (cI, 4, .inl w.2.1)), ((bm 3), .inl (cI, 4, .inl w.2.2.1)), ((bm 4), .inl (cI, 4, .inl w.2.2.2.1)), ((bm 5), .inl (cI, 4, .inl w.2.2.2.2.1)), ((bm 6), .inl (cI, 4, .inl w.2.2.2.2.2.1)), ((bm 7), .inl (cI, 4, .inl w.2.2.2.2.2.2))] H locs := hw
          refine lv_if_eq (tgt := 41) hx hb d_Md_head_15 (by decide) (fun h22 => ?_) (fun h22 => ?_)
          · refine lv_iload_n hx hb d_Md_head_41 rfl (lv_at hl 1 rfl) ?_
            refine lv_istore_n (lv' := [(2, .int 2), (3, .int 3), (0, .ref (bm 0)), (1, .int s)]) hx hb d_Md_head_42 rfl hl (by decide) rfl (fun ls hl => ?_)
            refine lv_iinc (v := 4) (k := 1) (lv' := [(3, .int 4), (2, .int 2), (0, .ref (bm 0)), (1, .int s)]) hx hb d_Md_head_43 hl rfl (by decide) (by decide) rfl (fun ls hl => ?_)
            refine lv_goto (tgt := 4) hx hb d_Md_head_46 (by decide) ?_
            refine lv_iload_n hx hb d_Md_head_4 rfl (lv_at hl 0 rfl) ?_
            refine lv_iconst (v := 4) hx hb d_Md_head_5 (by decide) ?_
            refine lv_icmp_ge (tgt := 49) hx hb d_Md_head_6 (by decide) (fun _ => ?_) (fun h => absurd h (by decide))
            refine lv_iload_n hx hb d_Md_head_49 rfl (lv_at hl 1 rfl) ?_
            exact kx_ret_i I rfl hw () (by simp only [f_Md_head, ← hp1, if_pos h2, ← hp3, if_neg h4, ← hp12, if_neg h13, if_neg h17, ← hp21, if_pos h22]) [0, 1, 2, 3, 4, 5, 6, 7] (by decide) rfl d_Md_head_50
          · refine lv_iload_n hx hb d_Md_head_18 rfl (lv_at hl 1 rfl) ?_
            refine lv_if_lt (tgt := 37) hx hb d_Md_head_19 (by decide) (fun h => absurd h (by decide)) (fun _ => ?_)
            refine lv_aload_n hx hb d_Md_head_22 rfl (lv_at hl 2 rfl) ?_
            refine kx_get S hw fg_Md_19 0 rfl rfl d_Md_head_23 ?_
            refine lv_iload_n hx hb d_Md_head_26 rfl (lv_at hl 0 rfl) ?_
            refine kx_iald S hw 4 0 rfl rfl (j := 3) (by decide) (by unfold vp_in; decide) d_Md_head_27 ?_
            refine lv_aload_n hx hb d_Md_head_28 rfl (lv_at hl 2 rfl) ?_
            refine kx_get S hw fg_Md_19 0 rfl rfl d_Md_head_29 ?_
            refine lv_iload_n hx hb d_Md_head_32 rfl (lv_at hl 1 rfl) ?_
            refine kx_iald S hw 4 0 rfl rfl (j := 2) (by decide) (by unfold vp_in; decide) d_Md_head_33 ?_
            refine lv_icmp_ge (tgt := 41) hx hb d_Md_head_34 (by decide) (fun h23 => ?_) (fun h23 => ?_)
            · refine lv_iload_n hx hb d_Md_head_41 rfl (lv_at hl 1 rfl) ?_
              refine lv_istore_n (lv' := [(2, .int 2), (3, .int 3), (0, .ref (bm 0)), (1, .int s)]) hx hb d_Md_head_42 rfl hl (by decide) rfl (fun ls hl => ?_)
              refine lv_iinc (v := 4) (k := 1) (lv' := [(3, .int 4), (2, .int 2), (0, .ref (bm 0)), (1, .int s)]) hx hb d_Md_head_43 hl rfl (by decide) (by decide) rfl (fun ls hl => ?_)
              refine lv_goto (tgt := 4) hx hb d_Md_head_46 (by decide) ?_
              refine lv_iload_n hx hb d_Md_head_4 rfl (lv_at hl 0 rfl) ?_
              refine lv_iconst (v := 4) hx hb d_Md_head_5 (by decide) ?_
              refine lv_icmp_ge (tgt := 49) hx hb d_Md_head_6 (by decide) (fun _ => ?_) (fun h => absurd h (by decide))
              refine lv_iload_n hx hb d_Md_head_49 rfl (lv_at hl 1 rfl) ?_
              exact kx_ret_i I rfl hw () (by simp only [f_Md_head, ← hp1, if_pos h2, ← hp3, if_neg h4, ← hp12, if_neg h13, if_neg h17, ← hp21, if_neg h22, if_pos h23]) [0, 1, 2, 3, 4, 5, 6, 7] (by decide) rfl d_Md_head_50
            · refine lv_iload_n hx hb d_Md_head_37 rfl (lv_at hl 0 rfl) ?_
              refine lv_goto (tgt := 42) hx hb d_Md_head_38 (by decide) ?_
              refine lv_istore_n (lv' := [(2, .int 3), (3, .int 3), (0, .ref (bm 0)), (1, .int s)]) hx hb d_Md_head_42 rfl hl (by decide) rfl (fun ls hl => ?_)
              refine lv_iinc (v := 4) (k := 1) (lv' := [(3, .int 4), (2, .int 3), (0, .ref (bm 0)), (1, .int s)]) hx hb d_Md_head_43 hl rfl (by decide) (by decide) rfl (fun ls hl => ?_)
              refine lv_goto (tgt := 4) hx hb d_Md_head_46 (by decide) ?_
              refine lv_iload_n hx hb d_Md_head_4 rfl (lv_at hl 0 rfl) ?_
              refine lv_iconst (v := 4) hx hb d_Md_head_5 (by decide) ?_
              refine lv_icmp_ge (tgt := 49) hx hb d_Md_head_6 (by decide) (fun _ => ?_) (fun h => absurd h (by decide))
              refine lv_iload_n hx hb d_Md_head_49 rfl (lv_at hl 1 rfl) ?_
              exact kx_ret_i I rfl hw () (by simp only [f_Md_head, ← hp1, if_pos h2, ← hp3, if_neg h4, ← hp12, if_neg h13, if_neg h17, ← hp21, if_neg h22, if_neg h23]) [0, 1, 2, 3, 4, 5, 6, 7] (by decide) rfl d_Md_head_50
  · refine lv_iload_n hx hb d_Md_head_18 rfl (lv_at hl 1 rfl) ?_
    refine lv_if_lt (tgt := 37) hx hb d_Md_head_19 (by decide) (fun _ => ?_) (fun h => absurd h (by decide))
    refine lv_iload_n hx hb d_Md_head_37 rfl (lv_at hl 0 rfl) ?_
    refine lv_goto (tgt := 42) hx hb d_Md_head_38 (by decide) ?_
    refine lv_istore_n (lv' := [(2, .int 0), (3, .int 0), (0, .ref (bm 0)), (1, .int s)]) hx hb d_Md_head_42 rfl hl (by decide) rfl (fun ls hl => ?_)
    refine lv_iinc (v := 1) (k := 1) (lv' := [(3, .int 1), (2, .int 0), (0, .ref (bm 0)), (1, .int s)]) hx hb d_Md_head_43 hl rfl (by decide) (by decide) rfl (fun ls hl => ?_)
    refine lv_goto (tgt := 4) hx hb d_Md_head_46 (by decide) ?_
    refine lv_iload_n hx hb d_Md_head_4 rfl (lv_at hl 0 rfl) ?_
    refine lv_iconst (v := 4) hx hb d_Md_head_5 (by decide) ?_
    refine lv_icmp_ge (tgt := 49) hx hb d_Md_head_6 (by decide) (fun h => absurd h (by decide)) (fun _ => ?_)
    refine lv_aload_n hx hb d_Md_head_9 rfl (lv_at hl 2 rfl) ?_
    refine lv_iload_n hx hb d_Md_head_10 rfl (lv_at hl 0 rfl) ?_
    refine lv_iload_n hx hb d_Md_head_11 rfl (lv_at hl 3 rfl) ?_
    refine kx_call_i (wc := [((bm 0), .inr (6, [.int mi.1, .int mi.2.1, .int mi.2.2.1, .ref (bm 1), .ref (bm 2), .ref (bm 3), .ref (bm 4), .ref (bm 5), .ref (bm 6), .ref (bm 7), .ref (bm 8), .ref (bm 9), .int mi.2.2.2.1, .ref (bm 10), .ref (bm 11), .ref (bm 12), .ref (bm 13), .ref (bm 14), .ref (bm 15), .ref (bm 16), .ref (bm 17), .int mi.2.2.2.2.1, .int mi.2.2.2.2.2.1, .int mi.2.2.2.2.2.2.1, .int mi.2.2.2.2.2.2.2.1, .ref (bm 18), .ref (bm 19), .ref (bm 20), .ref (bm 21), .int mi.2.2.2.2.2.2.2.2])), ((bm 1), .inl (cI, 4, .inl w.1)), ((bm 2), .inl (cI, 4, .inl w.2.1)), ((bm 3), .inl (cI, 4, .inl w.2.2.1)), ((bm 4), .inl (cI, 4, .inl w.2.2.2.1)), ((bm 5), .inl (cI, 4, .inl w.2.2.2.2.1)), ((bm 6), .inl (cI, 4, .inl w.2.2.2.2.2.1)), ((bm 7), .inl (cI, 4, .inl w.2.2.2.2.2.2))]) (wr := []) (rest := []) hw [0, 1, 2, 3, 4, 5, 6, 7] [] rfl rfl (by decide) (by decide) (kx_runV S hw fc_Md_85 rfl 0 rfl [0, 1, 2, 3, 4, 5, 6, 7] (by decide) rfl (c_Md_stands l D cI cZ cO bm mi w 1 s ((by unfold vp_in; decide)) H.size) rfl hl.1 rfl (Nat.le_of_ble_eq_true rfl) d_Md_head_12 (by decide) (by decide)) (fun r24 u24 H locs hp24 hw => ?_)
    obtain ⟨hp24, hb24⟩ := hp24
    have hw : kx_w D (kx_T cI cZ cO) A_ s_ [((bm 0), .inr (6, [.int mi.1, .int mi.2.1, .int mi.2.2.1, .ref (bm 1), .ref (bm 2), .ref (bm 3), .ref (bm 4), .ref (bm 5), .ref (bm 6), .ref (bm 7), .ref (bm 8), .ref (bm 9), .int mi.2.2.2.1, .ref (bm 10), .ref (bm 11), .ref (bm 12), .ref (bm 13), .ref (bm 14), .ref (bm 15), .ref (bm 16), .ref (bm 17), .int mi.2.2.2.2.1, .int mi.2.2.2.2.2.1, .int mi.2.2.2.2.2.2.1, .int mi.2.2.2.2.2.2.2.1, .ref (bm 18), .ref (bm 19), .ref (bm 20), .ref (bm 21), .int mi.2.2.2.2.2.2.2.2])), ((bm 1), .inl (cI, 4, .inl w.1)), ((bm 2), .inl (cI, 4, .inl w.2.1)), ((bm 3), .inl (cI, 4, .inl w.2.2.1)), ((bm 4), .inl (cI, 4, .inl w.2.2.2.1)), ((bm 5), .inl (cI, 4, .inl w.2.2.2.2.1)), ((bm 6), .inl (cI, 4, .inl w.2.2.2.2.2.1)), ((bm 7), .inl (cI, 4, .inl w.2.2.2.2.2.2))] H locs := hw
    refine lv_if_eq (tgt := 41) hx hb d_Md_head_15 (by decide) (fun h25 => ?_) (fun h25 => ?_)
    · refine lv_iload_n hx hb d_Md_head_41 rfl (lv_at hl 1 rfl) ?_
      refine lv_istore_n (lv' := [(2, .int 0), (3, .int 1), (0, .ref (bm 0)), (1, .int s)]) hx hb d_Md_head_42 rfl hl (by decide) rfl (fun ls hl => ?_)
      refine lv_iinc (v := 2) (k := 1) (lv' := [(3, .int 2), (2, .int 0), (0, .ref (bm 0)), (1, .int s)]) hx hb d_Md_head_43 hl rfl (by decide) (by decide) rfl (fun ls hl => ?_)
      refine lv_goto (tgt := 4) hx hb d_Md_head_46 (by decide) ?_
      refine lv_iload_n hx hb d_Md_head_4 rfl (lv_at hl 0 rfl) ?_
      refine lv_iconst (v := 4) hx hb d_Md_head_5 (by decide) ?_
      refine lv_icmp_ge (tgt := 49) hx hb d_Md_head_6 (by decide) (fun h => absurd h (by decide)) (fun _ => ?_)
      refine lv_aload_n hx hb d_Md_head_9 rfl (lv_at hl 2 rfl) ?_
      refine lv_iload_n hx hb d_Md_head_10 rfl (lv_at hl 0 rfl) ?_
      refine lv_iload_n hx hb d_Md_head_11 rfl (lv_at hl 3 rfl) ?_
      refine kx_call_i (wc := [((bm 0), .inr (6, [.int mi.1, .int mi.2.1, .int mi.2.2.1, .ref (bm 1), .ref (bm 2), .ref (bm 3), .ref (bm 4), .ref (bm 5), .ref (bm 6), .ref (bm 7), .ref (bm 8), .ref (bm 9), .int mi.2.2.2.1, .ref (bm 10), .ref (bm 11), .ref (bm 12), .ref (bm 13), .ref (bm 14), .ref (bm 15), .ref (bm 16), .ref (bm 17), .int mi.2.2.2.2.1, .int mi.2.2.2.2.2.1, .int mi.2.2.2.2.2.2.1, .int mi.2.2.2.2.2.2.2.1, .ref (bm 18), .ref (bm 19), .ref (bm 20), .ref (bm 21), .int mi.2.2.2.2.2.2.2.2])), ((bm 1), .inl (cI, 4, .inl w.1)), ((bm 2), .inl (cI, 4, .inl w.2.1)), ((bm 3), .inl (cI, 4, .inl w.2.2.1)), ((bm 4), .inl (cI, 4, .inl w.2.2.2.1)), ((bm 5), .inl (cI, 4, .inl w.2.2.2.2.1)), ((bm 6), .inl (cI, 4, .inl w.2.2.2.2.2.1)), ((bm 7), .inl (cI, 4, .inl w.2.2.2.2.2.2))]) (wr := []) (rest := []) hw [0, 1, 2, 3, 4, 5, 6, 7] [] rfl rfl (by decide) (by decide) (kx_runV S hw fc_Md_85 rfl 0 rfl [0, 1, 2, 3, 4, 5, 6, 7] (by decide) rfl (c_Md_stands l D cI cZ cO bm mi w 2 s ((by unfold vp_in; decide)) H.size) rfl hl.1 rfl (Nat.le_of_ble_eq_true rfl) d_Md_head_12 (by decide) (by decide)) (fun r26 u26 H locs hp26 hw => ?_)
      obtain ⟨hp26, hb26⟩ := hp26
      have hw : kx_w D (kx_T cI cZ cO) A_ s_ [((bm 0), .inr (6, [.int mi.1, .int mi.2.1, .int mi.2.2.1, .ref (bm 1), .ref (bm 2), .ref (bm 3), .ref (bm 4), .ref (bm 5), .ref (bm 6), .ref (bm 7), .ref (bm 8), .ref (bm 9), .int mi.2.2.2.1, .ref (bm 10), .ref (bm 11), .ref (bm 12), .ref (bm 13), .ref (bm 14), .ref (bm 15), .ref (bm 16), .ref (bm 17), .int mi.2.2.2.2.1, .int mi.2.2.2.2.2.1, .int mi.2.2.2.2.2.2.1, .int mi.2.2.2.2.2.2.2.1, .ref (bm 18), .ref (bm 19), .ref (bm 20), .ref (bm 21), .int mi.2.2.2.2.2.2.2.2])), ((bm 1), .inl (cI, 4, .inl w.1)), ((bm 2), .inl (cI, 4, .inl w.2.1)), ((bm 3), .inl (cI, 4, .inl w.2.2.1)), ((bm 4), .inl (cI, 4, .inl w.2.2.2.1)), ((bm 5), .inl (cI, 4, .inl w.2.2.2.2.1)), ((bm 6), .inl (cI, 4, .inl w.2.2.2.2.2.1)), ((bm 7), .inl (cI, 4, .inl w.2.2.2.2.2.2))] H locs := hw
      refine lv_if_eq (tgt := 41) hx hb d_Md_head_15 (by decide) (fun h27 => ?_) (fun h27 => ?_)
      · refine lv_iload_n hx hb d_Md_head_41 rfl (lv_at hl 1 rfl) ?_
        refine lv_istore_n (lv' := [(2, .int 0), (3, .int 2), (0, .ref (bm 0)), (1, .int s)]) hx hb d_Md_head_42 rfl hl (by decide) rfl (fun ls hl => ?_)
        refine lv_iinc (v := 3) (k := 1) (lv' := [(3, .int 3), (2, .int 0), (0, .ref (bm 0)), (1, .int s)]) hx hb d_Md_head_43 hl rfl (by decide) (by decide) rfl (fun ls hl => ?_)
        refine lv_goto (tgt := 4) hx hb d_Md_head_46 (by decide) ?_
        refine lv_iload_n hx hb d_Md_head_4 rfl (lv_at hl 0 rfl) ?_
        refine lv_iconst (v := 4) hx hb d_Md_head_5 (by decide) ?_
        refine lv_icmp_ge (tgt := 49) hx hb d_Md_head_6 (by decide) (fun h => absurd h (by decide)) (fun _ => ?_)
        refine lv_aload_n hx hb d_Md_head_9 rfl (lv_at hl 2 rfl) ?_
        refine lv_iload_n hx hb d_Md_head_10 rfl (lv_at hl 0 rfl) ?_
        refine lv_iload_n hx hb d_Md_head_11 rfl (lv_at hl 3 rfl) ?_
        refine kx_call_i (wc := [((bm 0), .inr (6, [.int mi.1, .int mi.2.1, .int mi.2.2.1, .ref (bm 1), .ref (bm 2), .ref (bm 3), .ref (bm 4), .ref (bm 5), .ref (bm 6), .ref (bm 7), .ref (bm 8), .ref (bm 9), .int mi.2.2.2.1, .ref (bm 10), .ref (bm 11), .ref (bm 12), .ref (bm 13), .ref (bm 14), .ref (bm 15), .ref (bm 16), .ref (bm 17), .int mi.2.2.2.2.1, .int mi.2.2.2.2.2.1, .int mi.2.2.2.2.2.2.1, .int mi.2.2.2.2.2.2.2.1, .ref (bm 18), .ref (bm 19), .ref (bm 20), .ref (bm 21), .int mi.2.2.2.2.2.2.2.2])), ((bm 1), .inl (cI, 4, .inl w.1)), ((bm 2), .inl (cI, 4, .inl w.2.1)), ((bm 3), .inl (cI, 4, .inl w.2.2.1)), ((bm 4), .inl (cI, 4, .inl w.2.2.2.1)), ((bm 5), .inl (cI, 4, .inl w.2.2.2.2.1)), ((bm 6), .inl (cI, 4, .inl w.2.2.2.2.2.1)), ((bm 7), .inl (cI, 4, .inl w.2.2.2.2.2.2))]) (wr := []) (rest := []) hw [0, 1, 2, 3, 4, 5, 6, 7] [] rfl rfl (by decide) (by decide) (kx_runV S hw fc_Md_85 rfl 0 rfl [0, 1, 2, 3, 4, 5, 6, 7] (by decide) rfl (c_Md_stands l D cI cZ cO bm mi w 3 s ((by unfold vp_in; decide)) H.size) rfl hl.1 rfl (Nat.le_of_ble_eq_true rfl) d_Md_head_12 (by decide) (by decide)) (fun r28 u28 H locs hp28 hw => ?_)
        obtain ⟨hp28, hb28⟩ := hp28
        have hw : kx_w D (kx_T cI cZ cO) A_ s_ [((bm 0), .inr (6, [.int mi.1, .int mi.2.1, .int mi.2.2.1, .ref (bm 1), .ref (bm 2), .ref (bm 3), .ref (bm 4), .ref (bm 5), .ref (bm 6), .ref (bm 7), .ref (bm 8), .ref (bm 9), .int mi.2.2.2.1, .ref (bm 10), .ref (bm 11), .ref (bm 12), .ref (bm 13), .ref (bm 14), .ref (bm 15), .ref (bm 16), .ref (bm 17), .int mi.2.2.2.2.1, .int mi.2.2.2.2.2.1, .int mi.2.2.2.2.2.2.1, .int mi.2.2.2.2.2.2.2.1, .ref (bm 18), .ref (bm 19), .ref (bm 20), .ref (bm 21), .int mi.2.2.2.2.2.2.2.2])), ((bm 1), .inl (cI, 4, .inl w.1)), ((bm 2), .inl (cI, 4, .inl w.2.1)), ((bm 3), .inl (cI, 4, .inl w.2.2.1)), ((bm 4), .inl (cI, 4, .inl w.2.2.2.1)), ((bm 5), .inl (cI, 4, .inl w.2.2.2.2.1)), ((bm 6), .inl (cI, 4, .inl w.2.2.2.2.2.1)), ((bm 7), .inl (cI, 4, .inl w.2.2.2.2.2.2))] H locs := hw
        refine lv_if_eq (tgt := 41) hx hb d_Md_head_15 (by decide) (fun h29 => ?_) (fun h29 => ?_)
        · refine lv_iload_n hx hb d_Md_head_41 rfl (lv_at hl 1 rfl) ?_
          refine lv_istore_n (lv' := [(2, .int 0), (3, .int 3), (0, .ref (bm 0)), (1, .int s)]) hx hb d_Md_head_42 rfl hl (by decide) rfl (fun ls hl => ?_)
          refine lv_iinc (v := 4) (k := 1) (lv' := [(3, .int 4), (2, .int 0), (0, .ref (bm 0)), (1, .int s)]) hx hb d_Md_head_43 hl rfl (by decide) (by decide) rfl (fun ls hl => ?_)
          refine lv_goto (tgt := 4) hx hb d_Md_head_46 (by decide) ?_
          refine lv_iload_n hx hb d_Md_head_4 rfl (lv_at hl 0 rfl) ?_
          refine lv_iconst (v := 4) hx hb d_Md_head_5 (by decide) ?_
          refine lv_icmp_ge (tgt := 49) hx hb d_Md_head_6 (by decide) (fun _ => ?_) (fun h => absurd h (by decide))
          refine lv_iload_n hx hb d_Md_head_49 rfl (lv_at hl 1 rfl) ?_
          exact kx_ret_i I rfl hw () (by simp only [f_Md_head, ← hp1, if_neg h2, ← hp24, if_pos h25, ← hp26, if_pos h27, ← hp28, if_pos h29]) [0, 1, 2, 3, 4, 5, 6, 7] (by decide) rfl d_Md_head_50
        · refine lv_iload_n hx hb d_Md_head_18 rfl (lv_at hl 1 rfl) ?_
          refine lv_if_lt (tgt := 37) hx hb d_Md_head_19 (by decide) (fun h => absurd h (by decide)) (fun _ => ?_)
          refine lv_aload_n hx hb d_Md_head_22 rfl (lv_at hl 2 rfl) ?_
          refine kx_get S hw fg_Md_19 0 rfl rfl d_Md_head_23 ?_
          refine lv_iload_n hx hb d_Md_head_26 rfl (lv_at hl 0 rfl) ?_
          refine kx_iald S hw 4 0 rfl rfl (j := 3) (by decide) (by unfold vp_in; decide) d_Md_head_27 ?_
          refine lv_aload_n hx hb d_Md_head_28 rfl (lv_at hl 2 rfl) ?_
          refine kx_get S hw fg_Md_19 0 rfl rfl d_Md_head_29 ?_
          refine lv_iload_n hx hb d_Md_head_32 rfl (lv_at hl 1 rfl) ?_
          refine kx_iald S hw 4 0 rfl rfl (j := 0) (by decide) (by unfold vp_in; decide) d_Md_head_33 ?_
          refine lv_icmp_ge (tgt := 41) hx hb d_Md_head_34 (by decide) (fun h30 => ?_) (fun h30 => ?_)
          · refine lv_iload_n hx hb d_Md_head_41 rfl (lv_at hl 1 rfl) ?_
            refine lv_istore_n (lv' := [(2, .int 0), (3, .int 3), (0, .ref (bm 0)), (1, .int s)]) hx hb d_Md_head_42 rfl hl (by decide) rfl (fun ls hl => ?_)
            refine lv_iinc (v := 4) (k := 1) (lv' := [(3, .int 4), (2, .int 0), (0, .ref (bm 0)), (1, .int s)]) hx hb d_Md_head_43 hl rfl (by decide) (by decide) rfl (fun ls hl => ?_)
            refine lv_goto (tgt := 4) hx hb d_Md_head_46 (by decide) ?_
            refine lv_iload_n hx hb d_Md_head_4 rfl (lv_at hl 0 rfl) ?_
            refine lv_iconst (v := 4) hx hb d_Md_head_5 (by decide) ?_
            refine lv_icmp_ge (tgt := 49) hx hb d_Md_head_6 (by decide) (fun _ => ?_) (fun h => absurd h (by decide))
            refine lv_iload_n hx hb d_Md_head_49 rfl (lv_at hl 1 rfl) ?_
            exact kx_ret_i I rfl hw () (by simp only [f_Md_head, ← hp1, if_neg h2, ← hp24, if_pos h25, ← hp26, if_pos h27, ← hp28, if_neg h29, if_pos h30]) [0, 1, 2, 3, 4, 5, 6, 7] (by decide) rfl d_Md_head_50
          · refine lv_iload_n hx hb d_Md_head_37 rfl (lv_at hl 0 rfl) ?_
            refine lv_goto (tgt := 42) hx hb d_Md_head_38 (by decide) ?_
            refine lv_istore_n (lv' := [(2, .int 3), (3, .int 3), (0, .ref (bm 0)), (1, .int s)]) hx hb d_Md_head_42 rfl hl (by decide) rfl (fun ls hl => ?_)
            refine lv_iinc (v := 4) (k := 1) (lv' := [(3, .int 4), (2, .int 3), (0, .ref (bm 0)), (1, .int s)]) hx hb d_Md_head_43 hl rfl (by decide) (by decide) rfl (fun ls hl => ?_)
            refine lv_goto (tgt := 4) hx hb d_Md_head_46 (by decide) ?_
            refine lv_iload_n hx hb d_Md_head_4 rfl (lv_at hl 0 rfl) ?_
            refine lv_iconst (v := 4) hx hb d_Md_head_5 (by decide) ?_
            refine lv_icmp_ge (tgt := 49) hx hb d_Md_head_6 (by decide) (fun _ => ?_) (fun h => absurd h (by decide))
            refine lv_iload_n hx hb d_Md_head_49 rfl (lv_at hl 1 rfl) ?_
            exact kx_ret_i I rfl hw () (by simp only [f_Md_head, ← hp1, if_neg h2, ← hp24, if_pos h25, ← hp26, if_pos h27, ← hp28, if_neg h29, if_neg h30]) [0, 1, 2, 3, 4, 5, 6, 7] (by decide) rfl d_Md_head_50
      · refine lv_iload_n hx hb d_Md_head_18 rfl (lv_at hl 1 rfl) ?_
        refine lv_if_lt (tgt := 37) hx hb d_Md_head_19 (by decide) (fun h => absurd h (by decide)) (fun _ => ?_)
        refine lv_aload_n hx hb d_Md_head_22 rfl (lv_at hl 2 rfl) ?_
        refine kx_get S hw fg_Md_19 0 rfl rfl d_Md_head_23 ?_
        refine lv_iload_n hx hb d_Md_head_26 rfl (lv_at hl 0 rfl) ?_
        refine kx_iald S hw 4 0 rfl rfl (j := 2) (by decide) (by unfold vp_in; decide) d_Md_head_27 ?_
        refine lv_aload_n hx hb d_Md_head_28 rfl (lv_at hl 2 rfl) ?_
        refine kx_get S hw fg_Md_19 0 rfl rfl d_Md_head_29 ?_
        refine lv_iload_n hx hb d_Md_head_32 rfl (lv_at hl 1 rfl) ?_
        refine kx_iald S hw 4 0 rfl rfl (j := 0) (by decide) (by unfold vp_in; decide) d_Md_head_33 ?_
        refine lv_icmp_ge (tgt := 41) hx hb d_Md_head_34 (by decide) (fun h31 => ?_) (fun h31 => ?_)
        · refine lv_iload_n hx hb d_Md_head_41 rfl (lv_at hl 1 rfl) ?_
          refine lv_istore_n (lv' := [(2, .int 0), (3, .int 2), (0, .ref (bm 0)), (1, .int s)]) hx hb d_Md_head_42 rfl hl (by decide) rfl (fun ls hl => ?_)
          refine lv_iinc (v := 3) (k := 1) (lv' := [(3, .int 3), (2, .int 0), (0, .ref (bm 0)), (1, .int s)]) hx hb d_Md_head_43 hl rfl (by decide) (by decide) rfl (fun ls hl => ?_)
          refine lv_goto (tgt := 4) hx hb d_Md_head_46 (by decide) ?_
          refine lv_iload_n hx hb d_Md_head_4 rfl (lv_at hl 0 rfl) ?_
          refine lv_iconst (v := 4) hx hb d_Md_head_5 (by decide) ?_
          refine lv_icmp_ge (tgt := 49) hx hb d_Md_head_6 (by decide) (fun h => absurd h (by decide)) (fun _ => ?_)
          refine lv_aload_n hx hb d_Md_head_9 rfl (lv_at hl 2 rfl) ?_
          refine lv_iload_n hx hb d_Md_head_10 rfl (lv_at hl 0 rfl) ?_
          refine lv_iload_n hx hb d_Md_head_11 rfl (lv_at hl 3 rfl) ?_
          refine kx_call_i (wc := [((bm 0), .inr (6, [.int mi.1, .int mi.2.1, .int mi.2.2.1, .ref (bm 1), .ref (bm 2), .ref (bm 3), .ref (bm 4), .ref (bm 5), .ref (bm 6), .ref (bm 7), .ref (bm 8), .ref (bm 9), .int mi.2.2.2.1, .ref (bm 10), .ref (bm 11), .ref (bm 12), .ref (bm 13), .ref (bm 14), .ref (bm 15), .ref (bm 16), .ref (bm 17), .int mi.2.2.2.2.1, .int mi.2.2.2.2.2.1, .int mi.2.2.2.2.2.2.1, .int mi.2.2.2.2.2.2.2.1, .ref (bm 18), .ref (bm 19), .ref (bm 20), .ref (bm 21), .int mi.2.2.2.2.2.2.2.2])), ((bm 1), .inl (cI, 4, .inl w.1)), ((bm 2), .inl (cI, 4, .inl w.2.1)), ((bm 3), .inl (cI, 4, .inl w.2.2.1)), ((bm 4), .inl (cI, 4, .inl w.2.2.2.1)), ((bm 5), .inl (cI, 4, .inl w.2.2.2.2.1)), ((bm 6), .inl (cI, 4, .inl w.2.2.2.2.2.1)), ((bm 7), .inl (cI, 4, .inl w.2.2.2.2.2.2))]) (wr := []) (rest := []) hw [0, 1, 2, 3, 4, 5, 6, 7] [] rfl rfl (by decide) (by decide) (kx_runV S hw fc_Md_85 rfl 0 rfl [0, 1, 2, 3, 4, 5, 6, 7] (by decide) rfl (c_Md_stands l D cI cZ cO bm mi w 3 s ((by unfold vp_in; decide)) H.size) rfl hl.1 rfl (Nat.le_of_ble_eq_true rfl) d_Md_head_12 (by decide) (by decide)) (fun r32 u32 H locs hp32 hw => ?_)
          obtain ⟨hp32, hb32⟩ := hp32
          have hw : kx_w D (kx_T cI cZ cO) A_ s_ [((bm 0), .inr (6, [.int mi.1, .int mi.2.1, .int mi.2.2.1, .ref (bm 1), .ref (bm 2), .ref (bm 3), .ref (bm 4), .ref (bm 5), .ref (bm 6), .ref (bm 7), .ref (bm 8), .ref (bm 9), .int mi.2.2.2.1, .ref (bm 10), .ref (bm 11), .ref (bm 12), .ref (bm 13), .ref (bm 14), .ref (bm 15), .ref (bm 16), .ref (bm 17), .int mi.2.2.2.2.1, .int mi.2.2.2.2.2.1, .int mi.2.2.2.2.2.2.1, .int mi.2.2.2.2.2.2.2.1, .ref (bm 18), .ref (bm 19), .ref (bm 20), .ref (bm 21), .int mi.2.2.2.2.2.2.2.2])), ((bm 1), .inl (cI, 4, .inl w.1)), ((bm 2), .inl (cI, 4, .inl w.2.1)), ((bm 3), .inl (cI, 4, .inl w.2.2.1)), ((bm 4), .inl (cI, 4, .inl w.2.2.2.1)), ((bm 5), .inl (cI, 4, .inl w.2.2.2.2.1)), ((bm 6), .inl (cI, 4, .inl w.2.2.2.2.2.1)), ((bm 7), .inl (cI, 4, .inl w.2.2.2.2.2.2))] H locs := hw
          refine lv_if_eq (tgt := 41) hx hb d_Md_head_15 (by decide) (fun h33 => ?_) (fun h33 => ?_)
          · refine lv_iload_n hx hb d_Md_head_41 rfl (lv_at hl 1 rfl) ?_
            refine lv_istore_n (lv' := [(2, .int 0), (3, .int 3), (0, .ref (bm 0)), (1, .int s)]) hx hb d_Md_head_42 rfl hl (by decide) rfl (fun ls hl => ?_)
            refine lv_iinc (v := 4) (k := 1) (lv' := [(3, .int 4), (2, .int 0), (0, .ref (bm 0)), (1, .int s)]) hx hb d_Md_head_43 hl rfl (by decide) (by decide) rfl (fun ls hl => ?_)
            refine lv_goto (tgt := 4) hx hb d_Md_head_46 (by decide) ?_
            refine lv_iload_n hx hb d_Md_head_4 rfl (lv_at hl 0 rfl) ?_
            refine lv_iconst (v := 4) hx hb d_Md_head_5 (by decide) ?_
            refine lv_icmp_ge (tgt := 49) hx hb d_Md_head_6 (by decide) (fun _ => ?_) (fun h => absurd h (by decide))
            refine lv_iload_n hx hb d_Md_head_49 rfl (lv_at hl 1 rfl) ?_
            exact kx_ret_i I rfl hw () (by simp only [f_Md_head, ← hp1, if_neg h2, ← hp24, if_pos h25, ← hp26, if_neg h27, if_pos h31, ← hp32, if_pos h33]) [0, 1, 2, 3, 4, 5, 6, 7] (by decide) rfl d_Md_head_50
          · refine lv_iload_n hx hb d_Md_head_18 rfl (lv_at hl 1 rfl) ?_
            refine lv_if_lt (tgt := 37) hx hb d_Md_head_19 (by decide) (fun h => absurd h (by decide)) (fun _ => ?_)
            refine lv_aload_n hx hb d_Md_head_22 rfl (lv_at hl 2 rfl) ?_
            refine kx_get S hw fg_Md_19 0 rfl rfl d_Md_head_23 ?_
            refine lv_iload_n hx hb d_Md_head_26 rfl (lv_at hl 0 rfl) ?_
            refine kx_iald S hw 4 0 rfl rfl (j := 3) (by decide) (by unfold vp_in; decide) d_Md_head_27 ?_
            refine lv_aload_n hx hb d_Md_head_28 rfl (lv_at hl 2 rfl) ?_
            refine kx_get S hw fg_Md_19 0 rfl rfl d_Md_head_29 ?_
            refine lv_iload_n hx hb d_Md_head_32 rfl (lv_at hl 1 rfl) ?_
            refine kx_iald S hw 4 0 rfl rfl (j := 0) (by decide) (by unfold vp_in; decide) d_Md_head_33 ?_
            refine lv_icmp_ge (tgt := 41) hx hb d_Md_head_34 (by decide) (fun h34 => ?_) (fun h34 => ?_)
            · refine lv_iload_n hx hb d_Md_head_41 rfl (lv_at hl 1 rfl) ?_
              refine lv_istore_n (lv' := [(2, .int 0), (3, .int 3), (0, .ref (bm 0)), (1, .int s)]) hx hb d_Md_head_42 rfl hl (by decide) rfl (fun ls hl => ?_)
              refine lv_iinc (v := 4) (k := 1) (lv' := [(3, .int 4), (2, .int 0), (0, .ref (bm 0)), (1, .int s)]) hx hb d_Md_head_43 hl rfl (by decide) (by decide) rfl (fun ls hl => ?_)
              refine lv_goto (tgt := 4) hx hb d_Md_head_46 (by decide) ?_
              refine lv_iload_n hx hb d_Md_head_4 rfl (lv_at hl 0 rfl) ?_
              refine lv_iconst (v := 4) hx hb d_Md_head_5 (by decide) ?_
              refine lv_icmp_ge (tgt := 49) hx hb d_Md_head_6 (by decide) (fun _ => ?_) (fun h => absurd h (by decide))
              refine lv_iload_n hx hb d_Md_head_49 rfl (lv_at hl 1 rfl) ?_
              exact kx_ret_i I rfl hw () (by simp only [f_Md_head, ← hp1, if_neg h2, ← hp24, if_pos h25, ← hp26, if_neg h27, if_pos h31, ← hp32, if_neg h33, if_pos h34]) [0, 1, 2, 3, 4, 5, 6, 7] (by decide) rfl d_Md_head_50
            · refine lv_iload_n hx hb d_Md_head_37 rfl (lv_at hl 0 rfl) ?_
              refine lv_goto (tgt := 42) hx hb d_Md_head_38 (by decide) ?_
              refine lv_istore_n (lv' := [(2, .int 3), (3, .int 3), (0, .ref (bm 0)), (1, .int s)]) hx hb d_Md_head_42 rfl hl (by decide) rfl (fun ls hl => ?_)
              refine lv_iinc (v := 4) (k := 1) (lv' := [(3, .int 4), (2, .int 3), (0, .ref (bm 0)), (1, .int s)]) hx hb d_Md_head_43 hl rfl (by decide) (by decide) rfl (fun ls hl => ?_)
              refine lv_goto (tgt := 4) hx hb d_Md_head_46 (by decide) ?_
              refine lv_iload_n hx hb d_Md_head_4 rfl (lv_at hl 0 rfl) ?_
              refine lv_iconst (v := 4) hx hb d_Md_head_5 (by decide) ?_
              refine lv_icmp_ge (tgt := 49) hx hb d_Md_head_6 (by decide) (fun _ => ?_) (fun h => absurd h (by decide))
              refine lv_iload_n hx hb d_Md_head_49 rfl (lv_at hl 1 rfl) ?_
              exact kx_ret_i I rfl hw () (by simp only [f_Md_head, ← hp1, if_neg h2, ← hp24, if_pos h25, ← hp26, if_neg h27, if_pos h31, ← hp32, if_neg h33, if_neg h34]) [0, 1, 2, 3, 4, 5, 6, 7] (by decide) rfl d_Md_head_50
        · refine lv_iload_n hx hb d_Md_head_37 rfl (lv_at hl 0 rfl) ?_
          refine lv_goto (tgt := 42) hx hb d_Md_head_38 (by decide) ?_
          refine lv_istore_n (lv' := [(2, .int 2), (3, .int 2), (0, .ref (bm 0)), (1, .int s)]) hx hb d_Md_head_42 rfl hl (by decide) rfl (fun ls hl => ?_)
          refine lv_iinc (v := 3) (k := 1) (lv' := [(3, .int 3), (2, .int 2), (0, .ref (bm 0)), (1, .int s)]) hx hb d_Md_head_43 hl rfl (by decide) (by decide) rfl (fun ls hl => ?_)
          refine lv_goto (tgt := 4) hx hb d_Md_head_46 (by decide) ?_
          refine lv_iload_n hx hb d_Md_head_4 rfl (lv_at hl 0 rfl) ?_
          refine lv_iconst (v := 4) hx hb d_Md_head_5 (by decide) ?_
          refine lv_icmp_ge (tgt := 49) hx hb d_Md_head_6 (by decide) (fun h => absurd h (by decide)) (fun _ => ?_)
          refine lv_aload_n hx hb d_Md_head_9 rfl (lv_at hl 2 rfl) ?_
          refine lv_iload_n hx hb d_Md_head_10 rfl (lv_at hl 0 rfl) ?_
          refine lv_iload_n hx hb d_Md_head_11 rfl (lv_at hl 3 rfl) ?_
          refine kx_call_i (wc := [((bm 0), .inr (6, [.int mi.1, .int mi.2.1, .int mi.2.2.1, .ref (bm 1), .ref (bm 2), .ref (bm 3), .ref (bm 4), .ref (bm 5), .ref (bm 6), .ref (bm 7), .ref (bm 8), .ref (bm 9), .int mi.2.2.2.1, .ref (bm 10), .ref (bm 11), .ref (bm 12), .ref (bm 13), .ref (bm 14), .ref (bm 15), .ref (bm 16), .ref (bm 17), .int mi.2.2.2.2.1, .int mi.2.2.2.2.2.1, .int mi.2.2.2.2.2.2.1, .int mi.2.2.2.2.2.2.2.1, .ref (bm 18), .ref (bm 19), .ref (bm 20), .ref (bm 21), .int mi.2.2.2.2.2.2.2.2])), ((bm 1), .inl (cI, 4, .inl w.1)), ((bm 2), .inl (cI, 4, .inl w.2.1)), ((bm 3), .inl (cI, 4, .inl w.2.2.1)), ((bm 4), .inl (cI, 4, .inl w.2.2.2.1)), ((bm 5), .inl (cI, 4, .inl w.2.2.2.2.1)), ((bm 6), .inl (cI, 4, .inl w.2.2.2.2.2.1)), ((bm 7), .inl (cI, 4, .inl w.2.2.2.2.2.2))]) (wr := []) (rest := []) hw [0, 1, 2, 3, 4, 5, 6, 7] [] rfl rfl (by decide) (by decide) (kx_runV S hw fc_Md_85 rfl 0 rfl [0, 1, 2, 3, 4, 5, 6, 7] (by decide) rfl (c_Md_stands l D cI cZ cO bm mi w 3 s ((by unfold vp_in; decide)) H.size) rfl hl.1 rfl (Nat.le_of_ble_eq_true rfl) d_Md_head_12 (by decide) (by decide)) (fun r35 u35 H locs hp35 hw => ?_)
          obtain ⟨hp35, hb35⟩ := hp35
          have hw : kx_w D (kx_T cI cZ cO) A_ s_ [((bm 0), .inr (6, [.int mi.1, .int mi.2.1, .int mi.2.2.1, .ref (bm 1), .ref (bm 2), .ref (bm 3), .ref (bm 4), .ref (bm 5), .ref (bm 6), .ref (bm 7), .ref (bm 8), .ref (bm 9), .int mi.2.2.2.1, .ref (bm 10), .ref (bm 11), .ref (bm 12), .ref (bm 13), .ref (bm 14), .ref (bm 15), .ref (bm 16), .ref (bm 17), .int mi.2.2.2.2.1, .int mi.2.2.2.2.2.1, .int mi.2.2.2.2.2.2.1, .int mi.2.2.2.2.2.2.2.1, .ref (bm 18), .ref (bm 19), .ref (bm 20), .ref (bm 21), .int mi.2.2.2.2.2.2.2.2])), ((bm 1), .inl (cI, 4, .inl w.1)), ((bm 2), .inl (cI, 4, .inl w.2.1)), ((bm 3), .inl (cI, 4, .inl w.2.2.1)), ((bm 4), .inl (cI, 4, .inl w.2.2.2.1)), ((bm 5), .inl (cI, 4, .inl w.2.2.2.2.1)), ((bm 6), .inl (cI, 4, .inl w.2.2.2.2.2.1)), ((bm 7), .inl (cI, 4, .inl w.2.2.2.2.2.2))] H locs := hw
          refine lv_if_eq (tgt := 41) hx hb d_Md_head_15 (by decide) (fun h36 => ?_) (fun h36 => ?_)
          · refine lv_iload_n hx hb d_Md_head_41 rfl (lv_at hl 1 rfl) ?_
            refine lv_istore_n (lv' := [(2, .int 2), (3, .int 3), (0, .ref (bm 0)), (1, .int s)]) hx hb d_Md_head_42 rfl hl (by decide) rfl (fun ls hl => ?_)
            refine lv_iinc (v := 4) (k := 1) (lv' := [(3, .int 4), (2, .int 2), (0, .ref (bm 0)), (1, .int s)]) hx hb d_Md_head_43 hl rfl (by decide) (by decide) rfl (fun ls hl => ?_)
            refine lv_goto (tgt := 4) hx hb d_Md_head_46 (by decide) ?_
            refine lv_iload_n hx hb d_Md_head_4 rfl (lv_at hl 0 rfl) ?_
            refine lv_iconst (v := 4) hx hb d_Md_head_5 (by decide) ?_
            refine lv_icmp_ge (tgt := 49) hx hb d_Md_head_6 (by decide) (fun _ => ?_) (fun h => absurd h (by decide))
            refine lv_iload_n hx hb d_Md_head_49 rfl (lv_at hl 1 rfl) ?_
            exact kx_ret_i I rfl hw () (by simp only [f_Md_head, ← hp1, if_neg h2, ← hp24, if_pos h25, ← hp26, if_neg h27, if_neg h31, ← hp35, if_pos h36]) [0, 1, 2, 3, 4, 5, 6, 7] (by decide) rfl d_Md_head_50
          · refine lv_iload_n hx hb d_Md_head_18 rfl (lv_at hl 1 rfl) ?_
            refine lv_if_lt (tgt := 37) hx hb d_Md_head_19 (by decide) (fun h => absurd h (by decide)) (fun _ => ?_)
            refine lv_aload_n hx hb d_Md_head_22 rfl (lv_at hl 2 rfl) ?_
            refine kx_get S hw fg_Md_19 0 rfl rfl d_Md_head_23 ?_
            refine lv_iload_n hx hb d_Md_head_26 rfl (lv_at hl 0 rfl) ?_
            refine kx_iald S hw 4 0 rfl rfl (j := 3) (by decide) (by unfold vp_in; decide) d_Md_head_27 ?_
            refine lv_aload_n hx hb d_Md_head_28 rfl (lv_at hl 2 rfl) ?_
            refine kx_get S hw fg_Md_19 0 rfl rfl d_Md_head_29 ?_
            refine lv_iload_n hx hb d_Md_head_32 rfl (lv_at hl 1 rfl) ?_
            refine kx_iald S hw 4 0 rfl rfl (j := 2) (by decide) (by unfold vp_in; decide) d_Md_head_33 ?_
            refine lv_icmp_ge (tgt := 41) hx hb d_Md_head_34 (by decide) (fun h37 => ?_) (fun h37 => ?_)
            · refine lv_iload_n hx hb d_Md_head_41 rfl (lv_at hl 1 rfl) ?_
              refine lv_istore_n (lv' := [(2, .int 2), (3, .int 3), (0, .ref (bm 0)), (1, .int s)]) hx hb d_Md_head_42 rfl hl (by decide) rfl (fun ls hl => ?_)
              refine lv_iinc (v := 4) (k := 1) (lv' := [(3, .int 4), (2, .int 2), (0, .ref (bm 0)), (1, .int s)]) hx hb d_Md_head_43 hl rfl (by decide) (by decide) rfl (fun ls hl => ?_)
              refine lv_goto (tgt := 4) hx hb d_Md_head_46 (by decide) ?_
              refine lv_iload_n hx hb d_Md_head_4 rfl (lv_at hl 0 rfl) ?_
              refine lv_iconst (v := 4) hx hb d_Md_head_5 (by decide) ?_
              refine lv_icmp_ge (tgt := 49) hx hb d_Md_head_6 (by decide) (fun _ => ?_) (fun h => absurd h (by decide))
              refine lv_iload_n hx hb d_Md_head_49 rfl (lv_at hl 1 rfl) ?_
              exact kx_ret_i I rfl hw () (by simp only [f_Md_head, ← hp1, if_neg h2, ← hp24, if_pos h25, ← hp26, if_neg h27, if_neg h31, ← hp35, if_neg h36, if_pos h37]) [0, 1, 2, 3, 4, 5, 6, 7] (by decide) rfl d_Md_head_50
            · refine lv_iload_n hx hb d_Md_head_37 rfl (lv_at hl 0 rfl) ?_
              refine lv_goto (tgt := 42) hx hb d_Md_head_38 (by decide) ?_
              refine lv_istore_n (lv' := [(2, .int 3), (3, .int 3), (0, .ref (bm 0)), (1, .int s)]) hx hb d_Md_head_42 rfl hl (by decide) rfl (fun ls hl => ?_)
              refine lv_iinc (v := 4) (k := 1) (lv' := [(3, .int 4), (2, .int 3), (0, .ref (bm 0)), (1, .int s)]) hx hb d_Md_head_43 hl rfl (by decide) (by decide) rfl (fun ls hl => ?_)
              refine lv_goto (tgt := 4) hx hb d_Md_head_46 (by decide) ?_
              refine lv_iload_n hx hb d_Md_head_4 rfl (lv_at hl 0 rfl) ?_
              refine lv_iconst (v := 4) hx hb d_Md_head_5 (by decide) ?_
              refine lv_icmp_ge (tgt := 49) hx hb d_Md_head_6 (by decide) (fun _ => ?_) (fun h => absurd h (by decide))
              refine lv_iload_n hx hb d_Md_head_49 rfl (lv_at hl 1 rfl) ?_
              exact kx_ret_i I rfl hw () (by simp only [f_Md_head, ← hp1, if_neg h2, ← hp24, if_pos h25, ← hp26, if_neg h27, if_neg h31, ← hp35, if_neg h36, if_neg h37]) [0, 1, 2, 3, 4, 5, 6, 7] (by decide) rfl d_Md_head_50
    · refine lv_iload_n hx hb d_Md_head_18 rfl (lv_at hl 1 rfl) ?_
      refine lv_if_lt (tgt := 37) hx hb d_Md_head_19 (by decide) (fun h => absurd h (by decide)) (fun _ => ?_)
      refine lv_aload_n hx hb d_Md_head_22 rfl (lv_at hl 2 rfl) ?_
      refine kx_get S hw fg_Md_19 0 rfl rfl d_Md_head_23 ?_
      refine lv_iload_n hx hb d_Md_head_26 rfl (lv_at hl 0 rfl) ?_
      refine kx_iald S hw 4 0 rfl rfl (j := 1) (by decide) (by unfold vp_in; decide) d_Md_head_27 ?_
      refine lv_aload_n hx hb d_Md_head_28 rfl (lv_at hl 2 rfl) ?_
      refine kx_get S hw fg_Md_19 0 rfl rfl d_Md_head_29 ?_
      refine lv_iload_n hx hb d_Md_head_32 rfl (lv_at hl 1 rfl) ?_
      refine kx_iald S hw 4 0 rfl rfl (j := 0) (by decide) (by unfold vp_in; decide) d_Md_head_33 ?_
      refine lv_icmp_ge (tgt := 41) hx hb d_Md_head_34 (by decide) (fun h38 => ?_) (fun h38 => ?_)
      · refine lv_iload_n hx hb d_Md_head_41 rfl (lv_at hl 1 rfl) ?_
        refine lv_istore_n (lv' := [(2, .int 0), (3, .int 1), (0, .ref (bm 0)), (1, .int s)]) hx hb d_Md_head_42 rfl hl (by decide) rfl (fun ls hl => ?_)
        refine lv_iinc (v := 2) (k := 1) (lv' := [(3, .int 2), (2, .int 0), (0, .ref (bm 0)), (1, .int s)]) hx hb d_Md_head_43 hl rfl (by decide) (by decide) rfl (fun ls hl => ?_)
        refine lv_goto (tgt := 4) hx hb d_Md_head_46 (by decide) ?_
        refine lv_iload_n hx hb d_Md_head_4 rfl (lv_at hl 0 rfl) ?_
        refine lv_iconst (v := 4) hx hb d_Md_head_5 (by decide) ?_
        refine lv_icmp_ge (tgt := 49) hx hb d_Md_head_6 (by decide) (fun h => absurd h (by decide)) (fun _ => ?_)
        refine lv_aload_n hx hb d_Md_head_9 rfl (lv_at hl 2 rfl) ?_
        refine lv_iload_n hx hb d_Md_head_10 rfl (lv_at hl 0 rfl) ?_
        refine lv_iload_n hx hb d_Md_head_11 rfl (lv_at hl 3 rfl) ?_
        refine kx_call_i (wc := [((bm 0), .inr (6, [.int mi.1, .int mi.2.1, .int mi.2.2.1, .ref (bm 1), .ref (bm 2), .ref (bm 3), .ref (bm 4), .ref (bm 5), .ref (bm 6), .ref (bm 7), .ref (bm 8), .ref (bm 9), .int mi.2.2.2.1, .ref (bm 10), .ref (bm 11), .ref (bm 12), .ref (bm 13), .ref (bm 14), .ref (bm 15), .ref (bm 16), .ref (bm 17), .int mi.2.2.2.2.1, .int mi.2.2.2.2.2.1, .int mi.2.2.2.2.2.2.1, .int mi.2.2.2.2.2.2.2.1, .ref (bm 18), .ref (bm 19), .ref (bm 20), .ref (bm 21), .int mi.2.2.2.2.2.2.2.2])), ((bm 1), .inl (cI, 4, .inl w.1)), ((bm 2), .inl (cI, 4, .inl w.2.1)), ((bm 3), .inl (cI, 4, .inl w.2.2.1)), ((bm 4), .inl (cI, 4, .inl w.2.2.2.1)), ((bm 5), .inl (cI, 4, .inl w.2.2.2.2.1)), ((bm 6), .inl (cI, 4, .inl w.2.2.2.2.2.1)), ((bm 7), .inl (cI, 4, .inl w.2.2.2.2.2.2))]) (wr := []) (rest := []) hw [0, 1, 2, 3, 4, 5, 6, 7] [] rfl rfl (by decide) (by decide) (kx_runV S hw fc_Md_85 rfl 0 rfl [0, 1, 2, 3, 4, 5, 6, 7] (by decide) rfl (c_Md_stands l D cI cZ cO bm mi w 2 s ((by unfold vp_in; decide)) H.size) rfl hl.1 rfl (Nat.le_of_ble_eq_true rfl) d_Md_head_12 (by decide) (by decide)) (fun r39 u39 H locs hp39 hw => ?_)
        obtain ⟨hp39, hb39⟩ := hp39
        have hw : kx_w D (kx_T cI cZ cO) A_ s_ [((bm 0), .inr (6, [.int mi.1, .int mi.2.1, .int mi.2.2.1, .ref (bm 1), .ref (bm 2), .ref (bm 3), .ref (bm 4), .ref (bm 5), .ref (bm 6), .ref (bm 7), .ref (bm 8), .ref (bm 9), .int mi.2.2.2.1, .ref (bm 10), .ref (bm 11), .ref (bm 12), .ref (bm 13), .ref (bm 14), .ref (bm 15), .ref (bm 16), .ref (bm 17), .int mi.2.2.2.2.1, .int mi.2.2.2.2.2.1, .int mi.2.2.2.2.2.2.1, .int mi.2.2.2.2.2.2.2.1, .ref (bm 18), .ref (bm 19), .ref (bm 20), .ref (bm 21), .int mi.2.2.2.2.2.2.2.2])), ((bm 1), .inl (cI, 4, .inl w.1)), ((bm 2), .inl (cI, 4, .inl w.2.1)), ((bm 3), .inl (cI, 4, .inl w.2.2.1)), ((bm 4), .inl (cI, 4, .inl w.2.2.2.1)), ((bm 5), .inl (cI, 4, .inl w.2.2.2.2.1)), ((bm 6), .inl (cI, 4, .inl w.2.2.2.2.2.1)), ((bm 7), .inl (cI, 4, .inl w.2.2.2.2.2.2))] H locs := hw
        refine lv_if_eq (tgt := 41) hx hb d_Md_head_15 (by decide) (fun h40 => ?_) (fun h40 => ?_)
        · refine lv_iload_n hx hb d_Md_head_41 rfl (lv_at hl 1 rfl) ?_
          refine lv_istore_n (lv' := [(2, .int 0), (3, .int 2), (0, .ref (bm 0)), (1, .int s)]) hx hb d_Md_head_42 rfl hl (by decide) rfl (fun ls hl => ?_)
          refine lv_iinc (v := 3) (k := 1) (lv' := [(3, .int 3), (2, .int 0), (0, .ref (bm 0)), (1, .int s)]) hx hb d_Md_head_43 hl rfl (by decide) (by decide) rfl (fun ls hl => ?_)
          refine lv_goto (tgt := 4) hx hb d_Md_head_46 (by decide) ?_
          refine lv_iload_n hx hb d_Md_head_4 rfl (lv_at hl 0 rfl) ?_
          refine lv_iconst (v := 4) hx hb d_Md_head_5 (by decide) ?_
          refine lv_icmp_ge (tgt := 49) hx hb d_Md_head_6 (by decide) (fun h => absurd h (by decide)) (fun _ => ?_)
          refine lv_aload_n hx hb d_Md_head_9 rfl (lv_at hl 2 rfl) ?_
          refine lv_iload_n hx hb d_Md_head_10 rfl (lv_at hl 0 rfl) ?_
          refine lv_iload_n hx hb d_Md_head_11 rfl (lv_at hl 3 rfl) ?_
          refine kx_call_i (wc := [((bm 0), .inr (6, [.int mi.1, .int mi.2.1, .int mi.2.2.1, .ref (bm 1), .ref (bm 2), .ref (bm 3), .ref (bm 4), .ref (bm 5), .ref (bm 6), .ref (bm 7), .ref (bm 8), .ref (bm 9), .int mi.2.2.2.1, .ref (bm 10), .ref (bm 11), .ref (bm 12), .ref (bm 13), .ref (bm 14), .ref (bm 15), .ref (bm 16), .ref (bm 17), .int mi.2.2.2.2.1, .int mi.2.2.2.2.2.1, .int mi.2.2.2.2.2.2.1, .int mi.2.2.2.2.2.2.2.1, .ref (bm 18), .ref (bm 19), .ref (bm 20), .ref (bm 21), .int mi.2.2.2.2.2.2.2.2])), ((bm 1), .inl (cI, 4, .inl w.1)), ((bm 2), .inl (cI, 4, .inl w.2.1)), ((bm 3), .inl (cI, 4, .inl w.2.2.1)), ((bm 4), .inl (cI, 4, .inl w.2.2.2.1)), ((bm 5), .inl (cI, 4, .inl w.2.2.2.2.1)), ((bm 6), .inl (cI, 4, .inl w.2.2.2.2.2.1)), ((bm 7), .inl (cI, 4, .inl w.2.2.2.2.2.2))]) (wr := []) (rest := []) hw [0, 1, 2, 3, 4, 5, 6, 7] [] rfl rfl (by decide) (by decide) (kx_runV S hw fc_Md_85 rfl 0 rfl [0, 1, 2, 3, 4, 5, 6, 7] (by decide) rfl (c_Md_stands l D cI cZ cO bm mi w 3 s ((by unfold vp_in; decide)) H.size) rfl hl.1 rfl (Nat.le_of_ble_eq_true rfl) d_Md_head_12 (by decide) (by decide)) (fun r41 u41 H locs hp41 hw => ?_)
          obtain ⟨hp41, hb41⟩ := hp41
          have hw : kx_w D (kx_T cI cZ cO) A_ s_ [((bm 0), .inr (6, [.int mi.1, .int mi.2.1, .int mi.2.2.1, .ref (bm 1), .ref (bm 2), .ref (bm 3), .ref (bm 4), .ref (bm 5), .ref (bm 6), .ref (bm 7), .ref (bm 8), .ref (bm 9), .int mi.2.2.2.1, .ref (bm 10), .ref (bm 11), .ref (bm 12), .ref (bm 13), .ref (bm 14), .ref (bm 15), .ref (bm 16), .ref (bm 17), .int mi.2.2.2.2.1, .int mi.2.2.2.2.2.1, .int mi.2.2.2.2.2.2.1, .int mi.2.2.2.2.2.2.2.1, .ref (bm 18), .ref (bm 19), .ref (bm 20), .ref (bm 21), .int mi.2.2.2.2.2.2.2.2])), ((bm 1), .inl (cI, 4, .inl w.1)), ((bm 2), .inl (cI, 4, .inl w.2.1)), ((bm 3), .inl (cI, 4, .inl w.2.2.1)), ((bm 4), .inl (cI, 4, .inl w.2.2.2.1)), ((bm 5), .inl (cI, 4, .inl w.2.2.2.2.1)), ((bm 6), .inl (cI, 4, .inl w.2.2.2.2.2.1)), ((bm 7), .inl (cI, 4, .inl w.2.2.2.2.2.2))] H locs := hw
          refine lv_if_eq (tgt := 41) hx hb d_Md_head_15 (by decide) (fun h42 => ?_) (fun h42 => ?_)
          · refine lv_iload_n hx hb d_Md_head_41 rfl (lv_at hl 1 rfl) ?_
            refine lv_istore_n (lv' := [(2, .int 0), (3, .int 3), (0, .ref (bm 0)), (1, .int s)]) hx hb d_Md_head_42 rfl hl (by decide) rfl (fun ls hl => ?_)
            refine lv_iinc (v := 4) (k := 1) (lv' := [(3, .int 4), (2, .int 0), (0, .ref (bm 0)), (1, .int s)]) hx hb d_Md_head_43 hl rfl (by decide) (by decide) rfl (fun ls hl => ?_)
            refine lv_goto (tgt := 4) hx hb d_Md_head_46 (by decide) ?_
            refine lv_iload_n hx hb d_Md_head_4 rfl (lv_at hl 0 rfl) ?_
            refine lv_iconst (v := 4) hx hb d_Md_head_5 (by decide) ?_
            refine lv_icmp_ge (tgt := 49) hx hb d_Md_head_6 (by decide) (fun _ => ?_) (fun h => absurd h (by decide))
            refine lv_iload_n hx hb d_Md_head_49 rfl (lv_at hl 1 rfl) ?_
            exact kx_ret_i I rfl hw () (by simp only [f_Md_head, ← hp1, if_neg h2, ← hp24, if_neg h25, if_pos h38, ← hp39, if_pos h40, ← hp41, if_pos h42]) [0, 1, 2, 3, 4, 5, 6, 7] (by decide) rfl d_Md_head_50
          · refine lv_iload_n hx hb d_Md_head_18 rfl (lv_at hl 1 rfl) ?_
            refine lv_if_lt (tgt := 37) hx hb d_Md_head_19 (by decide) (fun h => absurd h (by decide)) (fun _ => ?_)
            refine lv_aload_n hx hb d_Md_head_22 rfl (lv_at hl 2 rfl) ?_
            refine kx_get S hw fg_Md_19 0 rfl rfl d_Md_head_23 ?_
            refine lv_iload_n hx hb d_Md_head_26 rfl (lv_at hl 0 rfl) ?_
            refine kx_iald S hw 4 0 rfl rfl (j := 3) (by decide) (by unfold vp_in; decide) d_Md_head_27 ?_
            refine lv_aload_n hx hb d_Md_head_28 rfl (lv_at hl 2 rfl) ?_
            refine kx_get S hw fg_Md_19 0 rfl rfl d_Md_head_29 ?_
            refine lv_iload_n hx hb d_Md_head_32 rfl (lv_at hl 1 rfl) ?_
            refine kx_iald S hw 4 0 rfl rfl (j := 0) (by decide) (by unfold vp_in; decide) d_Md_head_33 ?_
            refine lv_icmp_ge (tgt := 41) hx hb d_Md_head_34 (by decide) (fun h43 => ?_) (fun h43 => ?_)
            · refine lv_iload_n hx hb d_Md_head_41 rfl (lv_at hl 1 rfl) ?_
              refine lv_istore_n (lv' := [(2, .int 0), (3, .int 3), (0, .ref (bm 0)), (1, .int s)]) hx hb d_Md_head_42 rfl hl (by decide) rfl (fun ls hl => ?_)
              refine lv_iinc (v := 4) (k := 1) (lv' := [(3, .int 4), (2, .int 0), (0, .ref (bm 0)), (1, .int s)]) hx hb d_Md_head_43 hl rfl (by decide) (by decide) rfl (fun ls hl => ?_)
              refine lv_goto (tgt := 4) hx hb d_Md_head_46 (by decide) ?_
              refine lv_iload_n hx hb d_Md_head_4 rfl (lv_at hl 0 rfl) ?_
              refine lv_iconst (v := 4) hx hb d_Md_head_5 (by decide) ?_
              refine lv_icmp_ge (tgt := 49) hx hb d_Md_head_6 (by decide) (fun _ => ?_) (fun h => absurd h (by decide))
              refine lv_iload_n hx hb d_Md_head_49 rfl (lv_at hl 1 rfl) ?_
              exact kx_ret_i I rfl hw () (by simp only [f_Md_head, ← hp1, if_neg h2, ← hp24, if_neg h25, if_pos h38, ← hp39, if_pos h40, ← hp41, if_neg h42, if_pos h43]) [0, 1, 2, 3, 4, 5, 6, 7] (by decide) rfl d_Md_head_50
            · refine lv_iload_n hx hb d_Md_head_37 rfl (lv_at hl 0 rfl) ?_
              refine lv_goto (tgt := 42) hx hb d_Md_head_38 (by decide) ?_
              refine lv_istore_n (lv' := [(2, .int 3), (3, .int 3), (0, .ref (bm 0)), (1, .int s)]) hx hb d_Md_head_42 rfl hl (by decide) rfl (fun ls hl => ?_)
              refine lv_iinc (v := 4) (k := 1) (lv' := [(3, .int 4), (2, .int 3), (0, .ref (bm 0)), (1, .int s)]) hx hb d_Md_head_43 hl rfl (by decide) (by decide) rfl (fun ls hl => ?_)
              refine lv_goto (tgt := 4) hx hb d_Md_head_46 (by decide) ?_
              refine lv_iload_n hx hb d_Md_head_4 rfl (lv_at hl 0 rfl) ?_
              refine lv_iconst (v := 4) hx hb d_Md_head_5 (by decide) ?_
              refine lv_icmp_ge (tgt := 49) hx hb d_Md_head_6 (by decide) (fun _ => ?_) (fun h => absurd h (by decide))
              refine lv_iload_n hx hb d_Md_head_49 rfl (lv_at hl 1 rfl) ?_
              exact kx_ret_i I rfl hw () (by simp only [f_Md_head, ← hp1, if_neg h2, ← hp24, if_neg h25, if_pos h38, ← hp39, if_pos h40, ← hp41, if_neg h42, if_neg h43]) [0, 1, 2, 3, 4, 5, 6, 7] (by decide) rfl d_Md_head_50
        · refine lv_iload_n hx hb d_Md_head_18 rfl (lv_at hl 1 rfl) ?_
          refine lv_if_lt (tgt := 37) hx hb d_Md_head_19 (by decide) (fun h => absurd h (by decide)) (fun _ => ?_)
          refine lv_aload_n hx hb d_Md_head_22 rfl (lv_at hl 2 rfl) ?_
          refine kx_get S hw fg_Md_19 0 rfl rfl d_Md_head_23 ?_
          refine lv_iload_n hx hb d_Md_head_26 rfl (lv_at hl 0 rfl) ?_
          refine kx_iald S hw 4 0 rfl rfl (j := 2) (by decide) (by unfold vp_in; decide) d_Md_head_27 ?_
          refine lv_aload_n hx hb d_Md_head_28 rfl (lv_at hl 2 rfl) ?_
          refine kx_get S hw fg_Md_19 0 rfl rfl d_Md_head_29 ?_
          refine lv_iload_n hx hb d_Md_head_32 rfl (lv_at hl 1 rfl) ?_
          refine kx_iald S hw 4 0 rfl rfl (j := 0) (by decide) (by unfold vp_in; decide) d_Md_head_33 ?_
          refine lv_icmp_ge (tgt := 41) hx hb d_Md_head_34 (by decide) (fun h44 => ?_) (fun h44 => ?_)
          · refine lv_iload_n hx hb d_Md_head_41 rfl (lv_at hl 1 rfl) ?_
            refine lv_istore_n (lv' := [(2, .int 0), (3, .int 2), (0, .ref (bm 0)), (1, .int s)]) hx hb d_Md_head_42 rfl hl (by decide) rfl (fun ls hl => ?_)
            refine lv_iinc (v := 3) (k := 1) (lv' := [(3, .int 3), (2, .int 0), (0, .ref (bm 0)), (1, .int s)]) hx hb d_Md_head_43 hl rfl (by decide) (by decide) rfl (fun ls hl => ?_)
            refine lv_goto (tgt := 4) hx hb d_Md_head_46 (by decide) ?_
            refine lv_iload_n hx hb d_Md_head_4 rfl (lv_at hl 0 rfl) ?_
            refine lv_iconst (v := 4) hx hb d_Md_head_5 (by decide) ?_
            refine lv_icmp_ge (tgt := 49) hx hb d_Md_head_6 (by decide) (fun h => absurd h (by decide)) (fun _ => ?_)
            refine lv_aload_n hx hb d_Md_head_9 rfl (lv_at hl 2 rfl) ?_
            refine lv_iload_n hx hb d_Md_head_10 rfl (lv_at hl 0 rfl) ?_
            refine lv_iload_n hx hb d_Md_head_11 rfl (lv_at hl 3 rfl) ?_
            refine kx_call_i (wc := [((bm 0), .inr (6, [.int mi.1, .int mi.2.1, .int mi.2.2.1, .ref (bm 1), .ref (bm 2), .ref (bm 3), .ref (bm 4), .ref (bm 5), .ref (bm 6), .ref (bm 7), .ref (bm 8), .ref (bm 9), .int mi.2.2.2.1, .ref (bm 10), .ref (bm 11), .ref (bm 12), .ref (bm 13), .ref (bm 14), .ref (bm 15), .ref (bm 16), .ref (bm 17), .int mi.2.2.2.2.1, .int mi.2.2.2.2.2.1, .int mi.2.2.2.2.2.2.1, .int mi.2.2.2.2.2.2.2.1, .ref (bm 18), .ref (bm 19), .ref (bm 20), .ref (bm 21), .int mi.2.2.2.2.2.2.2.2])), ((bm 1), .inl (cI, 4, .inl w.1)), ((bm 2), .inl (cI, 4, .inl w.2.1)), ((bm 3), .inl (cI, 4, .inl w.2.2.1)), ((bm 4), .inl (cI, 4, .inl w.2.2.2.1)), ((bm 5), .inl (cI, 4, .inl w.2.2.2.2.1)), ((bm 6), .inl (cI, 4, .inl w.2.2.2.2.2.1)), ((bm 7), .inl (cI, 4, .inl w.2.2.2.2.2.2))]) (wr := []) (rest := []) hw [0, 1, 2, 3, 4, 5, 6, 7] [] rfl rfl (by decide) (by decide) (kx_runV S hw fc_Md_85 rfl 0 rfl [0, 1, 2, 3, 4, 5, 6, 7] (by decide) rfl (c_Md_stands l D cI cZ cO bm mi w 3 s ((by unfold vp_in; decide)) H.size) rfl hl.1 rfl (Nat.le_of_ble_eq_true rfl) d_Md_head_12 (by decide) (by decide)) (fun r45 u45 H locs hp45 hw => ?_)
            obtain ⟨hp45, hb45⟩ := hp45
            have hw : kx_w D (kx_T cI cZ cO) A_ s_ [((bm 0), .inr (6, [.int mi.1, .int mi.2.1, .int mi.2.2.1, .ref (bm 1), .ref (bm 2), .ref (bm 3), .ref (bm 4), .ref (bm 5), .ref (bm 6), .ref (bm 7), .ref (bm 8), .ref (bm 9), .int mi.2.2.2.1, .ref (bm 10), .ref (bm 11), .ref (bm 12), .ref (bm 13), .ref (bm 14), .ref (bm 15), .ref (bm 16), .ref (bm 17), .int mi.2.2.2.2.1, .int mi.2.2.2.2.2.1, .int mi.2.2.2.2.2.2.1, .int mi.2.2.2.2.2.2.2.1, .ref (bm 18), .ref (bm 19), .ref (bm 20), .ref (bm 21), .int mi.2.2.2.2.2.2.2.2])), ((bm 1), .inl (cI, 4, .inl w.1)), ((bm 2), .inl (cI, 4, .inl w.2.1)), ((bm 3), .inl (cI, 4, .inl w.2.2.1)), ((bm 4), .inl (cI, 4, .inl w.2.2.2.1)), ((bm 5), .inl (cI, 4, .inl w.2.2.2.2.1)), ((bm 6), .inl (cI, 4, .inl w.2.2.2.2.2.1)), ((bm 7), .inl (cI, 4, .inl w.2.2.2.2.2.2))] H locs := hw
            refine lv_if_eq (tgt := 41) hx hb d_Md_head_15 (by decide) (fun h46 => ?_) (fun h46 => ?_)
            · refine lv_iload_n hx hb d_Md_head_41 rfl (lv_at hl 1 rfl) ?_
              refine lv_istore_n (lv' := [(2, .int 0), (3, .int 3), (0, .ref (bm 0)), (1, .int s)]) hx hb d_Md_head_42 rfl hl (by decide) rfl (fun ls hl => ?_)
              refine lv_iinc (v := 4) (k := 1) (lv' := [(3, .int 4), (2, .int 0), (0, .ref (bm 0)), (1, .int s)]) hx hb d_Md_head_43 hl rfl (by decide) (by decide) rfl (fun ls hl => ?_)
              refine lv_goto (tgt := 4) hx hb d_Md_head_46 (by decide) ?_
              refine lv_iload_n hx hb d_Md_head_4 rfl (lv_at hl 0 rfl) ?_
              refine lv_iconst (v := 4) hx hb d_Md_head_5 (by decide) ?_
              refine lv_icmp_ge (tgt := 49) hx hb d_Md_head_6 (by decide) (fun _ => ?_) (fun h => absurd h (by decide))
              refine lv_iload_n hx hb d_Md_head_49 rfl (lv_at hl 1 rfl) ?_
              exact kx_ret_i I rfl hw () (by simp only [f_Md_head, ← hp1, if_neg h2, ← hp24, if_neg h25, if_pos h38, ← hp39, if_neg h40, if_pos h44, ← hp45, if_pos h46]) [0, 1, 2, 3, 4, 5, 6, 7] (by decide) rfl d_Md_head_50
            · refine lv_iload_n hx hb d_Md_head_18 rfl (lv_at hl 1 rfl) ?_
              refine lv_if_lt (tgt := 37) hx hb d_Md_head_19 (by decide) (fun h => absurd h (by decide)) (fun _ => ?_)
              refine lv_aload_n hx hb d_Md_head_22 rfl (lv_at hl 2 rfl) ?_
              refine kx_get S hw fg_Md_19 0 rfl rfl d_Md_head_23 ?_
              refine lv_iload_n hx hb d_Md_head_26 rfl (lv_at hl 0 rfl) ?_
              refine kx_iald S hw 4 0 rfl rfl (j := 3) (by decide) (by unfold vp_in; decide) d_Md_head_27 ?_
              refine lv_aload_n hx hb d_Md_head_28 rfl (lv_at hl 2 rfl) ?_
              refine kx_get S hw fg_Md_19 0 rfl rfl d_Md_head_29 ?_
              refine lv_iload_n hx hb d_Md_head_32 rfl (lv_at hl 1 rfl) ?_
              refine kx_iald S hw 4 0 rfl rfl (j := 0) (by decide) (by unfold vp_in; decide) d_Md_head_33 ?_
              refine lv_icmp_ge (tgt := 41) hx hb d_Md_head_34 (by decide) (fun h47 => ?_) (fun h47 => ?_)
              · refine lv_iload_n hx hb d_Md_head_41 rfl (lv_at hl 1 rfl) ?_
                refine lv_istore_n (lv' := [(2, .int 0), (3, .int 3), (0, .ref (bm 0)), (1, .int s)]) hx hb d_Md_head_42 rfl hl (by decide) rfl (fun ls hl => ?_)
                refine lv_iinc (v := 4) (k := 1) (lv' := [(3, .int 4), (2, .int 0), (0, .ref (bm 0)), (1, .int s)]) hx hb d_Md_head_43 hl rfl (by decide) (by decide) rfl (fun ls hl => ?_)
                refine lv_goto (tgt := 4) hx hb d_Md_head_46 (by decide) ?_
                refine lv_iload_n hx hb d_Md_head_4 rfl (lv_at hl 0 rfl) ?_
                refine lv_iconst (v := 4) hx hb d_Md_head_5 (by decide) ?_
                refine lv_icmp_ge (tgt := 49) hx hb d_Md_head_6 (by decide) (fun _ => ?_) (fun h => absurd h (by decide))
                refine lv_iload_n hx hb d_Md_head_49 rfl (lv_at hl 1 rfl) ?_
                exact kx_ret_i I rfl hw () (by simp only [f_Md_head, ← hp1, if_neg h2, ← hp24, if_neg h25, if_pos h38, ← hp39, if_neg h40, if_pos h44, ← hp45, if_neg h46, if_pos h47]) [0, 1, 2, 3, 4, 5, 6, 7] (by decide) rfl d_Md_head_50
              · refine lv_iload_n hx hb d_Md_head_37 rfl (lv_at hl 0 rfl) ?_
                refine lv_goto (tgt := 42) hx hb d_Md_head_38 (by decide) ?_
                refine lv_istore_n (lv' := [(2, .int 3), (3, .int 3), (0, .ref (bm 0)), (1, .int s)]) hx hb d_Md_head_42 rfl hl (by decide) rfl (fun ls hl => ?_)
                refine lv_iinc (v := 4) (k := 1) (lv' := [(3, .int 4), (2, .int 3), (0, .ref (bm 0)), (1, .int s)]) hx hb d_Md_head_43 hl rfl (by decide) (by decide) rfl (fun ls hl => ?_)
                refine lv_goto (tgt := 4) hx hb d_Md_head_46 (by decide) ?_
                refine lv_iload_n hx hb d_Md_head_4 rfl (lv_at hl 0 rfl) ?_
                refine lv_iconst (v := 4) hx hb d_Md_head_5 (by decide) ?_
                refine lv_icmp_ge (tgt := 49) hx hb d_Md_head_6 (by decide) (fun _ => ?_) (fun h => absurd h (by decide))
                refine lv_iload_n hx hb d_Md_head_49 rfl (lv_at hl 1 rfl) ?_
                exact kx_ret_i I rfl hw () (by simp only [f_Md_head, ← hp1, if_neg h2, ← hp24, if_neg h25, if_pos h38, ← hp39, if_neg h40, if_pos h44, ← hp45, if_neg h46, if_neg h47]) [0, 1, 2, 3, 4, 5, 6, 7] (by decide) rfl d_Md_head_50
          · refine lv_iload_n hx hb d_Md_head_37 rfl (lv_at hl 0 rfl) ?_
            refine lv_goto (tgt := 42) hx hb d_Md_head_38 (by decide) ?_
            refine lv_istore_n (lv' := [(2, .int 2), (3, .int 2), (0, .ref (bm 0)), (1, .int s)]) hx hb d_Md_head_42 rfl hl (by decide) rfl (fun ls hl => ?_)
            refine lv_iinc (v := 3) (k := 1) (lv' := [(3, .int 3), (2, .int 2), (0, .ref (bm 0)), (1, .int s)]) hx hb d_Md_head_43 hl rfl (by decide) (by decide) rfl (fun ls hl => ?_)
            refine lv_goto (tgt := 4) hx hb d_Md_head_46 (by decide) ?_
            refine lv_iload_n hx hb d_Md_head_4 rfl (lv_at hl 0 rfl) ?_
            refine lv_iconst (v := 4) hx hb d_Md_head_5 (by decide) ?_
            refine lv_icmp_ge (tgt := 49) hx hb d_Md_head_6 (by decide) (fun h => absurd h (by decide)) (fun _ => ?_)
            refine lv_aload_n hx hb d_Md_head_9 rfl (lv_at hl 2 rfl) ?_
            refine lv_iload_n hx hb d_Md_head_10 rfl (lv_at hl 0 rfl) ?_
            refine lv_iload_n hx hb d_Md_head_11 rfl (lv_at hl 3 rfl) ?_
            refine kx_call_i (wc := [((bm 0), .inr (6, [.int mi.1, .int mi.2.1, .int mi.2.2.1, .ref (bm 1), .ref (bm 2), .ref (bm 3), .ref (bm 4), .ref (bm 5), .ref (bm 6), .ref (bm 7), .ref (bm 8), .ref (bm 9), .int mi.2.2.2.1, .ref (bm 10), .ref (bm 11), .ref (bm 12), .ref (bm 13), .ref (bm 14), .ref (bm 15), .ref (bm 16), .ref (bm 17), .int mi.2.2.2.2.1, .int mi.2.2.2.2.2.1, .int mi.2.2.2.2.2.2.1, .int mi.2.2.2.2.2.2.2.1, .ref (bm 18), .ref (bm 19), .ref (bm 20), .ref (bm 21), .int mi.2.2.2.2.2.2.2.2])), ((bm 1), .inl (cI, 4, .inl w.1)), ((bm 2), .inl (cI, 4, .inl w.2.1)), ((bm 3), .inl (cI, 4, .inl w.2.2.1)), ((bm 4), .inl (cI, 4, .inl w.2.2.2.1)), ((bm 5), .inl (cI, 4, .inl w.2.2.2.2.1)), ((bm 6), .inl (cI, 4, .inl w.2.2.2.2.2.1)), ((bm 7), .inl (cI, 4, .inl w.2.2.2.2.2.2))]) (wr := []) (rest := []) hw [0, 1, 2, 3, 4, 5, 6, 7] [] rfl rfl (by decide) (by decide) (kx_runV S hw fc_Md_85 rfl 0 rfl [0, 1, 2, 3, 4, 5, 6, 7] (by decide) rfl (c_Md_stands l D cI cZ cO bm mi w 3 s ((by unfold vp_in; decide)) H.size) rfl hl.1 rfl (Nat.le_of_ble_eq_true rfl) d_Md_head_12 (by decide) (by decide)) (fun r48 u48 H locs hp48 hw => ?_)
            obtain ⟨hp48, hb48⟩ := hp48
            have hw : kx_w D (kx_T cI cZ cO) A_ s_ [((bm 0), .inr (6, [.int mi.1, .int mi.2.1, .int mi.2.2.1, .ref (bm 1), .ref (bm 2), .ref (bm 3), .ref (bm 4), .ref (bm 5), .ref (bm 6), .ref (bm 7), .ref (bm 8), .ref (bm 9), .int mi.2.2.2.1, .ref (bm 10), .ref (bm 11), .ref (bm 12), .ref (bm 13), .ref (bm 14), .ref (bm 15), .ref (bm 16), .ref (bm 17), .int mi.2.2.2.2.1, .int mi.2.2.2.2.2.1, .int mi.2.2.2.2.2.2.1, .int mi.2.2.2.2.2.2.2.1, .ref (bm 18), .ref (bm 19), .ref (bm 20), .ref (bm 21), .int mi.2.2.2.2.2.2.2.2])), ((bm 1), .inl (cI, 4, .inl w.1)), ((bm 2), .inl (cI, 4, .inl w.2.1)), ((bm 3), .inl (cI, 4, .inl w.2.2.1)), ((bm 4), .inl (cI, 4, .inl w.2.2.2.1)), ((bm 5), .inl (cI, 4, .inl w.2.2.2.2.1)), ((bm 6), .inl (cI, 4, .inl w.2.2.2.2.2.1)), ((bm 7), .inl (cI, 4, .inl w.2.2.2.2.2.2))] H locs := hw
            refine lv_if_eq (tgt := 41) hx hb d_Md_head_15 (by decide) (fun h49 => ?_) (fun h49 => ?_)
            · refine lv_iload_n hx hb d_Md_head_41 rfl (lv_at hl 1 rfl) ?_
              refine lv_istore_n (lv' := [(2, .int 2), (3, .int 3), (0, .ref (bm 0)), (1, .int s)]) hx hb d_Md_head_42 rfl hl (by decide) rfl (fun ls hl => ?_)
              refine lv_iinc (v := 4) (k := 1) (lv' := [(3, .int 4), (2, .int 2), (0, .ref (bm 0)), (1, .int s)]) hx hb d_Md_head_43 hl rfl (by decide) (by decide) rfl (fun ls hl => ?_)
              refine lv_goto (tgt := 4) hx hb d_Md_head_46 (by decide) ?_
              refine lv_iload_n hx hb d_Md_head_4 rfl (lv_at hl 0 rfl) ?_
              refine lv_iconst (v := 4) hx hb d_Md_head_5 (by decide) ?_
              refine lv_icmp_ge (tgt := 49) hx hb d_Md_head_6 (by decide) (fun _ => ?_) (fun h => absurd h (by decide))
              refine lv_iload_n hx hb d_Md_head_49 rfl (lv_at hl 1 rfl) ?_
              exact kx_ret_i I rfl hw () (by simp only [f_Md_head, ← hp1, if_neg h2, ← hp24, if_neg h25, if_pos h38, ← hp39, if_neg h40, if_neg h44, ← hp48, if_pos h49]) [0, 1, 2, 3, 4, 5, 6, 7] (by decide) rfl d_Md_head_50
            · refine lv_iload_n hx hb d_Md_head_18 rfl (lv_at hl 1 rfl) ?_
              refine lv_if_lt (tgt := 37) hx hb d_Md_head_19 (by decide) (fun h => absurd h (by decide)) (fun _ => ?_)
              refine lv_aload_n hx hb d_Md_head_22 rfl (lv_at hl 2 rfl) ?_
              refine kx_get S hw fg_Md_19 0 rfl rfl d_Md_head_23 ?_
              refine lv_iload_n hx hb d_Md_head_26 rfl (lv_at hl 0 rfl) ?_
              refine kx_iald S hw 4 0 rfl rfl (j := 3) (by decide) (by unfold vp_in; decide) d_Md_head_27 ?_
              refine lv_aload_n hx hb d_Md_head_28 rfl (lv_at hl 2 rfl) ?_
              refine kx_get S hw fg_Md_19 0 rfl rfl d_Md_head_29 ?_
              refine lv_iload_n hx hb d_Md_head_32 rfl (lv_at hl 1 rfl) ?_
              refine kx_iald S hw 4 0 rfl rfl (j := 2) (by decide) (by unfold vp_in; decide) d_Md_head_33 ?_
              refine lv_icmp_ge (tgt := 41) hx hb d_Md_head_34 (by decide) (fun h50 => ?_) (fun h50 => ?_)
              · refine lv_iload_n hx hb d_Md_head_41 rfl (lv_at hl 1 rfl) ?_
                refine lv_istore_n (lv' := [(2, .int 2), (3, .int 3), (0, .ref (bm 0)), (1, .int s)]) hx hb d_Md_head_42 rfl hl (by decide) rfl (fun ls hl => ?_)
                refine lv_iinc (v := 4) (k := 1) (lv' := [(3, .int 4), (2, .int 2), (0, .ref (bm 0)), (1, .int s)]) hx hb d_Md_head_43 hl rfl (by decide) (by decide) rfl (fun ls hl => ?_)
                refine lv_goto (tgt := 4) hx hb d_Md_head_46 (by decide) ?_
                refine lv_iload_n hx hb d_Md_head_4 rfl (lv_at hl 0 rfl) ?_
                refine lv_iconst (v := 4) hx hb d_Md_head_5 (by decide) ?_
                refine lv_icmp_ge (tgt := 49) hx hb d_Md_head_6 (by decide) (fun _ => ?_) (fun h => absurd h (by decide))
                refine lv_iload_n hx hb d_Md_head_49 rfl (lv_at hl 1 rfl) ?_
                exact kx_ret_i I rfl hw () (by simp only [f_Md_head, ← hp1, if_neg h2, ← hp24, if_neg h25, if_pos h38, ← hp39, if_neg h40, if_neg h44, ← hp48, if_neg h49, if_pos h50]) [0, 1, 2, 3, 4, 5, 6, 7] (by decide) rfl d_Md_head_50
              · refine lv_iload_n hx hb d_Md_head_37 rfl (lv_at hl 0 rfl) ?_
                refine lv_goto (tgt := 42) hx hb d_Md_head_38 (by decide) ?_
                refine lv_istore_n (lv' := [(2, .int 3), (3, .int 3), (0, .ref (bm 0)), (1, .int s)]) hx hb d_Md_head_42 rfl hl (by decide) rfl (fun ls hl => ?_)
                refine lv_iinc (v := 4) (k := 1) (lv' := [(3, .int 4), (2, .int 3), (0, .ref (bm 0)), (1, .int s)]) hx hb d_Md_head_43 hl rfl (by decide) (by decide) rfl (fun ls hl => ?_)
                refine lv_goto (tgt := 4) hx hb d_Md_head_46 (by decide) ?_
                refine lv_iload_n hx hb d_Md_head_4 rfl (lv_at hl 0 rfl) ?_
                refine lv_iconst (v := 4) hx hb d_Md_head_5 (by decide) ?_
                refine lv_icmp_ge (tgt := 49) hx hb d_Md_head_6 (by decide) (fun _ => ?_) (fun h => absurd h (by decide))
                refine lv_iload_n hx hb d_Md_head_49 rfl (lv_at hl 1 rfl) ?_
                exact kx_ret_i I rfl hw () (by simp only [f_Md_head, ← hp1, if_neg h2, ← hp24, if_neg h25, if_pos h38, ← hp39, if_neg h40, if_neg h44, ← hp48, if_neg h49, if_neg h50]) [0, 1, 2, 3, 4, 5, 6, 7] (by decide) rfl d_Md_head_50
      · refine lv_iload_n hx hb d_Md_head_37 rfl (lv_at hl 0 rfl) ?_
        refine lv_goto (tgt := 42) hx hb d_Md_head_38 (by decide) ?_
        refine lv_istore_n (lv' := [(2, .int 1), (3, .int 1), (0, .ref (bm 0)), (1, .int s)]) hx hb d_Md_head_42 rfl hl (by decide) rfl (fun ls hl => ?_)
        refine lv_iinc (v := 2) (k := 1) (lv' := [(3, .int 2), (2, .int 1), (0, .ref (bm 0)), (1, .int s)]) hx hb d_Md_head_43 hl rfl (by decide) (by decide) rfl (fun ls hl => ?_)
        refine lv_goto (tgt := 4) hx hb d_Md_head_46 (by decide) ?_
        refine lv_iload_n hx hb d_Md_head_4 rfl (lv_at hl 0 rfl) ?_
        refine lv_iconst (v := 4) hx hb d_Md_head_5 (by decide) ?_
        refine lv_icmp_ge (tgt := 49) hx hb d_Md_head_6 (by decide) (fun h => absurd h (by decide)) (fun _ => ?_)
        refine lv_aload_n hx hb d_Md_head_9 rfl (lv_at hl 2 rfl) ?_
        refine lv_iload_n hx hb d_Md_head_10 rfl (lv_at hl 0 rfl) ?_
        refine lv_iload_n hx hb d_Md_head_11 rfl (lv_at hl 3 rfl) ?_
        refine kx_call_i (wc := [((bm 0), .inr (6, [.int mi.1, .int mi.2.1, .int mi.2.2.1, .ref (bm 1), .ref (bm 2), .ref (bm 3), .ref (bm 4), .ref (bm 5), .ref (bm 6), .ref (bm 7), .ref (bm 8), .ref (bm 9), .int mi.2.2.2.1, .ref (bm 10), .ref (bm 11), .ref (bm 12), .ref (bm 13), .ref (bm 14), .ref (bm 15), .ref (bm 16), .ref (bm 17), .int mi.2.2.2.2.1, .int mi.2.2.2.2.2.1, .int mi.2.2.2.2.2.2.1, .int mi.2.2.2.2.2.2.2.1, .ref (bm 18), .ref (bm 19), .ref (bm 20), .ref (bm 21), .int mi.2.2.2.2.2.2.2.2])), ((bm 1), .inl (cI, 4, .inl w.1)), ((bm 2), .inl (cI, 4, .inl w.2.1)), ((bm 3), .inl (cI, 4, .inl w.2.2.1)), ((bm 4), .inl (cI, 4, .inl w.2.2.2.1)), ((bm 5), .inl (cI, 4, .inl w.2.2.2.2.1)), ((bm 6), .inl (cI, 4, .inl w.2.2.2.2.2.1)), ((bm 7), .inl (cI, 4, .inl w.2.2.2.2.2.2))]) (wr := []) (rest := []) hw [0, 1, 2, 3, 4, 5, 6, 7] [] rfl rfl (by decide) (by decide) (kx_runV S hw fc_Md_85 rfl 0 rfl [0, 1, 2, 3, 4, 5, 6, 7] (by decide) rfl (c_Md_stands l D cI cZ cO bm mi w 2 s ((by unfold vp_in; decide)) H.size) rfl hl.1 rfl (Nat.le_of_ble_eq_true rfl) d_Md_head_12 (by decide) (by decide)) (fun r51 u51 H locs hp51 hw => ?_)
        obtain ⟨hp51, hb51⟩ := hp51
        have hw : kx_w D (kx_T cI cZ cO) A_ s_ [((bm 0), .inr (6, [.int mi.1, .int mi.2.1, .int mi.2.2.1, .ref (bm 1), .ref (bm 2), .ref (bm 3), .ref (bm 4), .ref (bm 5), .ref (bm 6), .ref (bm 7), .ref (bm 8), .ref (bm 9), .int mi.2.2.2.1, .ref (bm 10), .ref (bm 11), .ref (bm 12), .ref (bm 13), .ref (bm 14), .ref (bm 15), .ref (bm 16), .ref (bm 17), .int mi.2.2.2.2.1, .int mi.2.2.2.2.2.1, .int mi.2.2.2.2.2.2.1, .int mi.2.2.2.2.2.2.2.1, .ref (bm 18), .ref (bm 19), .ref (bm 20), .ref (bm 21), .int mi.2.2.2.2.2.2.2.2])), ((bm 1), .inl (cI, 4, .inl w.1)), ((bm 2), .inl (cI, 4, .inl w.2.1)), ((bm 3), .inl (cI, 4, .inl w.2.2.1)), ((bm 4), .inl (cI, 4, .inl w.2.2.2.1)), ((bm 5), .inl (cI, 4, .inl w.2.2.2.2.1)), ((bm 6), .inl (cI, 4, .inl w.2.2.2.2.2.1)), ((bm 7), .inl (cI, 4, .inl w.2.2.2.2.2.2))] H locs := hw
        refine lv_if_eq (tgt := 41) hx hb d_Md_head_15 (by decide) (fun h52 => ?_) (fun h52 => ?_)
        · refine lv_iload_n hx hb d_Md_head_41 rfl (lv_at hl 1 rfl) ?_
          refine lv_istore_n (lv' := [(2, .int 1), (3, .int 2), (0, .ref (bm 0)), (1, .int s)]) hx hb d_Md_head_42 rfl hl (by decide) rfl (fun ls hl => ?_)
          refine lv_iinc (v := 3) (k := 1) (lv' := [(3, .int 3), (2, .int 1), (0, .ref (bm 0)), (1, .int s)]) hx hb d_Md_head_43 hl rfl (by decide) (by decide) rfl (fun ls hl => ?_)
          refine lv_goto (tgt := 4) hx hb d_Md_head_46 (by decide) ?_
          refine lv_iload_n hx hb d_Md_head_4 rfl (lv_at hl 0 rfl) ?_
          refine lv_iconst (v := 4) hx hb d_Md_head_5 (by decide) ?_
          refine lv_icmp_ge (tgt := 49) hx hb d_Md_head_6 (by decide) (fun h => absurd h (by decide)) (fun _ => ?_)
          refine lv_aload_n hx hb d_Md_head_9 rfl (lv_at hl 2 rfl) ?_
          refine lv_iload_n hx hb d_Md_head_10 rfl (lv_at hl 0 rfl) ?_
          refine lv_iload_n hx hb d_Md_head_11 rfl (lv_at hl 3 rfl) ?_
          refine kx_call_i (wc := [((bm 0), .inr (6, [.int mi.1, .int mi.2.1, .int mi.2.2.1, .ref (bm 1), .ref (bm 2), .ref (bm 3), .ref (bm 4), .ref (bm 5), .ref (bm 6), .ref (bm 7), .ref (bm 8), .ref (bm 9), .int mi.2.2.2.1, .ref (bm 10), .ref (bm 11), .ref (bm 12), .ref (bm 13), .ref (bm 14), .ref (bm 15), .ref (bm 16), .ref (bm 17), .int mi.2.2.2.2.1, .int mi.2.2.2.2.2.1, .int mi.2.2.2.2.2.2.1, .int mi.2.2.2.2.2.2.2.1, .ref (bm 18), .ref (bm 19), .ref (bm 20), .ref (bm 21), .int mi.2.2.2.2.2.2.2.2])), ((bm 1), .inl (cI, 4, .inl w.1)), ((bm 2), .inl (cI, 4, .inl w.2.1)), ((bm 3), .inl (cI, 4, .inl w.2.2.1)), ((bm 4), .inl (cI, 4, .inl w.2.2.2.1)), ((bm 5), .inl (cI, 4, .inl w.2.2.2.2.1)), ((bm 6), .inl (cI, 4, .inl w.2.2.2.2.2.1)), ((bm 7), .inl (cI, 4, .inl w.2.2.2.2.2.2))]) (wr := []) (rest := []) hw [0, 1, 2, 3, 4, 5, 6, 7] [] rfl rfl (by decide) (by decide) (kx_runV S hw fc_Md_85 rfl 0 rfl [0, 1, 2, 3, 4, 5, 6, 7] (by decide) rfl (c_Md_stands l D cI cZ cO bm mi w 3 s ((by unfold vp_in; decide)) H.size) rfl hl.1 rfl (Nat.le_of_ble_eq_true rfl) d_Md_head_12 (by decide) (by decide)) (fun r53 u53 H locs hp53 hw => ?_)
          obtain ⟨hp53, hb53⟩ := hp53
          have hw : kx_w D (kx_T cI cZ cO) A_ s_ [((bm 0), .inr (6, [.int mi.1, .int mi.2.1, .int mi.2.2.1, .ref (bm 1), .ref (bm 2), .ref (bm 3), .ref (bm 4), .ref (bm 5), .ref (bm 6), .ref (bm 7), .ref (bm 8), .ref (bm 9), .int mi.2.2.2.1, .ref (bm 10), .ref (bm 11), .ref (bm 12), .ref (bm 13), .ref (bm 14), .ref (bm 15), .ref (bm 16), .ref (bm 17), .int mi.2.2.2.2.1, .int mi.2.2.2.2.2.1, .int mi.2.2.2.2.2.2.1, .int mi.2.2.2.2.2.2.2.1, .ref (bm 18), .ref (bm 19), .ref (bm 20), .ref (bm 21), .int mi.2.2.2.2.2.2.2.2])), ((bm 1), .inl (cI, 4, .inl w.1)), ((bm 2), .inl (cI, 4, .inl w.2.1)), ((bm 3), .inl (cI, 4, .inl w.2.2.1)), ((bm 4), .inl (cI, 4, .inl w.2.2.2.1)), ((bm 5), .inl (cI, 4, .inl w.2.2.2.2.1)), ((bm 6), .inl (cI, 4, .inl w.2.2.2.2.2.1)), ((bm 7), .inl (cI, 4, .inl w.2.2.2.2.2.2))] H locs := hw
          refine lv_if_eq (tgt := 41) hx hb d_Md_head_15 (by decide) (fun h54 => ?_) (fun h54 => ?_)
          · refine lv_iload_n hx hb d_Md_head_41 rfl (lv_at hl 1 rfl) ?_
            refine lv_istore_n (lv' := [(2, .int 1), (3, .int 3), (0, .ref (bm 0)), (1, .int s)]) hx hb d_Md_head_42 rfl hl (by decide) rfl (fun ls hl => ?_)
            refine lv_iinc (v := 4) (k := 1) (lv' := [(3, .int 4), (2, .int 1), (0, .ref (bm 0)), (1, .int s)]) hx hb d_Md_head_43 hl rfl (by decide) (by decide) rfl (fun ls hl => ?_)
            refine lv_goto (tgt := 4) hx hb d_Md_head_46 (by decide) ?_
            refine lv_iload_n hx hb d_Md_head_4 rfl (lv_at hl 0 rfl) ?_
            refine lv_iconst (v := 4) hx hb d_Md_head_5 (by decide) ?_
            refine lv_icmp_ge (tgt := 49) hx hb d_Md_head_6 (by decide) (fun _ => ?_) (fun h => absurd h (by decide))
            refine lv_iload_n hx hb d_Md_head_49 rfl (lv_at hl 1 rfl) ?_
            exact kx_ret_i I rfl hw () (by simp only [f_Md_head, ← hp1, if_neg h2, ← hp24, if_neg h25, if_neg h38, ← hp51, if_pos h52, ← hp53, if_pos h54]) [0, 1, 2, 3, 4, 5, 6, 7] (by decide) rfl d_Md_head_50
          · refine lv_iload_n hx hb d_Md_head_18 rfl (lv_at hl 1 rfl) ?_
            refine lv_if_lt (tgt := 37) hx hb d_Md_head_19 (by decide) (fun h => absurd h (by decide)) (fun _ => ?_)
            refine lv_aload_n hx hb d_Md_head_22 rfl (lv_at hl 2 rfl) ?_
            refine kx_get S hw fg_Md_19 0 rfl rfl d_Md_head_23 ?_
            refine lv_iload_n hx hb d_Md_head_26 rfl (lv_at hl 0 rfl) ?_
            refine kx_iald S hw 4 0 rfl rfl (j := 3) (by decide) (by unfold vp_in; decide) d_Md_head_27 ?_
            refine lv_aload_n hx hb d_Md_head_28 rfl (lv_at hl 2 rfl) ?_
            refine kx_get S hw fg_Md_19 0 rfl rfl d_Md_head_29 ?_
            refine lv_iload_n hx hb d_Md_head_32 rfl (lv_at hl 1 rfl) ?_
            refine kx_iald S hw 4 0 rfl rfl (j := 1) (by decide) (by unfold vp_in; decide) d_Md_head_33 ?_
            refine lv_icmp_ge (tgt := 41) hx hb d_Md_head_34 (by decide) (fun h55 => ?_) (fun h55 => ?_)
            · refine lv_iload_n hx hb d_Md_head_41 rfl (lv_at hl 1 rfl) ?_
              refine lv_istore_n (lv' := [(2, .int 1), (3, .int 3), (0, .ref (bm 0)), (1, .int s)]) hx hb d_Md_head_42 rfl hl (by decide) rfl (fun ls hl => ?_)
              refine lv_iinc (v := 4) (k := 1) (lv' := [(3, .int 4), (2, .int 1), (0, .ref (bm 0)), (1, .int s)]) hx hb d_Md_head_43 hl rfl (by decide) (by decide) rfl (fun ls hl => ?_)
              refine lv_goto (tgt := 4) hx hb d_Md_head_46 (by decide) ?_
              refine lv_iload_n hx hb d_Md_head_4 rfl (lv_at hl 0 rfl) ?_
              refine lv_iconst (v := 4) hx hb d_Md_head_5 (by decide) ?_
              refine lv_icmp_ge (tgt := 49) hx hb d_Md_head_6 (by decide) (fun _ => ?_) (fun h => absurd h (by decide))
              refine lv_iload_n hx hb d_Md_head_49 rfl (lv_at hl 1 rfl) ?_
              exact kx_ret_i I rfl hw () (by simp only [f_Md_head, ← hp1, if_neg h2, ← hp24, if_neg h25, if_neg h38, ← hp51, if_pos h52, ← hp53, if_neg h54, if_pos h55]) [0, 1, 2, 3, 4, 5, 6, 7] (by decide) rfl d_Md_head_50
            · refine lv_iload_n hx hb d_Md_head_37 rfl (lv_at hl 0 rfl) ?_
              refine lv_goto (tgt := 42) hx hb d_Md_head_38 (by decide) ?_
              refine lv_istore_n (lv' := [(2, .int 3), (3, .int 3), (0, .ref (bm 0)), (1, .int s)]) hx hb d_Md_head_42 rfl hl (by decide) rfl (fun ls hl => ?_)
              refine lv_iinc (v := 4) (k := 1) (lv' := [(3, .int 4), (2, .int 3), (0, .ref (bm 0)), (1, .int s)]) hx hb d_Md_head_43 hl rfl (by decide) (by decide) rfl (fun ls hl => ?_)
              refine lv_goto (tgt := 4) hx hb d_Md_head_46 (by decide) ?_
              refine lv_iload_n hx hb d_Md_head_4 rfl (lv_at hl 0 rfl) ?_
              refine lv_iconst (v := 4) hx hb d_Md_head_5 (by decide) ?_
              refine lv_icmp_ge (tgt := 49) hx hb d_Md_head_6 (by decide) (fun _ => ?_) (fun h => absurd h (by decide))
              refine lv_iload_n hx hb d_Md_head_49 rfl (lv_at hl 1 rfl) ?_
              exact kx_ret_i I rfl hw () (by simp only [f_Md_head, ← hp1, if_neg h2, ← hp24, if_neg h25, if_neg h38, ← hp51, if_pos h52, ← hp53, if_neg h54, if_neg h55]) [0, 1, 2, 3, 4, 5, 6, 7] (by decide) rfl d_Md_head_50
        · refine lv_iload_n hx hb d_Md_head_18 rfl (lv_at hl 1 rfl) ?_
          refine lv_if_lt (tgt := 37) hx hb d_Md_head_19 (by decide) (fun h => absurd h (by decide)) (fun _ => ?_)
          refine lv_aload_n hx hb d_Md_head_22 rfl (lv_at hl 2 rfl) ?_
          refine kx_get S hw fg_Md_19 0 rfl rfl d_Md_head_23 ?_
          refine lv_iload_n hx hb d_Md_head_26 rfl (lv_at hl 0 rfl) ?_
          refine kx_iald S hw 4 0 rfl rfl (j := 2) (by decide) (by unfold vp_in; decide) d_Md_head_27 ?_
          refine lv_aload_n hx hb d_Md_head_28 rfl (lv_at hl 2 rfl) ?_
          refine kx_get S hw fg_Md_19 0 rfl rfl d_Md_head_29 ?_
          refine lv_iload_n hx hb d_Md_head_32 rfl (lv_at hl 1 rfl) ?_
          refine kx_iald S hw 4 0 rfl rfl (j := 1) (by decide) (by unfold vp_in; decide) d_Md_head_33 ?_
          refine lv_icmp_ge (tgt := 41) hx hb d_Md_head_34 (by decide) (fun h56 => ?_) (fun h56 => ?_)
          · refine lv_iload_n hx hb d_Md_head_41 rfl (lv_at hl 1 rfl) ?_
            refine lv_istore_n (lv' := [(2, .int 1), (3, .int 2), (0, .ref (bm 0)), (1, .int s)]) hx hb d_Md_head_42 rfl hl (by decide) rfl (fun ls hl => ?_)
            refine lv_iinc (v := 3) (k := 1) (lv' := [(3, .int 3), (2, .int 1), (0, .ref (bm 0)), (1, .int s)]) hx hb d_Md_head_43 hl rfl (by decide) (by decide) rfl (fun ls hl => ?_)
            refine lv_goto (tgt := 4) hx hb d_Md_head_46 (by decide) ?_
            refine lv_iload_n hx hb d_Md_head_4 rfl (lv_at hl 0 rfl) ?_
            refine lv_iconst (v := 4) hx hb d_Md_head_5 (by decide) ?_
            refine lv_icmp_ge (tgt := 49) hx hb d_Md_head_6 (by decide) (fun h => absurd h (by decide)) (fun _ => ?_)
            refine lv_aload_n hx hb d_Md_head_9 rfl (lv_at hl 2 rfl) ?_
            refine lv_iload_n hx hb d_Md_head_10 rfl (lv_at hl 0 rfl) ?_
            refine lv_iload_n hx hb d_Md_head_11 rfl (lv_at hl 3 rfl) ?_
            refine kx_call_i (wc := [((bm 0), .inr (6, [.int mi.1, .int mi.2.1, .int mi.2.2.1, .ref (bm 1), .ref (bm 2), .ref (bm 3), .ref (bm 4), .ref (bm 5), .ref (bm 6), .ref (bm 7), .ref (bm 8), .ref (bm 9), .int mi.2.2.2.1, .ref (bm 10), .ref (bm 11), .ref (bm 12), .ref (bm 13), .ref (bm 14), .ref (bm 15), .ref (bm 16), .ref (bm 17), .int mi.2.2.2.2.1, .int mi.2.2.2.2.2.1, .int mi.2.2.2.2.2.2.1, .int mi.2.2.2.2.2.2.2.1, .ref (bm 18), .ref (bm 19), .ref (bm 20), .ref (bm 21), .int mi.2.2.2.2.2.2.2.2])), ((bm 1), .inl (cI, 4, .inl w.1)), ((bm 2), .inl (cI, 4, .inl w.2.1)), ((bm 3), .inl (cI, 4, .inl w.2.2.1)), ((bm 4), .inl (cI, 4, .inl w.2.2.2.1)), ((bm 5), .inl (cI, 4, .inl w.2.2.2.2.1)), ((bm 6), .inl (cI, 4, .inl w.2.2.2.2.2.1)), ((bm 7), .inl (cI, 4, .inl w.2.2.2.2.2.2))]) (wr := []) (rest := []) hw [0, 1, 2, 3, 4, 5, 6, 7] [] rfl rfl (by decide) (by decide) (kx_runV S hw fc_Md_85 rfl 0 rfl [0, 1, 2, 3, 4, 5, 6, 7] (by decide) rfl (c_Md_stands l D cI cZ cO bm mi w 3 s ((by unfold vp_in; decide)) H.size) rfl hl.1 rfl (Nat.le_of_ble_eq_true rfl) d_Md_head_12 (by decide) (by decide)) (fun r57 u57 H locs hp57 hw => ?_)
            obtain ⟨hp57, hb57⟩ := hp57
            have hw : kx_w D (kx_T cI cZ cO) A_ s_ [((bm 0), .inr (6, [.int mi.1, .int mi.2.1, .int mi.2.2.1, .ref (bm 1), .ref (bm 2), .ref (bm 3), .ref (bm 4), .ref (bm 5), .ref (bm 6), .ref (bm 7), .ref (bm 8), .ref (bm 9), .int mi.2.2.2.1, .ref (bm 10), .ref (bm 11), .ref (bm 12), .ref (bm 13), .ref (bm 14), .ref (bm 15), .ref (bm 16), .ref (bm 17), .int mi.2.2.2.2.1, .int mi.2.2.2.2.2.1, .int mi.2.2.2.2.2.2.1, .int mi.2.2.2.2.2.2.2.1, .ref (bm 18), .ref (bm 19), .ref (bm 20), .ref (bm 21), .int mi.2.2.2.2.2.2.2.2])), ((bm 1), .inl (cI, 4, .inl w.1)), ((bm 2), .inl (cI, 4, .inl w.2.1)), ((bm 3), .inl (cI, 4, .inl w.2.2.1)), ((bm 4), .inl (cI, 4, .inl w.2.2.2.1)), ((bm 5), .inl (cI, 4, .inl w.2.2.2.2.1)), ((bm 6), .inl (cI, 4, .inl w.2.2.2.2.2.1)), ((bm 7), .inl (cI, 4, .inl w.2.2.2.2.2.2))] H locs := hw
            refine lv_if_eq (tgt := 41) hx hb d_Md_head_15 (by decide) (fun h58 => ?_) (fun h58 => ?_)
            · refine lv_iload_n hx hb d_Md_head_41 rfl (lv_at hl 1 rfl) ?_
              refine lv_istore_n (lv' := [(2, .int 1), (3, .int 3), (0, .ref (bm 0)), (1, .int s)]) hx hb d_Md_head_42 rfl hl (by decide) rfl (fun ls hl => ?_)
              refine lv_iinc (v := 4) (k := 1) (lv' := [(3, .int 4), (2, .int 1), (0, .ref (bm 0)), (1, .int s)]) hx hb d_Md_head_43 hl rfl (by decide) (by decide) rfl (fun ls hl => ?_)
              refine lv_goto (tgt := 4) hx hb d_Md_head_46 (by decide) ?_
              refine lv_iload_n hx hb d_Md_head_4 rfl (lv_at hl 0 rfl) ?_
              refine lv_iconst (v := 4) hx hb d_Md_head_5 (by decide) ?_
              refine lv_icmp_ge (tgt := 49) hx hb d_Md_head_6 (by decide) (fun _ => ?_) (fun h => absurd h (by decide))
              refine lv_iload_n hx hb d_Md_head_49 rfl (lv_at hl 1 rfl) ?_
              exact kx_ret_i I rfl hw () (by simp only [f_Md_head, ← hp1, if_neg h2, ← hp24, if_neg h25, if_neg h38, ← hp51, if_neg h52, if_pos h56, ← hp57, if_pos h58]) [0, 1, 2, 3, 4, 5, 6, 7] (by decide) rfl d_Md_head_50
            · refine lv_iload_n hx hb d_Md_head_18 rfl (lv_at hl 1 rfl) ?_
              refine lv_if_lt (tgt := 37) hx hb d_Md_head_19 (by decide) (fun h => absurd h (by decide)) (fun _ => ?_)
              refine lv_aload_n hx hb d_Md_head_22 rfl (lv_at hl 2 rfl) ?_
              refine kx_get S hw fg_Md_19 0 rfl rfl d_Md_head_23 ?_
              refine lv_iload_n hx hb d_Md_head_26 rfl (lv_at hl 0 rfl) ?_
              refine kx_iald S hw 4 0 rfl rfl (j := 3) (by decide) (by unfold vp_in; decide) d_Md_head_27 ?_
              refine lv_aload_n hx hb d_Md_head_28 rfl (lv_at hl 2 rfl) ?_
              refine kx_get S hw fg_Md_19 0 rfl rfl d_Md_head_29 ?_
              refine lv_iload_n hx hb d_Md_head_32 rfl (lv_at hl 1 rfl) ?_
              refine kx_iald S hw 4 0 rfl rfl (j := 1) (by decide) (by unfold vp_in; decide) d_Md_head_33 ?_
              refine lv_icmp_ge (tgt := 41) hx hb d_Md_head_34 (by decide) (fun h59 => ?_) (fun h59 => ?_)
              · refine lv_iload_n hx hb d_Md_head_41 rfl (lv_at hl 1 rfl) ?_
                refine lv_istore_n (lv' := [(2, .int 1), (3, .int 3), (0, .ref (bm 0)), (1, .int s)]) hx hb d_Md_head_42 rfl hl (by decide) rfl (fun ls hl => ?_)
                refine lv_iinc (v := 4) (k := 1) (lv' := [(3, .int 4), (2, .int 1), (0, .ref (bm 0)), (1, .int s)]) hx hb d_Md_head_43 hl rfl (by decide) (by decide) rfl (fun ls hl => ?_)
                refine lv_goto (tgt := 4) hx hb d_Md_head_46 (by decide) ?_
                refine lv_iload_n hx hb d_Md_head_4 rfl (lv_at hl 0 rfl) ?_
                refine lv_iconst (v := 4) hx hb d_Md_head_5 (by decide) ?_
                refine lv_icmp_ge (tgt := 49) hx hb d_Md_head_6 (by decide) (fun _ => ?_) (fun h => absurd h (by decide))
                refine lv_iload_n hx hb d_Md_head_49 rfl (lv_at hl 1 rfl) ?_
                exact kx_ret_i I rfl hw () (by simp only [f_Md_head, ← hp1, if_neg h2, ← hp24, if_neg h25, if_neg h38, ← hp51, if_neg h52, if_pos h56, ← hp57, if_neg h58, if_pos h59]) [0, 1, 2, 3, 4, 5, 6, 7] (by decide) rfl d_Md_head_50
              · refine lv_iload_n hx hb d_Md_head_37 rfl (lv_at hl 0 rfl) ?_
                refine lv_goto (tgt := 42) hx hb d_Md_head_38 (by decide) ?_
                refine lv_istore_n (lv' := [(2, .int 3), (3, .int 3), (0, .ref (bm 0)), (1, .int s)]) hx hb d_Md_head_42 rfl hl (by decide) rfl (fun ls hl => ?_)
                refine lv_iinc (v := 4) (k := 1) (lv' := [(3, .int 4), (2, .int 3), (0, .ref (bm 0)), (1, .int s)]) hx hb d_Md_head_43 hl rfl (by decide) (by decide) rfl (fun ls hl => ?_)
                refine lv_goto (tgt := 4) hx hb d_Md_head_46 (by decide) ?_
                refine lv_iload_n hx hb d_Md_head_4 rfl (lv_at hl 0 rfl) ?_
                refine lv_iconst (v := 4) hx hb d_Md_head_5 (by decide) ?_
                refine lv_icmp_ge (tgt := 49) hx hb d_Md_head_6 (by decide) (fun _ => ?_) (fun h => absurd h (by decide))
                refine lv_iload_n hx hb d_Md_head_49 rfl (lv_at hl 1 rfl) ?_
                exact kx_ret_i I rfl hw () (by simp only [f_Md_head, ← hp1, if_neg h2, ← hp24, if_neg h25, if_neg h38, ← hp51, if_neg h52, if_pos h56, ← hp57, if_neg h58, if_neg h59]) [0, 1, 2, 3, 4, 5, 6, 7] (by decide) rfl d_Md_head_50
          · refine lv_iload_n hx hb d_Md_head_37 rfl (lv_at hl 0 rfl) ?_
            refine lv_goto (tgt := 42) hx hb d_Md_head_38 (by decide) ?_
            refine lv_istore_n (lv' := [(2, .int 2), (3, .int 2), (0, .ref (bm 0)), (1, .int s)]) hx hb d_Md_head_42 rfl hl (by decide) rfl (fun ls hl => ?_)
            refine lv_iinc (v := 3) (k := 1) (lv' := [(3, .int 3), (2, .int 2), (0, .ref (bm 0)), (1, .int s)]) hx hb d_Md_head_43 hl rfl (by decide) (by decide) rfl (fun ls hl => ?_)
            refine lv_goto (tgt := 4) hx hb d_Md_head_46 (by decide) ?_
            refine lv_iload_n hx hb d_Md_head_4 rfl (lv_at hl 0 rfl) ?_
            refine lv_iconst (v := 4) hx hb d_Md_head_5 (by decide) ?_
            refine lv_icmp_ge (tgt := 49) hx hb d_Md_head_6 (by decide) (fun h => absurd h (by decide)) (fun _ => ?_)
            refine lv_aload_n hx hb d_Md_head_9 rfl (lv_at hl 2 rfl) ?_
            refine lv_iload_n hx hb d_Md_head_10 rfl (lv_at hl 0 rfl) ?_
            refine lv_iload_n hx hb d_Md_head_11 rfl (lv_at hl 3 rfl) ?_
            refine kx_call_i (wc := [((bm 0), .inr (6, [.int mi.1, .int mi.2.1, .int mi.2.2.1, .ref (bm 1), .ref (bm 2), .ref (bm 3), .ref (bm 4), .ref (bm 5), .ref (bm 6), .ref (bm 7), .ref (bm 8), .ref (bm 9), .int mi.2.2.2.1, .ref (bm 10), .ref (bm 11), .ref (bm 12), .ref (bm 13), .ref (bm 14), .ref (bm 15), .ref (bm 16), .ref (bm 17), .int mi.2.2.2.2.1, .int mi.2.2.2.2.2.1, .int mi.2.2.2.2.2.2.1, .int mi.2.2.2.2.2.2.2.1, .ref (bm 18), .ref (bm 19), .ref (bm 20), .ref (bm 21), .int mi.2.2.2.2.2.2.2.2])), ((bm 1), .inl (cI, 4, .inl w.1)), ((bm 2), .inl (cI, 4, .inl w.2.1)), ((bm 3), .inl (cI, 4, .inl w.2.2.1)), ((bm 4), .inl (cI, 4, .inl w.2.2.2.1)), ((bm 5), .inl (cI, 4, .inl w.2.2.2.2.1)), ((bm 6), .inl (cI, 4, .inl w.2.2.2.2.2.1)), ((bm 7), .inl (cI, 4, .inl w.2.2.2.2.2.2))]) (wr := []) (rest := []) hw [0, 1, 2, 3, 4, 5, 6, 7] [] rfl rfl (by decide) (by decide) (kx_runV S hw fc_Md_85 rfl 0 rfl [0, 1, 2, 3, 4, 5, 6, 7] (by decide) rfl (c_Md_stands l D cI cZ cO bm mi w 3 s ((by unfold vp_in; decide)) H.size) rfl hl.1 rfl (Nat.le_of_ble_eq_true rfl) d_Md_head_12 (by decide) (by decide)) (fun r60 u60 H locs hp60 hw => ?_)
            obtain ⟨hp60, hb60⟩ := hp60
            have hw : kx_w D (kx_T cI cZ cO) A_ s_ [((bm 0), .inr (6, [.int mi.1, .int mi.2.1, .int mi.2.2.1, .ref (bm 1), .ref (bm 2), .ref (bm 3), .ref (bm 4), .ref (bm 5), .ref (bm 6), .ref (bm 7), .ref (bm 8), .ref (bm 9), .int mi.2.2.2.1, .ref (bm 10), .ref (bm 11), .ref (bm 12), .ref (bm 13), .ref (bm 14), .ref (bm 15), .ref (bm 16), .ref (bm 17), .int mi.2.2.2.2.1, .int mi.2.2.2.2.2.1, .int mi.2.2.2.2.2.2.1, .int mi.2.2.2.2.2.2.2.1, .ref (bm 18), .ref (bm 19), .ref (bm 20), .ref (bm 21), .int mi.2.2.2.2.2.2.2.2])), ((bm 1), .inl (cI, 4, .inl w.1)), ((bm 2), .inl (cI, 4, .inl w.2.1)), ((bm 3), .inl (cI, 4, .inl w.2.2.1)), ((bm 4), .inl (cI, 4, .inl w.2.2.2.1)), ((bm 5), .inl (cI, 4, .inl w.2.2.2.2.1)), ((bm 6), .inl (cI, 4, .inl w.2.2.2.2.2.1)), ((bm 7), .inl (cI, 4, .inl w.2.2.2.2.2.2))] H locs := hw
            refine lv_if_eq (tgt := 41) hx hb d_Md_head_15 (by decide) (fun h61 => ?_) (fun h61 => ?_)
            · refine lv_iload_n hx hb d_Md_head_41 rfl (lv_at hl 1 rfl) ?_
              refine lv_istore_n (lv' := [(2, .int 2), (3, .int 3), (0, .ref (bm 0)), (1, .int s)]) hx hb d_Md_head_42 rfl hl (by decide) rfl (fun ls hl => ?_)
              refine lv_iinc (v := 4) (k := 1) (lv' := [(3, .int 4), (2, .int 2), (0, .ref (bm 0)), (1, .int s)]) hx hb d_Md_head_43 hl rfl (by decide) (by decide) rfl (fun ls hl => ?_)
              refine lv_goto (tgt := 4) hx hb d_Md_head_46 (by decide) ?_
              refine lv_iload_n hx hb d_Md_head_4 rfl (lv_at hl 0 rfl) ?_
              refine lv_iconst (v := 4) hx hb d_Md_head_5 (by decide) ?_
              refine lv_icmp_ge (tgt := 49) hx hb d_Md_head_6 (by decide) (fun _ => ?_) (fun h => absurd h (by decide))
              refine lv_iload_n hx hb d_Md_head_49 rfl (lv_at hl 1 rfl) ?_
              exact kx_ret_i I rfl hw () (by simp only [f_Md_head, ← hp1, if_neg h2, ← hp24, if_neg h25, if_neg h38, ← hp51, if_neg h52, if_neg h56, ← hp60, if_pos h61]) [0, 1, 2, 3, 4, 5, 6, 7] (by decide) rfl d_Md_head_50
            · refine lv_iload_n hx hb d_Md_head_18 rfl (lv_at hl 1 rfl) ?_
              refine lv_if_lt (tgt := 37) hx hb d_Md_head_19 (by decide) (fun h => absurd h (by decide)) (fun _ => ?_)
              refine lv_aload_n hx hb d_Md_head_22 rfl (lv_at hl 2 rfl) ?_
              refine kx_get S hw fg_Md_19 0 rfl rfl d_Md_head_23 ?_
              refine lv_iload_n hx hb d_Md_head_26 rfl (lv_at hl 0 rfl) ?_
              refine kx_iald S hw 4 0 rfl rfl (j := 3) (by decide) (by unfold vp_in; decide) d_Md_head_27 ?_
              refine lv_aload_n hx hb d_Md_head_28 rfl (lv_at hl 2 rfl) ?_
              refine kx_get S hw fg_Md_19 0 rfl rfl d_Md_head_29 ?_
              refine lv_iload_n hx hb d_Md_head_32 rfl (lv_at hl 1 rfl) ?_
              refine kx_iald S hw 4 0 rfl rfl (j := 2) (by decide) (by unfold vp_in; decide) d_Md_head_33 ?_
              refine lv_icmp_ge (tgt := 41) hx hb d_Md_head_34 (by decide) (fun h62 => ?_) (fun h62 => ?_)
              · refine lv_iload_n hx hb d_Md_head_41 rfl (lv_at hl 1 rfl) ?_
                refine lv_istore_n (lv' := [(2, .int 2), (3, .int 3), (0, .ref (bm 0)), (1, .int s)]) hx hb d_Md_head_42 rfl hl (by decide) rfl (fun ls hl => ?_)
                refine lv_iinc (v := 4) (k := 1) (lv' := [(3, .int 4), (2, .int 2), (0, .ref (bm 0)), (1, .int s)]) hx hb d_Md_head_43 hl rfl (by decide) (by decide) rfl (fun ls hl => ?_)
                refine lv_goto (tgt := 4) hx hb d_Md_head_46 (by decide) ?_
                refine lv_iload_n hx hb d_Md_head_4 rfl (lv_at hl 0 rfl) ?_
                refine lv_iconst (v := 4) hx hb d_Md_head_5 (by decide) ?_
                refine lv_icmp_ge (tgt := 49) hx hb d_Md_head_6 (by decide) (fun _ => ?_) (fun h => absurd h (by decide))
                refine lv_iload_n hx hb d_Md_head_49 rfl (lv_at hl 1 rfl) ?_
                exact kx_ret_i I rfl hw () (by simp only [f_Md_head, ← hp1, if_neg h2, ← hp24, if_neg h25, if_neg h38, ← hp51, if_neg h52, if_neg h56, ← hp60, if_neg h61, if_pos h62]) [0, 1, 2, 3, 4, 5, 6, 7] (by decide) rfl d_Md_head_50
              · refine lv_iload_n hx hb d_Md_head_37 rfl (lv_at hl 0 rfl) ?_
                refine lv_goto (tgt := 42) hx hb d_Md_head_38 (by decide) ?_
                refine lv_istore_n (lv' := [(2, .int 3), (3, .int 3), (0, .ref (bm 0)), (1, .int s)]) hx hb d_Md_head_42 rfl hl (by decide) rfl (fun ls hl => ?_)
                refine lv_iinc (v := 4) (k := 1) (lv' := [(3, .int 4), (2, .int 3), (0, .ref (bm 0)), (1, .int s)]) hx hb d_Md_head_43 hl rfl (by decide) (by decide) rfl (fun ls hl => ?_)
                refine lv_goto (tgt := 4) hx hb d_Md_head_46 (by decide) ?_
                refine lv_iload_n hx hb d_Md_head_4 rfl (lv_at hl 0 rfl) ?_
                refine lv_iconst (v := 4) hx hb d_Md_head_5 (by decide) ?_
                refine lv_icmp_ge (tgt := 49) hx hb d_Md_head_6 (by decide) (fun _ => ?_) (fun h => absurd h (by decide))
                refine lv_iload_n hx hb d_Md_head_49 rfl (lv_at hl 1 rfl) ?_
                exact kx_ret_i I rfl hw () (by simp only [f_Md_head, ← hp1, if_neg h2, ← hp24, if_neg h25, if_neg h38, ← hp51, if_neg h52, if_neg h56, ← hp60, if_neg h61, if_neg h62]) [0, 1, 2, 3, 4, 5, 6, 7] (by decide) rfl d_Md_head_50
