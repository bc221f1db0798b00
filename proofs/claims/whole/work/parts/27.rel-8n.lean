/-! tick: its steps, one after the other -/
def kr_n (w : kt_W) : Nat := (if w.2.2.2.2.1 0 = 1 then 1 else 0) + (if w.2.2.2.2.1 1 = 1 then 1 else 0) + (if w.2.2.2.2.1 2 = 1 then 1 else 0) + (if w.2.2.2.2.1 3 = 1 then 1 else 0)
theorem kr_pe {w w' : kt_W} {r : Int32} {pr : Bool} (h : kr_end w w' r pr) : ∃ d, r = nI d ∧ kr_n w = kr_n w' + d := by
  obtain ⟨-, -, -, ⟨rfl, st⟩ | ⟨rfl, u, k, us, hk, st⟩⟩ := h
  · refine ⟨0, rfl, ?_⟩
    unfold kr_n
    rw [st]
    rfl
  · refine ⟨1, rfl, ?_⟩
    have h1 := us.2.1
    unfold kr_n
    rw [st]
    have e1 : ∀ v, v ≠ u → upd w.2.2.2.2.1 u k v = w.2.2.2.2.1 v := fun v hv => pk_un hv
    have e2 : upd w.2.2.2.2.1 u k u = k := pk_us
    rcases (show u = 0 ∨ u = 1 ∨ u = 2 ∨ u = 3 by have := us.1; omega) with rfl | rfl | rfl | rfl
    · rw [e1 1 (by decide), e1 2 (by decide), e1 3 (by decide), e2, if_pos h1, if_neg hk]
      try omega
    · rw [e1 0 (by decide), e1 2 (by decide), e1 3 (by decide), e2, if_pos h1, if_neg hk]
      try omega
    · rw [e1 0 (by decide), e1 1 (by decide), e1 3 (by decide), e2, if_pos h1, if_neg hk]
      try omega
    · rw [e1 0 (by decide), e1 1 (by decide), e1 2 (by decide), e2, if_pos h1, if_neg hk]
      try omega
theorem kr_end.p {w w' : kt_W} {r : Int32} {pr : Bool} (h : kr_end w w' r pr) (u : Nat) (hu : w'.2.2.2.2.1 u = 1) : w.2.2.2.2.1 u = 1 := by
  obtain ⟨-, -, -, ⟨rfl, st⟩ | ⟨rfl, x, k, us, hk, st⟩⟩ := h
  · rw [st] at hu
    exact hu
  · rw [st] at hu
    by_cases e : u = x
    · subst e
      exact us.2.1
    · rw [pk_un e] at hu
      exact hu
/-- the reference's numbers when a tick has begun -/
def kr_m1 (mi : kt_I) : kt_I := (mi.1, mi.2.1 + 1, mi.2.2.1, mi.2.2.2.1, mi.2.2.2.2.1, mi.2.2.2.2.2.1, mi.2.2.2.2.2.2.1, mi.2.2.2.2.2.2.2.1, mi.2.2.2.2.2.2.2.2)
/-- whether a ping is due -/
def kr_p (mi : kt_I) (p : Int32) : Prop := (p = 1 ∧ ((kr_m1 mi).2.1 - (kr_m1 mi).2.1 / (kr_m1 mi).1 * (kr_m1 mi).1) = 0) ∨ (p = 0 ∧ ¬ ((kr_m1 mi).2.1 - (kr_m1 mi).2.1 / (kr_m1 mi).1 * (kr_m1 mi).1) = 0)
theorem kr_A {t : Nat} {mm : kt_M} {ops : Nat → kt_Op} {fl : kt_Ln} {tl : kt_Ln} {dk : kt_Dr} {co : kt_Dr} {fr : kt_Rq} {tr : kt_Rq} {ca : kt_Ca} {dv : Nat → Int32} {po : Nat → Int32} {mi : kt_I} {w : kt_W} {e : kt_E} {y : kt_Ca} {dw : Nat → Int32} {pw : Nat → Int32} {p : Int32} {e1 e2 : kt_E} (h : kr t mm ops fl tl dk co fr tr ca dv po mi w e y dw pw) (hp : kr_p mi p) (h1 : e1 = f_Md_reincarnate_0 (kr_m1 mi) e) (h2 : e2 = f_Md_reincarnate_1 (kr_m1 mi) e1) :
    kr_d (f_Dr_beWatched dk p) e2 0 ∧ kr_d (f_Dr_beWatched co p) e2 1 ∧ kr_f fr (f_Dr_beWatched dk p) ca (kr_m1 mi) e2 ∧ kr_t tr (f_Dr_beWatched co p) ops tl e2 := by
  obtain ⟨hi, ho, hf, hg, hd, hc, hq, hr, hy, e12⟩ := h
  subst h1 h2
  obtain ⟨a1, a2, a3, a4, a5⟩ := kr_w0 (mi := kr_m1 mi) hd hp
  obtain ⟨b1, b2, b3, b4, b5⟩ := kr_w1 (mi := kr_m1 mi) (a2.d (by decide) hc) hp
  refine ⟨b2.d (by decide) a1, b1, ?_, ?_⟩
  · unfold kr_f
    rw [b3, b4, a3, a4]
    refine ⟨hq.1, hq.2.1, fun z => ?_, hq.2.2.2⟩
    rcases a5 with a5 | ⟨a5, a6⟩
    · exact absurd a5 z
    · rw [a5] at z
      rw [a6]
      exact hq.2.2.1 z
  · unfold kr_t
    rw [b3, b4, a3, a4]
    refine ⟨fun z => ?_, hr.2⟩
    rcases b5 with b5 | ⟨b5, b6⟩
    · exact absurd b5 z
    · rw [b5] at z
      rw [b6]
      exact hr.1 z
/-- after the disk's step -/
theorem kr_B {t : Nat} {mm : kt_M} {ops : Nat → kt_Op} {fl : kt_Ln} {tl : kt_Ln} {dk : kt_Dr} {co : kt_Dr} {fr : kt_Rq} {tr : kt_Rq} {ca : kt_Ca} {dv : Nat → Int32} {po : Nat → Int32} {mi : kt_I} {w : kt_W} {e : kt_E} {y : kt_Ca} {dw : Nat → Int32} {pw : Nat → Int32} {p : Int32} {e1 e2 e3 : kt_E} {mm3 : kt_M} {dk3 : kt_Dr} {fr3 : kt_Rq} {dv3 dw3 : Nat → Int32} {mi3 : kt_I} (h : kr t mm ops fl tl dk co fr tr ca dv po mi w e y dw pw) (hp : kr_p mi p) (h1 : e1 = f_Md_reincarnate_0 (kr_m1 mi) e) (h2 : e2 = f_Md_reincarnate_1 (kr_m1 mi) e1)
    (h3 : (mm3, dk3, fr3, dv3) = f_RD_stepDisk (mm.1, mm.2.1, mm.2.2.1, mm.2.2.2 + 1) (f_Dr_beWatched dk p) fr ca dv) (h4 : (mi3, e3, dw3) = f_Md_step_0 (kr_m1 mi) e2 y dw) :
    kr_d dk3 e3 0 ∧ kr_d (f_Dr_beWatched co p) e3 1 ∧ kr_fm fr3 dk3 ca mi3 e3 ∧ kr_t tr (f_Dr_beWatched co p) ops tl e3 ∧ dv3 = dw3 ∧ kr_k (kr_m1 mi) mi3 ∧ (mm3.1 = mm.1 ∧ mm3.2.1 = mm.2.1 ∧ mm3.2.2.2 = mm.2.2.2 + 1 ∧ mm3.2.2.1 = mi3.2.2.2.2.2.2.2.1) := by
  obtain ⟨a1, a2, a3, a4⟩ := kr_A h hp h1 h2
  obtain ⟨hi, ho, hf, hg, hd, hc, hq, hr, hy, rfl, -⟩ := h
  have hcc : ∀ i, i < 3 → ca.1 i = y.1 i ∧ (¬ y.1 i = -1 → ca.2.1 i = y.2.1 i) := fun i hi => ⟨(hy.2.1 i hi).1, (hy.2.1 i hi).2.2.1⟩
  obtain ⟨z1, z2, z3, z4, z5, z6, z7, z8⟩ := kr_sd (mm := (mm.1, mm.2.1, mm.2.2.1, mm.2.2.2 + 1)) (mi := kr_m1 mi) a1 a3 hi.2.2.2.2.1 hcc h3 h4
  refine ⟨z1, z2.d (by decide) a2, z3, ?_, z4, z5, z6⟩
  unfold kr_t
  rw [z7, z8]
  exact a4
theorem kr_put {mi mi3 : kt_I} (h : kr_k (kr_m1 mi) mi3) : mi3.2.2.2.1 = mi.2.2.2.1 := h.2.2.2.1
/-- the head of the terminal's line, while a request is open -/
theorem kr_hv {ops : Nat → kt_Op} {tl : kt_Ln} {co : kt_Dr} {tr : kt_Rq} {mi : kt_I} {w : kt_W} {e : kt_E} (ho : ∀ u, u < 4 → kr_o (ops u) w u) (hl : kr_l tl w true) (hq : kr_t tr co ops tl e) (h0 : ¬ tr.1 = 0) : vp_in (f_Md_head mi w 1) 4 ∧ w.2.2.1 (f_Md_head mi w 1).toNatClampNeg = tr.2.2.2.1 := by
  rcases hq.2 with q | ⟨k1, -, k2, k3, -⟩
  · exact absurd q.1 h0
  · rcases kr_hl1 (mi := mi) hl with ⟨l0, -⟩ | ⟨l0, u, us, l1, hh⟩
    · exact absurd l0 k2
    · have hu := us.1
      rw [l1] at k3
      rw [hh]
      rw [nI_clamp (by omega)] at k3 ⊢
      refine ⟨vp_in_nI hu (by decide), ?_⟩
      rw [k3]
      have h1 := ho u hu
      exact (h1.2.2 (h1.1.symm.trans us.2.1)).2.2.2.1
/-- after the console's step -/
theorem kr_C {t : Nat} {mm : kt_M} {ops : Nat → kt_Op} {fl : kt_Ln} {tl : kt_Ln} {dk : kt_Dr} {co : kt_Dr} {fr : kt_Rq} {tr : kt_Rq} {ca : kt_Ca} {dv : Nat → Int32} {po : Nat → Int32} {mi : kt_I} {w : kt_W} {e : kt_E} {y : kt_Ca} {dw : Nat → Int32} {pw : Nat → Int32} {p : Int32} {e1 e2 e3 e4 : kt_E} {mm3 mm4 : kt_M} {dk3 co4 : kt_Dr} {fr3 tr4 : kt_Rq} {dv3 dw3 po4 pw4 : Nat → Int32} {mi3 mi4 : kt_I} (h : kr t mm ops fl tl dk co fr tr ca dv po mi w e y dw pw) (hp : kr_p mi p) (h1 : e1 = f_Md_reincarnate_0 (kr_m1 mi) e) (h2 : e2 = f_Md_reincarnate_1 (kr_m1 mi) e1)
    (h3 : (mm3, dk3, fr3, dv3) = f_RD_stepDisk (mm.1, mm.2.1, mm.2.2.1, mm.2.2.2 + 1) (f_Dr_beWatched dk p) fr ca dv) (h4 : (mi3, e3, dw3) = f_Md_step_0 (kr_m1 mi) e2 y dw)
    (h5 : (mm4, co4, tr4, po4) = f_RD_stepConsole mm3 (f_Dr_beWatched co p) tr po) (h6 : (mi4, e4, pw4) = f_Md_step_1 mi3 w e3 pw) :
    kr_d dk3 e4 0 ∧ kr_d co4 e4 1 ∧ kr_fm fr3 dk3 ca mi4 e4 ∧ kr_tm tr4 co4 ops tl e4 ∧ dv3 = dw3 ∧ po4 = pw4 ∧
    (mm4.1 = mm.1 ∧ mm4.2.2.2 = mm.2.2.2 + 1 ∧ mm4.2.2.1 = mi4.2.2.2.2.2.2.2.1 ∧ mm4.2.1 = mi4.2.2.2.1 ∧ kv_ol mm4) ∧ (mi4.1 = mi.1 ∧ mi4.2.1 = mi.2.1 + 1 ∧ mi4.2.2.1 = mi.2.2.1 ∧ mi4.2.2.2.2.2.2.2.2 = mi.2.2.2.2.2.2.2.2) := by
  obtain ⟨b1, b2, b3, b4, b5, b6, b7⟩ := kr_B h hp h1 h2 h3 h4
  obtain ⟨hi, ho, hf, hg, hd, hc, hq, hr, hy, -, rfl⟩ := h
  have hol : kv_ol mm3 := by
    unfold kv_ol
    rw [b7.2.1]
    exact hi.2.2.2.1
  obtain ⟨z1, z2, z3, z4, z5, z6, z7, z8⟩ := kr_sc b2 b4 (by rw [b7.2.1, hi.2.2.1, kr_put b6]) hol (fun z => (kr_hv ho hg b4 z).2) h5 h6
  obtain ⟨k1, k2, k3, k4⟩ := z5
  obtain ⟨m1, m2, m3, m4⟩ := z6
  obtain ⟨n1, n2, n3, n4, n5, n6, n7, n8⟩ := b6
  refine ⟨z2.d (by decide) b1, z1, ?_, z3, b5, z4, ⟨?_, ?_, ?_, m3, m4⟩, ?_, ?_, ?_, ?_⟩
  · unfold kr_fm kr_fk
    rw [k4, z7, z8]
    exact b3
  · rw [m1, b7.1]
  · rw [m2, b7.2.2.1]
  · rw [m2, k4, b7.2.2.2]
  · rw [k1, n1]
    rfl
  · rw [k2, n2]
    rfl
  · rw [k3, n3]
    rfl
  · rw [k4, n8]
    rfl
/-- the cache, when the time has gone on -/
theorem kr_cmt {t : Nat} {mm mm4 : kt_M} {mi mi4 : kt_I} {ca y : kt_Ca} (h : kr_c t mm mi ca y) (e1 : mm4.2.2.2 = mm.2.2.2 + 1) (e2 : mi4.2.2.2.2.2.2.2.2 = mi.2.2.2.2.2.2.2.2) : kr_cm t mm4 mi4 ca y := by
  obtain ⟨⟨a, c, ha, hc, ea, ec, hr⟩, h2, h3, h4⟩ := h
  exact ⟨⟨h2, h3⟩, a, c, ha, hc, by rw [e1, ea, nI_1], e2.trans ec, hr, h4⟩
/-- what serving files leaves of the terminal's side -/
theorem kr_lt {tl : kt_Ln} {w w' : kt_W} {r : Int32} (h : kr_l tl w true) (he : kr_end w w' r false) : kr_l tl w' true := by
  obtain ⟨a1, a2, a3, ⟨-, st⟩ | ⟨-, u, k, us, hk, st⟩⟩ := he
  · exact h.same a1 st a3
  · refine kr_lx h (fun z => absurd (us.2.2.mp (z.2.2.mpr rfl)) (by decide)) (fun z => hk ?_) (fun v hv => ⟨by rw [a1], by rw [st, pk_un hv], by rw [a3]⟩)
    have z := z.2.1
    rw [st, pk_us] at z
    exact z
