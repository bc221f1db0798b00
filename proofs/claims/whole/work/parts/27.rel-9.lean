/-! tick: the whole -/
theorem kr_rt {mm : kt_M} {ops : Nat → kt_Op} {fl : kt_Ln} {tl : kt_Ln} {dk : kt_Dr} {co : kt_Dr} {fr : kt_Rq} {tr : kt_Rq} {ca : kt_Ca} {dv : Nat → Int32} {po : Nat → Int32} {mi : kt_I} {r1 : Int32} {mm' : kt_M} {ops' : Nat → kt_Op} {fl' : kt_Ln} {tl' : kt_Ln} {dk' : kt_Dr} {co' : kt_Dr} {fr' : kt_Rq} {tr' : kt_Rq} {ca' : kt_Ca} {dv' : Nat → Int32} {po' : Nat → Int32} (i1 : mm.1 = mi.1) (i6 : mm.2.2.2 = mi.2.1) (h1 : (r1, mm', ops', fl', tl', dk', co', fr', tr', ca', dv', po') = f_RD_tick mm ops fl tl dk co fr tr ca dv po) :
    ∃ p, kr_p mi p ∧ ∃ mm3 dk3 fr3 dv3 mm4 co4 tr4 po4 r6 ops6 fl6 dk6 fr6 ca6 r7 ops7 tl7 co7 tr7, (mm3, dk3, fr3, dv3) = f_RD_stepDisk (mm.1, mm.2.1, mm.2.2.1, mm.2.2.2 + 1) (f_Dr_beWatched dk p) fr ca dv ∧ (mm4, co4, tr4, po4) = f_RD_stepConsole mm3 (f_Dr_beWatched co p) tr po ∧ (r6, ops6, fl6, dk6, fr6, ca6) = f_RD_serveFiles mm4 ops fl dk3 fr3 ca ∧ (r7, ops7, tl7, co7, tr7) = f_RD_serveTerminal mm4 ops6 tl co4 tr4 ∧ r1 = r6 + r7 ∧ mm' = mm4 ∧ ops' = ops7 ∧ fl' = fl6 ∧ tl' = tl7 ∧ dk' = dk6 ∧ co' = co7 ∧ fr' = fr6 ∧ tr' = tr7 ∧ ca' = ca6 ∧ dv' = dv3 ∧ po' = po4 := by
  have key : ∃ p, kr_p mi p ∧ (r1, mm', ops', fl', tl', dk', co', fr', tr', ca', dv', po') = (match f_RD_stepDisk (mm.1, mm.2.1, mm.2.2.1, mm.2.2.2 + 1) (f_Dr_beWatched dk p) fr ca dv with
      | (mm4, dk4, fr4, dv4) => match f_RD_stepConsole mm4 (f_Dr_beWatched co p) tr po with
        | (mm5, co5, tr5, po5) => match f_RD_serveFiles mm5 ops fl dk4 fr4 ca with
          | (r6, ops6, fl6, dk6, fr6, ca6) => match f_RD_serveTerminal mm5 ops6 tl co5 tr5 with
            | (r7, ops7, tl7, co7, tr7) => (r6 + r7, mm5, ops7, fl6, tl7, dk6, co7, fr6, tr7, ca6, dv4, po5)) := by
    unfold f_RD_tick at h1
    by_cases c : ((mm.2.2.2 + 1) - (mm.2.2.2 + 1) / mm.1 * mm.1) = 0
    · rw [if_pos c] at h1
      refine ⟨1, Or.inl ⟨rfl, ?_⟩, h1⟩
      rw [i1, i6] at c
      exact c
    · rw [if_neg c] at h1
      refine ⟨0, Or.inr ⟨rfl, ?_⟩, h1⟩
      rw [i1, i6] at c
      exact c
  clear h1
  obtain ⟨p, hp, h1⟩ := key
  refine ⟨p, hp, ?_⟩
  generalize hA : f_RD_stepDisk (mm.1, mm.2.1, mm.2.2.1, mm.2.2.2 + 1) (f_Dr_beWatched dk p) fr ca dv = S at h1
  obtain ⟨mm3, dk3, fr3, dv3⟩ := S
  dsimp only at h1
  generalize hB : f_RD_stepConsole mm3 (f_Dr_beWatched co p) tr po = S at h1
  obtain ⟨mm4, co4, tr4, po4⟩ := S
  dsimp only at h1
  generalize hC : f_RD_serveFiles mm4 ops fl dk3 fr3 ca = S at h1
  obtain ⟨r6, ops6, fl6, dk6, fr6, ca6⟩ := S
  dsimp only at h1
  generalize hD : f_RD_serveTerminal mm4 ops6 tl co4 tr4 = S at h1
  obtain ⟨r7, ops7, tl7, co7, tr7⟩ := S
  dsimp only at h1
  simp only [Prod.mk.injEq] at h1
  exact ⟨mm3, dk3, fr3, dv3, mm4, co4, tr4, po4, r6, ops6, fl6, dk6, fr6, ca6, r7, ops7, tl7, co7, tr7, rfl, hB.symm, hC.symm, hD.symm, h1⟩
theorem kr_D {t : Nat} {mm : kt_M} {ops : Nat → kt_Op} {fl : kt_Ln} {tl : kt_Ln} {dk : kt_Dr} {co : kt_Dr} {fr : kt_Rq} {tr : kt_Rq} {ca : kt_Ca} {dv : Nat → Int32} {po : Nat → Int32} {mi : kt_I} {w : kt_W} {e : kt_E} {y : kt_Ca} {dw : Nat → Int32} {pw : Nat → Int32} {e4 e5 : kt_E} {mm4 : kt_M} {dk3 dk6 : kt_Dr} {fr3 fr6 : kt_Rq} {mi4 mi5 : kt_I} {r6 : Int32} {ops6 : Nat → kt_Op} {fl6 : kt_Ln} {ca6 y5 : kt_Ca} {w5 : kt_W} (h : kr t mm ops fl tl dk co fr tr ca dv po mi w e y dw pw) (c1 : kr_d dk3 e4 0) (c3 : kr_fm fr3 dk3 ca mi4 e4) (m3 : mm4.2.2.1 = mi4.2.2.2.2.2.2.2.1) (m2 : mm4.2.2.2 = mm.2.2.2 + 1) (n4 : mi4.2.2.2.2.2.2.2.2 = mi.2.2.2.2.2.2.2.2) (ht : t < 512)
    (h7 : (r6, ops6, fl6, dk6, fr6, ca6) = f_RD_serveFiles mm4 ops fl dk3 fr3 ca) (h8 : (mi5, w5, e5, y5) = f_Md_serveFiles mi4 w e4 y) : kr_fo t mm4 mi4 w e4 ops r6 ops6 fl6 dk6 fr6 ca6 mi5 w5 e5 y5 := by
  obtain ⟨hi, ho, hf, hg, hd, hc, hq, hr, hy, e12⟩ := h
  exact kr_svf ht m3 ho hf c1 c3 (kr_cmt hy m2 n4) h7 h8
theorem kr_E {t : Nat} {mm : kt_M} {ops : Nat → kt_Op} {fl : kt_Ln} {tl : kt_Ln} {dk : kt_Dr} {co : kt_Dr} {fr : kt_Rq} {tr : kt_Rq} {ca : kt_Ca} {dv : Nat → Int32} {po : Nat → Int32} {mi : kt_I} {w : kt_W} {e : kt_E} {y : kt_Ca} {dw : Nat → Int32} {pw : Nat → Int32} {e4 e5 e7 : kt_E} {mm4 : kt_M} {dk6 co4 co7 : kt_Dr} {fr6 tr4 tr7 : kt_Rq} {mi4 mi5 : kt_I} {r6 r7 : Int32} {ops6 ops7 : Nat → kt_Op} {fl6 tl7 : kt_Ln} {ca6 y5 : kt_Ca} {w5 w7 : kt_W} (h : kr t mm ops fl tl dk co fr tr ca dv po mi w e y dw pw) (c2 : kr_d co4 e4 1) (c4 : kr_tm tr4 co4 ops tl e4) (D : kr_fo t mm4 mi4 w e4 ops r6 ops6 fl6 dk6 fr6 ca6 mi5 w5 e5 y5)
    (h9 : (r7, ops7, tl7, co7, tr7) = f_RD_serveTerminal mm4 ops6 tl co4 tr4) (h10 : (w7, e7) = f_Md_serveTerminal mi5 w5 e5) : kr_to w5 e5 fl6 r7 ops7 tl7 co7 tr7 w7 e7 := by
  obtain ⟨d1, d2, d3, d4, d5, d6, d7, d8, d9, d10⟩ := D
  obtain ⟨hi, ho, hf, hg, -⟩ := h
  have hq : kr_tm tr4 co4 ops6 tl e5 := by
    unfold kr_tm kr_tk
    rw [(d5 1 (by decide)).1, (d5 1 (by decide)).2, d9]
    exact c4
  exact kr_svt d1 d2 (kr_lt hg d10) (d4.d (by decide) c2) hq h9 h10
theorem rl_tick {t : Nat} {mm : kt_M} {ops : Nat → kt_Op} {fl : kt_Ln} {tl : kt_Ln} {dk : kt_Dr} {co : kt_Dr} {fr : kt_Rq} {tr : kt_Rq} {ca : kt_Ca} {dv : Nat → Int32} {po : Nat → Int32} {mi : kt_I} {w : kt_W} {e : kt_E} {y : kt_Ca} {dw : Nat → Int32} {pw : Nat → Int32}  {r1 r2 : Int32} {mm' : kt_M} {ops' : Nat → kt_Op} {fl' : kt_Ln} {tl' : kt_Ln} {dk' : kt_Dr} {co' : kt_Dr} {fr' : kt_Rq} {tr' : kt_Rq} {ca' : kt_Ca} {dv' : Nat → Int32} {po' : Nat → Int32} {mi' : kt_I} {w' : kt_W} {e' : kt_E} {y' : kt_Ca} {dw' : Nat → Int32} {pw' : Nat → Int32} (h : kr t mm ops fl tl dk co fr tr ca dv po mi w e y dw pw) (ht : t < 512) (h1 : (r1, mm', ops', fl', tl', dk', co', fr', tr', ca', dv', po') = f_RD_tick mm ops fl tl dk co fr tr ca dv po) (h2 : (r2, mi', w', e', y', dw', pw') = f_Md_tick mi w e y dw pw) : r1 = r2 ∧ kr (t + 1) mm' ops' fl' tl' dk' co' fr' tr' ca' dv' po' mi' w' e' y' dw' pw' := by 
  obtain ⟨p, hp, mm3, dk3, fr3, dv3, mm4, co4, tr4, po4, r6, ops6, fl6, dk6, fr6, ca6, r7, ops7, tl7, co7, tr7, h3, h5, h7, h9, g1, g2, g3, g4, g5, g6, g7, g8, g9, g10, g11, g12⟩ := kr_rt (mi := mi) h.1.1 h.1.2.2.2.2.2.1 h1
  unfold f_Md_tick at h2
  dsimp only at h2
  generalize hE1 : f_Md_reincarnate_0 (mi.1, mi.2.1 + 1, mi.2.2.1, mi.2.2.2.1, mi.2.2.2.2.1, mi.2.2.2.2.2.1, mi.2.2.2.2.2.2.1, mi.2.2.2.2.2.2.2.1, mi.2.2.2.2.2.2.2.2) e = e1 at h2
  generalize hE2 : f_Md_reincarnate_1 (mi.1, mi.2.1 + 1, mi.2.2.1, mi.2.2.2.1, mi.2.2.2.2.1, mi.2.2.2.2.2.1, mi.2.2.2.2.2.2.1, mi.2.2.2.2.2.2.2.1, mi.2.2.2.2.2.2.2.2) e1 = e2 at h2
  generalize h4 : f_Md_step_0 (mi.1, mi.2.1 + 1, mi.2.2.1, mi.2.2.2.1, mi.2.2.2.2.1, mi.2.2.2.2.2.1, mi.2.2.2.2.2.2.1, mi.2.2.2.2.2.2.2.1, mi.2.2.2.2.2.2.2.2) e2 y dw = S at h2
  obtain ⟨mi3, e3, dw3⟩ := S
  dsimp only at h2
  generalize h6 : f_Md_step_1 mi3 w e3 pw = S at h2
  obtain ⟨mi4, e4, pw4⟩ := S
  dsimp only at h2
  generalize h8 : f_Md_serveFiles mi4 w e4 y = S at h2
  obtain ⟨mi5, w5, e5, y5⟩ := S
  dsimp only at h2
  generalize h10 : f_Md_serveTerminal mi5 w5 e5 = S at h2
  obtain ⟨w7, e7⟩ := S
  dsimp only at h2
  obtain ⟨c1, c2, c3, c4, c5, c6, ⟨m1, m2, m3, m4, m5⟩, ⟨n1, n2, n3, n4⟩⟩ := kr_C h hp hE1.symm hE2.symm h3 h4.symm h5 h6.symm
  have D := kr_D h c1 c3 m3 m2 n4 ht h7 h8.symm
  have E := kr_E h c2 c4 D h9 h10.symm
  simp only [Prod.mk.injEq] at h2
  obtain ⟨rfl, rfl, rfl, rfl, rfl, rfl, rfl⟩ := h2
  subst g1 g2 g3 g4 g5 g6 g7 g8 g9 g10 g11 g12
  obtain ⟨hi, -⟩ := h
  obtain ⟨d1, d2, d3, d4, d5, d6, d7, d8, d9, d10⟩ := D
  obtain ⟨f1, f2, f3, f4, f5, f6, f7, f8⟩ := E
  refine ⟨?_, ?_, f1, f2, f3, f5.d (by decide) d3, f4, ?_, f7, d7, c5, c6⟩
  · obtain ⟨x1, y1, z1⟩ := kr_pe d10
    obtain ⟨x2, y2, z2⟩ := kr_pe f8
    rw [y1, y2, kr_pend, kr_pend]
    show _ = nI (kr_n w) - nI (kr_n w')
    rw [z1, z2, nI_add, show kr_n w' + x2 + x1 = (x1 + x2) + kr_n w' by omega, ← nI_add (x1 + x2), Int32.add_sub_cancel]
  · obtain ⟨i1, i2, i3, i4, i5, i6, ⟨a, ha, ea⟩, ⟨g, hg, eg, hu⟩⟩ := hi
    obtain ⟨j1, j2, j3, j4, j5⟩ := d8
    refine ⟨?_, ?_, ?_, m5, ?_, ?_, ⟨a + 1, by omega, ?_⟩, ⟨g, by omega, ?_, fun u hu4 hs => ?_⟩⟩
    · rw [m1, j1, n1, i1]
    · rw [m1]
      exact i2
    · rw [m4, j4]
    · rw [m3, j5]
    · rw [m2, j2, n2, i6]
    · rw [j2, n2, ea, nI_1]
    · rw [j3, n3, eg]
    · obtain ⟨a2, x1, x2⟩ := hu u hu4 (d10.p u (f8.p u hs))
      refine ⟨a2, x1, ?_⟩
      rw [f8.2.2.1, d10.2.2.1, x2]
  · unfold kr_f
    rw [(f6 0 (by decide)).1, (f6 0 (by decide)).2]
    exact d6
theorem rl_tm {t : Nat} {mm : kt_M} {ops : Nat → kt_Op} {fl : kt_Ln} {tl : kt_Ln} {dk : kt_Dr} {co : kt_Dr} {fr : kt_Rq} {tr : kt_Rq} {ca : kt_Ca} {dv : Nat → Int32} {po : Nat → Int32} {mi : kt_I} {w : kt_W} {e : kt_E} {y : kt_Ca} {dw : Nat → Int32} {pw : Nat → Int32} (h : kr t mm ops fl tl dk co fr tr ca dv po mi w e y dw pw) (ht : t < 512) : ¬ mi.1 = 0 ∧ kv_mt mi w e y dw pw := by 
  obtain ⟨p, hp⟩ : ∃ p, kr_p mi p := by
    by_cases c : ((kr_m1 mi).2.1 - (kr_m1 mi).2.1 / (kr_m1 mi).1 * (kr_m1 mi).1) = 0
    · exact ⟨1, Or.inl ⟨rfl, c⟩⟩
    · exact ⟨0, Or.inr ⟨rfl, c⟩⟩
  refine ⟨by rw [← h.1.1]; exact h.1.2.1, ?_⟩
  intro e1 hE1 e2 hE2
  obtain ⟨a1, a2, a3, a4⟩ := kr_A h hp hE1 hE2
  refine ⟨fun s1 => ?_, fun mi3 e3 dw3 h4 => ?_⟩
  · have s2 : (f_Dr_beWatched dk p).2.2.1 = 1 := a1.2.2.2.2.1.symm.trans s1
    have k0 := (a3.2.2.1 (by rw [s2]; decide)).1
    rcases a3.2.2.2 with q | ⟨k1, k2, k3, k4, k5, k6⟩
    · exact absurd q.1 k0
    · have hcs := h.2.2.2.2.2.2.2.2.1.2.1
      refine ⟨fun z => ?_, fun z => ⟨a3.2.1, ?_⟩⟩
      · rcases k1 with k1 | k1
        · have x := (k5 k1).2.1
          have x : mi.2.2.2.2.2.2.1 = fr.2.1 := x
          rw [x]
          exact a3.1.1
        · exact absurd (k6 k1).1 z
      · rcases k1 with k1 | k1
        · have x : mi.2.2.2.2.2.1 = 1 := (k5 k1).1
          rw [x] at z
          exact absurd z (by decide)
        · have x := (k6 k1).2
          have x3 : mi.2.2.2.2.1 = fr.2.2.1 := k3
          rw [x3, ← (hcs _ (kx_lt a3.1.2)).1, x]
          exact a3.1.1
  · generalize h3 : f_RD_stepDisk (mm.1, mm.2.1, mm.2.2.1, mm.2.2.2 + 1) (f_Dr_beWatched dk p) fr ca dv = S
    obtain ⟨mm3, dk3, fr3, dv3⟩ := S
    obtain ⟨b1, b2, b3, b4, b5, b6, b7⟩ := kr_B h hp hE1 hE2 h3.symm h4
    refine ⟨?_, fun s1 => ?_, fun mi4 e4 pw4 h6 => ?_⟩
    · rw [kr_put b6, ← h.1.2.2.1]
      exact h.1.2.2.2.1.1
    · have s2 : (f_Dr_beWatched co p).2.2.1 = 1 := b2.2.2.2.2.1.symm.trans s1
      exact (kr_hv h.2.1 h.2.2.2.1 b4 (b4.1 (by rw [s2]; decide)).1).1
    · generalize h5 : f_RD_stepConsole mm3 (f_Dr_beWatched co p) tr po = S
      obtain ⟨mm4, co4, tr4, po4⟩ := S
      obtain ⟨c1, c2, c3, c4, c5, c6, ⟨m1, m2, m3, m4, m5⟩, ⟨n1, n2, n3, n4⟩⟩ := kr_C h hp hE1 hE2 h3.symm h4 h5.symm h6
      refine ⟨c3.2.1, fun mi5 w5 e5 y5 h8 hz => ?_⟩
      generalize h7 : f_RD_serveFiles mm4 ops fl dk3 fr3 ca = S
      obtain ⟨r6, ops6, fl6, dk6, fr6, ca6⟩ := S
      obtain ⟨d1, d2, d3, d4, d5, d6, d7, d8, d9, d10⟩ := kr_D h c1 c3 m3 m2 n4 ht h7.symm h8
      rw [(d5 1 (by decide)).1] at hz
      rcases c4.2 with q | ⟨⟨k1, k2, k3⟩, -⟩
      · exact absurd q.2 hz
      · rcases kr_hl1 (mi := mi5) (kr_lt h.2.2.2.1 d10) with ⟨l0, -⟩ | ⟨l0, u, us, l1, hh⟩
        · exact absurd l0 k2
        · rw [hh]
          exact vp_in_nI us.1 (by decide)
