/-! tick: a step of the disk -/
set_option maxHeartbeats 2000000 in
theorem kr_sd {mm mm' : kt_M} {dk dk' : kt_Dr} {fr fr' : kt_Rq} {ca y : kt_Ca} {dv dv' dw' : Nat → Int32} {mi mi' : kt_I} {e e' : kt_E} (hd : kr_d dk e 0) (hq : kr_f fr dk ca mi e) (hbf : mm.2.2.1 = mi.2.2.2.2.2.2.2.1) (hc : ∀ i, i < 3 → ca.1 i = y.1 i ∧ (¬ y.1 i = -1 → ca.2.1 i = y.2.1 i)) (h1 : (mm', dk', fr', dv') = f_RD_stepDisk mm dk fr ca dv) (h2 : (mi', e', dw') = f_Md_step_0 mi e y dv) :
    kr_d dk' e' 0 ∧ kr_x e e' 0 ∧ kr_fm fr' dk' ca mi' e' ∧ dv' = dw' ∧ kr_k mi mi' ∧ (mm'.1 = mm.1 ∧ mm'.2.1 = mm.2.1 ∧ mm'.2.2.2 = mm.2.2.2 ∧ mm'.2.2.1 = mi'.2.2.2.2.2.2.2.1) ∧ e'.2.2.2.2.2.2.1 1 = e.2.2.2.2.2.2.1 1 ∧ e'.2.2.2.2.2.2.2 = e.2.2.2.2.2.2.2 := by
  have hq0 := hq
  have hkk : kr_k mi mi := ⟨rfl, rfl, rfl, rfl, rfl, rfl, rfl, rfl⟩
  obtain ⟨g1, g2, g3, g4, g5, g6, g7, g8, g9⟩ := hd
  unfold f_RD_stepDisk f_Dr_takeStep f_Dr_beRefused f_Dr_die at h1
  unfold f_Md_step_0 at h2
  rw [g2] at h2
  by_cases c0 : dk.2.1 = 0
  · have hb : e.2.2.1 0 = dk.2.2.2.2.1 := g4.resolve_left (by rw [c0]; decide)
    rw [hb, g5] at h2
    simp only [if_pos c0] at h1 h2
    by_cases cb : dk.2.2.2.2.1 = 0
    · simp only [if_pos cb] at h1 h2
      rcases g6 with s | s | s | s
      · simp only [s, if_neg (show ¬ (-1 : Int32) = 2 by decide), if_neg (show ¬ (-1 : Int32) = 1 by decide), if_neg (show ¬ (-1 : Int32) = 0 by decide), if_true] at h1 h2
        simp only [Prod.mk.injEq] at h1 h2
        obtain ⟨rfl, rfl, rfl, rfl⟩ := h1
        obtain ⟨rfl, rfl, rfl⟩ := h2
        have hm := hq0.m
        exact ⟨⟨g1, g2, g3, g4, g5.trans s, Or.inl rfl, fun _ => rfl, g8, Or.inr ⟨rfl, show upd e.2.2.2.2.2.1 0 0 0 = 0 from pk_us⟩⟩, fun i hi => ⟨rfl, rfl, rfl, rfl, rfl, pk_un hi⟩, ⟨hm.1, hm.2.1, fun z => absurd rfl z, hm.2.2.2.imp id (fun ⟨a, b⟩ => ⟨a, b.imp id (fun ⟨x, y, _⟩ => ⟨x, y, rfl⟩)⟩)⟩, rfl, hkk, ⟨rfl, rfl, rfl, hbf⟩, rfl, rfl⟩
      · simp only [s, if_neg (show ¬ (0 : Int32) = 2 by decide), if_neg (show ¬ (0 : Int32) = 1 by decide), if_neg (show ¬ (0 : Int32) = -1 by decide), if_true] at h1 h2
        simp only [Prod.mk.injEq] at h1 h2
        obtain ⟨rfl, rfl, rfl, rfl⟩ := h1
        obtain ⟨rfl, rfl, rfl⟩ := h2
        have hn := hq0.2.2.1 (by rw [s]; decide)
        exact ⟨⟨g1, g2, g3, g4, (show upd e.2.2.2.1 0 1 0 = 0 + 1 from pk_us.trans (by decide)), Or.inr (Or.inr (Or.inl (show (0 : Int32) + 1 = 1 by decide))), fun z => absurd (c0.symm.trans z) (by decide), g8, Or.inr ⟨rfl, show upd e.2.2.2.2.2.1 0 0 0 = 0 from pk_us⟩⟩, fun i hi => ⟨rfl, rfl, rfl, pk_un hi, rfl, pk_un hi⟩, ⟨hq0.1, hq0.2.1, fun _ => hn, hq0.2.2.2.imp id (fun ⟨a, b, c, d, f, g⟩ => ⟨⟨a, c, f, g⟩, Or.inl ⟨b, d⟩⟩)⟩, rfl, hkk, ⟨rfl, rfl, rfl, hbf⟩, rfl, rfl⟩
      · have hmv := kr_mv (dv := dv) hq0 (by rw [s]; decide) hbf hc
        simp only [s, if_neg (show ¬ (1 : Int32) = 2 by decide), if_neg (show ¬ (1 : Int32) = 0 by decide), if_neg (show ¬ (1 : Int32) = -1 by decide), if_true] at h1 h2
        generalize f_RD_moveBlock mm fr ca dv = M at h1 hmv
        generalize f_Md_move mi y dv = N at h2 hmv
        obtain ⟨m4, d4⟩ := M
        obtain ⟨n4, w4⟩ := N
        obtain ⟨x1, x2, x3, x4, x5, x6⟩ := hmv
        simp only [Prod.mk.injEq] at h1 h2
        obtain ⟨rfl, rfl, rfl, rfl⟩ := h1
        obtain ⟨rfl, rfl, rfl⟩ := h2
        have hn := hq0.2.2.1 (by rw [s]; decide)
        refine ⟨⟨g1, g2, g3, g4, (show upd e.2.2.2.1 0 2 0 = 1 + 1 from pk_us.trans (by decide)), Or.inr (Or.inr (Or.inr (show (1 : Int32) + 1 = 2 by decide))), fun z => absurd (c0.symm.trans z) (by decide), g8, Or.inr ⟨rfl, show upd e.2.2.2.2.2.1 0 0 0 = 0 from pk_us⟩⟩, fun i hi => ⟨rfl, rfl, rfl, pk_un hi, rfl, pk_un hi⟩, ?_, x1, x2, ⟨x3, x4, x5, x6⟩, rfl, rfl⟩
        obtain ⟨k1, k2, k3, k4, k5, k6, k7, k8⟩ := x2
        unfold kr_fm kr_fk
        rw [k5, k6, k7]
        exact ⟨hq0.1, hq0.2.1, fun _ => hn, hq0.2.2.2.imp id (fun ⟨a, b, c, d, f, g⟩ => ⟨⟨a, c, f, g⟩, Or.inl ⟨b, d⟩⟩)⟩
      · simp only [s, if_neg (show ¬ (2 : Int32) = 0 by decide), if_neg (show ¬ (2 : Int32) = 1 by decide), if_true] at h1 h2
        simp only [Prod.mk.injEq] at h1 h2
        obtain ⟨rfl, rfl, rfl, rfl⟩ := h1
        obtain ⟨rfl, rfl, rfl⟩ := h2
        have hn := hq0.2.2.1 (by rw [s]; decide)
        refine ⟨⟨g1, g2, g3, g4, (show upd e.2.2.2.1 0 (-1) 0 = -1 from pk_us), Or.inl rfl, fun _ => rfl, g8, Or.inr ⟨rfl, show upd e.2.2.2.2.2.1 0 0 0 = 0 from pk_us⟩⟩, fun i hi => ⟨rfl, rfl, rfl, pk_un hi, rfl, pk_un hi⟩, ⟨hq0.1, hq0.2.1, fun z => absurd rfl z, ?_⟩, rfl, hkk, ⟨rfl, rfl, rfl, hbf⟩, (show upd e.2.2.2.2.2.2.1 0 3 1 = _ from pk_un (by decide)), rfl⟩
        rcases hq0.2.2.2 with x | ⟨a, b, c, d, f, g⟩
        · exact absurd x.1 hn.1
        · exact Or.inr ⟨⟨a, c, f, g⟩, Or.inr ⟨rfl, (show upd e.2.2.2.2.2.2.1 0 3 0 = 3 from pk_us), rfl⟩⟩
    · simp only [if_neg cb] at h1 h2
      by_cases c3 : dk.2.2.2.2.1 = 3
      · simp only [if_pos c3, if_neg (show ¬ (-1 : Int32) = 1 by decide), if_neg (show ¬ (-1 : Int32) = 2 by decide), Prod.mk.injEq] at h1 h2
        obtain ⟨rfl, rfl, rfl, rfl⟩ := h1
        obtain ⟨rfl, rfl, rfl⟩ := h2
        have hm := hq0.m
        refine ⟨⟨g1, (show upd e.2.1 0 2 0 = 2 from pk_us), Or.inr (Or.inr rfl), Or.inl rfl, (show upd e.2.2.2.1 0 (-1) 0 = -1 from pk_us), Or.inl rfl, fun _ => rfl, ?_, Or.inr ⟨rfl, show upd e.2.2.2.2.2.1 0 0 0 = 0 from pk_us⟩⟩, fun i hi => ⟨rfl, pk_un hi, pk_un hi, pk_un hi, pk_un hi, pk_un hi⟩, ⟨hm.1, hm.2.1, fun z => absurd rfl z, hm.2.2.2.imp id (fun ⟨a, b⟩ => ⟨a, b.imp id (fun ⟨x, y, _⟩ => ⟨x, y, rfl⟩)⟩)⟩, rfl, hkk, ⟨rfl, rfl, rfl, hbf⟩, rfl, rfl⟩
        show upd e.2.2.2.2.1 0 ((e.2.2.2.2.1 0) + 1) 0 = _
        rw [pk_us, g8]
      · simp only [if_neg c3, if_neg (show ¬ (-1 : Int32) = 1 by decide), if_neg (show ¬ (-1 : Int32) = 2 by decide), Prod.mk.injEq] at h1 h2
        obtain ⟨rfl, rfl, rfl, rfl⟩ := h1
        obtain ⟨rfl, rfl, rfl⟩ := h2
        have hm := hq0.m
        refine ⟨⟨g1, g2, g3, Or.inr (show upd e.2.2.1 0 0 0 = 0 from pk_us), g5, g6, g7, ?_, Or.inr ⟨rfl, show upd e.2.2.2.2.2.1 0 0 0 = 0 from pk_us⟩⟩, fun i hi => ⟨rfl, rfl, pk_un hi, rfl, pk_un hi, pk_un hi⟩, hm, rfl, hkk, ⟨rfl, rfl, rfl, hbf⟩, rfl, rfl⟩
        show upd e.2.2.2.2.1 0 ((e.2.2.2.2.1 0) + 1) 0 = _
        rw [pk_us, g8]
  · simp only [if_neg c0] at h1 h2
    simp only [if_neg (show ¬ (-1 : Int32) = 1 by decide), if_neg (show ¬ (-1 : Int32) = 2 by decide), Prod.mk.injEq] at h1 h2
    obtain ⟨rfl, rfl, rfl, rfl⟩ := h1
    obtain ⟨rfl, rfl, rfl⟩ := h2
    exact ⟨⟨g1, g2, g3, g4, g5, g6, g7, g8, g9⟩, fun i _ => ⟨rfl, rfl, rfl, rfl, rfl, rfl⟩, hq0.m, rfl, hkk, ⟨rfl, rfl, rfl, hbf⟩, rfl, rfl⟩
