/-! tick: a step of the console -/
theorem kr_hl0 {mi : kt_I} {n : kt_Ln} {w : kt_W} (h : kr_l n w false) : (n.2 = 0 ∧ f_Md_head mi w 0 = -1) ∨ (¬ n.2 = 0 ∧ ∃ u, kr_s w false u ∧ n.1 0 = nI u ∧ f_Md_head mi w 0 = nI u) := by
  have hl := h.ln
  obtain ⟨q, h1, h2, h3, h4⟩ := h
  have h5 := kr_len 4 q (kr_nd h4) (fun x hx => ((h3 x).mp hx).1)
  rcases kr_mh (mi := mi) (w := w) (s := 0) (q := q) ((kr_st0 rfl (by decide)).trans (not_congr (h3 0).symm)) ((kr_st0 rfl (by decide)).trans (not_congr (h3 1).symm)) ((kr_st0 rfl (by decide)).trans (not_congr (h3 2).symm)) ((kr_st0 rfl (by decide)).trans (not_congr (h3 3).symm)) (fun x hx => ((h3 x).mp hx).1) h4 with ⟨rfl, e⟩ | ⟨u, r, rfl, e⟩
  · exact Or.inl ⟨h1, e⟩
  · refine Or.inr ⟨?_, u, (h3 u).mp List.mem_cons_self, h2 0 (Nat.succ_pos _), e⟩
    rw [h1]
    exact nI_ne0 (Nat.succ_pos _) (by omega)
theorem kr_hl1 {mi : kt_I} {n : kt_Ln} {w : kt_W} (h : kr_l n w true) : (n.2 = 0 ∧ f_Md_head mi w 1 = -1) ∨ (¬ n.2 = 0 ∧ ∃ u, kr_s w true u ∧ n.1 0 = nI u ∧ f_Md_head mi w 1 = nI u) := by
  have hl := h.ln
  obtain ⟨q, h1, h2, h3, h4⟩ := h
  have h5 := kr_len 4 q (kr_nd h4) (fun x hx => ((h3 x).mp hx).1)
  rcases kr_mh (mi := mi) (w := w) (s := 1) (q := q) ((kr_st1 rfl (by decide)).trans (not_congr (h3 0).symm)) ((kr_st1 rfl (by decide)).trans (not_congr (h3 1).symm)) ((kr_st1 rfl (by decide)).trans (not_congr (h3 2).symm)) ((kr_st1 rfl (by decide)).trans (not_congr (h3 3).symm)) (fun x hx => ((h3 x).mp hx).1) h4 with ⟨rfl, e⟩ | ⟨u, r, rfl, e⟩
  · exact Or.inl ⟨h1, e⟩
  · refine Or.inr ⟨?_, u, (h3 u).mp List.mem_cons_self, h2 0 (Nat.succ_pos _), e⟩
    rw [h1]
    exact nI_ne0 (Nat.succ_pos _) (by omega)
/-- what a terminal request that is open says of the line -/
def kr_tk (tr : kt_Rq) (ops : Nat → kt_Op) (tl : kt_Ln) : Prop := tr.1 = 3 ∧ ¬ tl.2 = 0 ∧ tr.2.2.2.1 = (ops (tl.1 0).toNatClampNeg).2.2.1
/-- the terminal's request in the middle of a tick: it may be answered -/
def kr_tm (tr : kt_Rq) (co : kt_Dr) (ops : Nat → kt_Op) (tl : kt_Ln) (e : kt_E) : Prop :=
  (¬ co.2.2.1 = -1 → ¬ tr.1 = 0 ∧ tr.2.2.2.2.1 = 1 ∧ tr.2.2.2.2.2.2 = co.1) ∧
  ((tr.1 = 0 ∧ e.2.2.2.2.2.2.1 1 = 0) ∨ (kr_tk tr ops tl ∧
    ((tr.2.2.2.2.2.1 = 0 ∧ ((tr.2.2.2.2.1 = 0 ∧ e.2.2.2.2.2.2.1 1 = 1) ∨ (tr.2.2.2.2.1 = 1 ∧ e.2.2.2.2.2.2.1 1 = 2 ∧ e.2.2.2.2.2.2.2 1 = tr.2.2.2.2.2.2))) ∨
     (tr.2.2.2.2.2.1 = 1 ∧ e.2.2.2.2.2.2.1 1 = 3 ∧ co.2.2.1 = -1))))
theorem kr_t.m {tr : kt_Rq} {co : kt_Dr} {ops : Nat → kt_Op} {tl : kt_Ln} {e : kt_E} (h : kr_t tr co ops tl e) : kr_tm tr co ops tl e :=
  ⟨h.1, h.2.imp id (fun ⟨a, b, c, d, f⟩ => ⟨⟨a, c, d⟩, Or.inl ⟨b, f⟩⟩)⟩
/-- what a step of the console leaves alone -/
def kr_kc (mi mi' : kt_I) : Prop := mi'.1 = mi.1 ∧ mi'.2.1 = mi.2.1 ∧ mi'.2.2.1 = mi.2.2.1 ∧ mi'.2.2.2.2 = mi.2.2.2.2
theorem kr_po {mm : kt_M} (c : Int32) {mi : kt_I} {w : kt_W} {po : Nat → Int32} (hp : mm.2.1 = mi.2.2.2.1) (hol : kv_ol mm) (hh : w.2.2.1 (f_Md_head mi w 1).toNatClampNeg = c) : (f_RD_putOutCharacter mm po c).2 = (f_Md_show mi w po).2 ∧ kr_kc mi (f_Md_show mi w po).1 ∧ (f_RD_putOutCharacter mm po c).1.1 = mm.1 ∧ (f_RD_putOutCharacter mm po c).1.2.2 = mm.2.2 ∧ (f_RD_putOutCharacter mm po c).1.2.1 = (f_Md_show mi w po).1.2.2.2.1 ∧ kv_ol (f_RD_putOutCharacter mm po c).1 := by
  unfold f_RD_putOutCharacter f_Md_show
  rw [hp]
  by_cases a : 200 ≤ mi.2.2.2.1
  · rw [if_pos a, if_pos a]
    exact ⟨rfl, ⟨rfl, rfl, rfl, rfl⟩, rfl, rfl, hp, hol⟩
  · rw [if_neg a, if_neg a]
    dsimp only
    rw [hh]
    refine ⟨rfl, ⟨rfl, rfl, rfl, rfl⟩, rfl, rfl, rfl, ?_⟩
    have h0 : ¬ mi.2.2.2.1 < 0 := by
      rw [← hp]
      exact Int32.not_lt.mpr hol.1
    obtain ⟨j, hj, ej⟩ := vp_in_of (kx_i2 (N := 200) (n := 200) rfl h0 a) (by decide)
    unfold kv_ol
    dsimp only
    rw [ej, nI_1]
    exact ⟨nI_pos' (by omega), nI_nlt (a := 200) (b := j + 1) hj (by decide)⟩
set_option maxHeartbeats 2000000 in
theorem kr_sc {mm mm' : kt_M} {co co' : kt_Dr} {tr tr' : kt_Rq} {ops : Nat → kt_Op} {tl : kt_Ln} {po po' pw' : Nat → Int32} {mi mi' : kt_I} {w : kt_W} {e e' : kt_E} (hd : kr_d co e 1) (hq : kr_t tr co ops tl e) (hp : mm.2.1 = mi.2.2.2.1) (hol : kv_ol mm) (hh : ¬ tr.1 = 0 → w.2.2.1 (f_Md_head mi w 1).toNatClampNeg = tr.2.2.2.1) (h1 : (mm', co', tr', po') = f_RD_stepConsole mm co tr po) (h2 : (mi', e', pw') = f_Md_step_1 mi w e po) :
    kr_d co' e' 1 ∧ kr_x e e' 1 ∧ kr_tm tr' co' ops tl e' ∧ po' = pw' ∧ kr_kc mi mi' ∧ (mm'.1 = mm.1 ∧ mm'.2.2 = mm.2.2 ∧ mm'.2.1 = mi'.2.2.2.1 ∧ kv_ol mm') ∧ e'.2.2.2.2.2.2.1 0 = e.2.2.2.2.2.2.1 0 ∧ e'.2.2.2.2.2.2.2 = e.2.2.2.2.2.2.2 := by
  have hq0 := hq
  have hkk : kr_kc mi mi := ⟨rfl, rfl, rfl, rfl⟩
  have hm := hq0.m
  obtain ⟨g1, g2, g3, g4, g5, g6, g7, g8, g9⟩ := hd
  unfold f_RD_stepConsole f_Dr_takeStep f_Dr_beRefused f_Dr_die at h1
  unfold f_Md_step_1 at h2
  rw [g2] at h2
  by_cases c0 : co.2.1 = 0
  · have hb : e.2.2.1 1 = co.2.2.2.2.1 := g4.resolve_left (by rw [c0]; decide)
    rw [hb, g5] at h2
    simp only [if_pos c0] at h1 h2
    by_cases cb : co.2.2.2.2.1 = 0
    · simp only [if_pos cb] at h1 h2
      rcases g6 with s | s | s | s
      · simp only [s, if_neg (show ¬ (-1 : Int32) = 2 by decide), if_neg (show ¬ (-1 : Int32) = 1 by decide), if_neg (show ¬ (-1 : Int32) = 0 by decide), if_true] at h1 h2
        simp only [Prod.mk.injEq] at h1 h2
        obtain ⟨rfl, rfl, rfl, rfl⟩ := h1
        obtain ⟨rfl, rfl, rfl⟩ := h2
        exact ⟨⟨g1, g2, g3, g4, g5.trans s, Or.inl rfl, fun _ => rfl, g8, Or.inr ⟨rfl, show upd e.2.2.2.2.2.1 1 0 1 = 0 from pk_us⟩⟩, fun i hi => ⟨rfl, rfl, rfl, rfl, rfl, pk_un hi⟩, ⟨fun z => absurd rfl z, hm.2.imp id (fun ⟨a, b⟩ => ⟨a, b.imp id (fun ⟨x, y, _⟩ => ⟨x, y, rfl⟩)⟩)⟩, rfl, hkk, ⟨rfl, rfl, hp, hol⟩, rfl, rfl⟩
      · simp only [s, if_neg (show ¬ (0 : Int32) = 2 by decide), if_neg (show ¬ (0 : Int32) = 1 by decide), if_neg (show ¬ (0 : Int32) = -1 by decide), if_true] at h1 h2
        simp only [Prod.mk.injEq] at h1 h2
        obtain ⟨rfl, rfl, rfl, rfl⟩ := h1
        obtain ⟨rfl, rfl, rfl⟩ := h2
        have hn := hq0.1 (by rw [s]; decide)
        exact ⟨⟨g1, g2, g3, g4, (show upd e.2.2.2.1 1 1 1 = 0 + 1 from pk_us.trans (by decide)), Or.inr (Or.inr (Or.inl (show (0 : Int32) + 1 = 1 by decide))), fun z => absurd (c0.symm.trans z) (by decide), g8, Or.inr ⟨rfl, show upd e.2.2.2.2.2.1 1 0 1 = 0 from pk_us⟩⟩, fun i hi => ⟨rfl, rfl, rfl, pk_un hi, rfl, pk_un hi⟩, ⟨fun _ => hn, hq0.2.imp id (fun ⟨a, b, c, d, f⟩ => ⟨⟨a, c, d⟩, Or.inl ⟨b, f⟩⟩)⟩, rfl, hkk, ⟨rfl, rfl, hp, hol⟩, rfl, rfl⟩
      · have hn := hq0.1 (by rw [s]; decide)
        have hmv := kr_po (po := po) tr.2.2.2.1 hp hol (hh hn.1)
        simp only [s, if_neg (show ¬ (1 : Int32) = 2 by decide), if_neg (show ¬ (1 : Int32) = 0 by decide), if_neg (show ¬ (1 : Int32) = -1 by decide), if_true] at h1 h2
        generalize f_RD_putOutCharacter mm po tr.2.2.2.1 = M at h1 hmv
        generalize f_Md_show mi w po = N at h2 hmv
        obtain ⟨m4, d4⟩ := M
        obtain ⟨n4, w4⟩ := N
        obtain ⟨x1, x2, x3, x4, x5, x6⟩ := hmv
        simp only [Prod.mk.injEq] at h1 h2
        obtain ⟨rfl, rfl, rfl, rfl⟩ := h1
        obtain ⟨rfl, rfl, rfl⟩ := h2
        exact ⟨⟨g1, g2, g3, g4, (show upd e.2.2.2.1 1 2 1 = 1 + 1 from pk_us.trans (by decide)), Or.inr (Or.inr (Or.inr (show (1 : Int32) + 1 = 2 by decide))), fun z => absurd (c0.symm.trans z) (by decide), g8, Or.inr ⟨rfl, show upd e.2.2.2.2.2.1 1 0 1 = 0 from pk_us⟩⟩, fun i hi => ⟨rfl, rfl, rfl, pk_un hi, rfl, pk_un hi⟩, ⟨fun _ => hn, hq0.2.imp id (fun ⟨a, b, c, d, f⟩ => ⟨⟨a, c, d⟩, Or.inl ⟨b, f⟩⟩)⟩, x1, x2, ⟨x3, x4, x5, x6⟩, rfl, rfl⟩
      · simp only [s, if_neg (show ¬ (2 : Int32) = 0 by decide), if_neg (show ¬ (2 : Int32) = 1 by decide), if_true] at h1 h2
        simp only [Prod.mk.injEq] at h1 h2
        obtain ⟨rfl, rfl, rfl, rfl⟩ := h1
        obtain ⟨rfl, rfl, rfl⟩ := h2
        have hn := hq0.1 (by rw [s]; decide)
        refine ⟨⟨g1, g2, g3, g4, (show upd e.2.2.2.1 1 (-1) 1 = -1 from pk_us), Or.inl rfl, fun _ => rfl, g8, Or.inr ⟨rfl, show upd e.2.2.2.2.2.1 1 0 1 = 0 from pk_us⟩⟩, fun i hi => ⟨rfl, rfl, rfl, pk_un hi, rfl, pk_un hi⟩, ⟨fun z => absurd rfl z, ?_⟩, rfl, hkk, ⟨rfl, rfl, hp, hol⟩, (show upd e.2.2.2.2.2.2.1 1 3 0 = _ from pk_un (by decide)), rfl⟩
        rcases hq0.2 with x | ⟨a, b, c, d, f⟩
        · exact absurd x.1 hn.1
        · exact Or.inr ⟨⟨a, c, d⟩, Or.inr ⟨rfl, (show upd e.2.2.2.2.2.2.1 1 3 1 = 3 from pk_us), rfl⟩⟩
    · simp only [if_neg cb] at h1 h2
      by_cases c3 : co.2.2.2.2.1 = 3
      · simp only [if_pos c3, if_neg (show ¬ (-1 : Int32) = 1 by decide), if_neg (show ¬ (-1 : Int32) = 2 by decide), Prod.mk.injEq] at h1 h2
        obtain ⟨rfl, rfl, rfl, rfl⟩ := h1
        obtain ⟨rfl, rfl, rfl⟩ := h2
        refine ⟨⟨g1, (show upd e.2.1 1 2 1 = 2 from pk_us), Or.inr (Or.inr rfl), Or.inl rfl, (show upd e.2.2.2.1 1 (-1) 1 = -1 from pk_us), Or.inl rfl, fun _ => rfl, ?_, Or.inr ⟨rfl, show upd e.2.2.2.2.2.1 1 0 1 = 0 from pk_us⟩⟩, fun i hi => ⟨rfl, pk_un hi, pk_un hi, pk_un hi, pk_un hi, pk_un hi⟩, ⟨fun z => absurd rfl z, hm.2.imp id (fun ⟨a, b⟩ => ⟨a, b.imp id (fun ⟨x, y, _⟩ => ⟨x, y, rfl⟩)⟩)⟩, rfl, hkk, ⟨rfl, rfl, hp, hol⟩, rfl, rfl⟩
        show upd e.2.2.2.2.1 1 ((e.2.2.2.2.1 1) + 1) 1 = _
        rw [pk_us, g8]
      · simp only [if_neg c3, if_neg (show ¬ (-1 : Int32) = 1 by decide), if_neg (show ¬ (-1 : Int32) = 2 by decide), Prod.mk.injEq] at h1 h2
        obtain ⟨rfl, rfl, rfl, rfl⟩ := h1
        obtain ⟨rfl, rfl, rfl⟩ := h2
        refine ⟨⟨g1, g2, g3, Or.inr (show upd e.2.2.1 1 0 1 = 0 from pk_us), g5, g6, g7, ?_, Or.inr ⟨rfl, show upd e.2.2.2.2.2.1 1 0 1 = 0 from pk_us⟩⟩, fun i hi => ⟨rfl, rfl, pk_un hi, rfl, pk_un hi, pk_un hi⟩, hm, rfl, hkk, ⟨rfl, rfl, hp, hol⟩, rfl, rfl⟩
        show upd e.2.2.2.2.1 1 ((e.2.2.2.2.1 1) + 1) 1 = _
        rw [pk_us, g8]
  · simp only [if_neg c0] at h1 h2
    simp only [if_neg (show ¬ (-1 : Int32) = 1 by decide), if_neg (show ¬ (-1 : Int32) = 2 by decide), Prod.mk.injEq] at h1 h2
    obtain ⟨rfl, rfl, rfl, rfl⟩ := h1
    obtain ⟨rfl, rfl, rfl⟩ := h2
    exact ⟨⟨g1, g2, g3, g4, g5, g6, g7, g8, g9⟩, fun i _ => ⟨rfl, rfl, rfl, rfl, rfl, rfl⟩, hm, rfl, hkk, ⟨rfl, rfl, hp, hol⟩, rfl, rfl⟩
