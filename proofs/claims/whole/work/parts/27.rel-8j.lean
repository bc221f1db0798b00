/-! tick: the file server goes on: sync, read, write -/
theorem kr_f0 {dk : kt_Dr} {fr : kt_Rq} {ca : kt_Ca} {mi : kt_I} {e : kt_E} (hst : dk.2.2.1 = -1) (hf0 : fr.1 = 0) (hkv : kv_fr fr) (hso : vp_in mi.2.2.2.2.1 3) (he0 : e.2.2.2.2.2.2.1 0 = 0) : kr_f fr dk ca mi e :=
  ⟨hkv, hso, fun q => absurd hst q, Or.inl ⟨hf0, he0⟩⟩
theorem kr_gos {t : Nat} {mm : kt_M} {dk dk' : kt_Dr} {fr fr' : kt_Rq} {ca ca' : kt_Ca} {o o' : kt_Op} {r : Int32} {mi mi' : kt_I} {w w' : kt_W} {e e' : kt_E} {y : kt_Ca} {u : Nat} (hd : kr_d dk e 0) (hst : dk.2.2.1 = -1) (hf0 : fr.1 = 0) (hkv : kv_fr fr) (hso : vp_in mi.2.2.2.2.1 3) (he0 : e.2.2.2.2.2.2.1 0 = 0) (hc : kr_cm t mm mi ca y) (ho : kr_o o w u) (hs : kr_s w false u) (hk : o.1 = 2)
    (h1 : (r, dk', fr', ca', o') = f_RD_goOnWith mm dk fr ca o) (h2 : (mi', w', e') = f_Md_flush mi w e y (nI u)) : kr_gr t mm mi w e u o r dk' fr' ca' o' mi' w' e' y := by
  have hu : u < 4 := hs.1
  have hcl : (nI u).toNatClampNeg = u := nI_clamp (by omega)
  obtain ⟨o1, o2, o3⟩ := ho
  have o4 : o.2.2.2.2.1 = 1 := o1.symm.trans hs.2.1
  obtain ⟨p1, p2, p3, p4, p5⟩ := o3 o4
  unfold f_RD_goOnWith at h1
  rw [if_pos hk] at h1
  unfold f_RD_goOnWithSync at h1
  rcases kr_fl mi w e (nI u) hc.1 with ⟨f1, f2⟩ | ⟨s, f1, f2, f3, f4, f5⟩
  · rw [f2, hcl, p5] at h2
    rw [f1] at h1
    dsimp only at h1
    rw [if_pos rfl] at h1
    simp only [Prod.mk.injEq] at h1 h2
    obtain ⟨rfl, rfl, rfl, rfl, rfl⟩ := h1
    obtain ⟨rfl, rfl, rfl⟩ := h2
    obtain ⟨z1, z2, z3, z4⟩ := kr_en (o := o) (mi := mi') (w := w) (v := o.2.2.2.1) hu
    exact ⟨hd, fun i _ => ⟨rfl, rfl, rfl, rfl, rfl, rfl⟩, fun i _ => ⟨rfl, rfl⟩, kr_f0 hst hf0 hkv hso he0, hc.c rfl, ⟨rfl, rfl, rfl, rfl, rfl⟩, z1, z2, z4, Or.inr ⟨rfl, z3⟩⟩
  · rw [f1] at h1
    dsimp only at h1
    rw [if_neg f2] at h1
    unfold f_RD_askToWriteOut f_Rq_open at h1
    dsimp only at h1
    rw [f5, hcl, p5] at h2
    have hblk : vp_in (ca.1 s.toNatClampNeg) 16 := by
      obtain ⟨c1, c2, -, c4, -, c6⟩ := hc.1.1 _ (kx_lt f3)
      rw [c1]
      rcases c2 with c2 | c2
      · exact absurd (c4.trans (c6 c2)) f4
      · exact c2
    generalize hG : f_Rq_giveTo (2, ca.1 s.toNatClampNeg, s, fr.2.2.2.1, 0, 0, fr.2.2.2.2.2.2) dk = G at h1
    generalize hD : f_Md_demand mi e s 0 0 = D at h2
    obtain ⟨g1, g2⟩ := G
    obtain ⟨d1, d2⟩ := D
    simp only [Prod.mk.injEq] at h1 h2
    obtain ⟨rfl, rfl, rfl, rfl, rfl⟩ := h1
    obtain ⟨rfl, rfl, rfl⟩ := h2
    obtain ⟨z1, z2, z3, z4, z5, z6⟩ := kr_dm (ca := ca') hd (Or.inr rfl) hblk f3 (fun q => absurd q (by decide)) (fun _ => ⟨rfl, rfl⟩) hG.symm hD.symm
    refine ⟨z1, z2, z3, z4, hc.c z6, z5, ⟨o1, o2, fun _ => ⟨p1, p2, p3, p4, pk_us⟩⟩, ⟨rfl, rfl, rfl, rfl, fun v hv => ⟨rfl, rfl, pk_un hv⟩⟩, rfl, Or.inl ⟨rfl, rfl⟩⟩
/-- the slot that holds a block -/
theorem kr_fd {mi : kt_I} {ca y : kt_Ca} {b : Int32} (h : kr_cs ca y) (hb : vp_in b 16) : f_Ca_find ca b = f_Md_slotWith mi y b ∧ ((f_Ca_find ca b = -1 ∧ ∀ i, i < 3 → ¬ ca.1 i = b) ∨ (¬ f_Ca_find ca b = -1 ∧ ¬ f_Ca_find ca b < 0 ∧ vp_in (f_Ca_find ca b) 3 ∧ ca.1 (f_Ca_find ca b).toNatClampNeg = b)) := by
  have hb1 : ¬ b = -1 := fun q => hb (Or.inl (by rw [q]; decide))
  refine ⟨kr_find (fun i hi => (h.1 i hi).1) h.2 hb1, ?_⟩
  unfold f_Ca_find
  by_cases a0 : ca.1 0 = b
  · rw [if_pos a0]
    exact Or.inr ⟨by decide, by decide, by unfold vp_in; decide, a0⟩
  · rw [if_neg a0]
    by_cases a1 : ca.1 1 = b
    · rw [if_pos a1]
      exact Or.inr ⟨by decide, by decide, by unfold vp_in; decide, a1⟩
    · rw [if_neg a1]
      by_cases a2 : ca.1 2 = b
      · rw [if_pos a2]
        exact Or.inr ⟨by decide, by decide, by unfold vp_in; decide, a2⟩
      · rw [if_neg a2]
        refine Or.inl ⟨rfl, fun i hi => ?_⟩
        rcases (show i = 0 ∨ i = 1 ∨ i = 2 by omega) with rfl | rfl | rfl
        · exact a0
        · exact a1
        · exact a2
theorem kr_sf {ca : kt_Ca} : vp_in (f_Ca_slotToFill ca) 3 := by
  have v0 : vp_in 0 3 := by unfold vp_in; decide
  have v1 : vp_in 1 3 := by unfold vp_in; decide
  have v2 : vp_in 2 3 := by unfold vp_in; decide
  unfold f_Ca_slotToFill f_Ca_find
  dsimp only
  repeat' split
  all_goals first | exact v0 | exact v1 | exact v2 | (exfalso; simp_all; done)
/-- an operation ends with the use of a slot -/
theorem kr_use {t : Nat} {mm : kt_M} {dk : kt_Dr} {fr : kt_Rq} {ca : kt_Ca} {o : kt_Op} {mi : kt_I} {w : kt_W} {e : kt_E} {y ca1 y1 : kt_Ca} {u : Nat} {s v : Int32} (ht : t < 512) (hd : kr_d dk e 0) (hst : dk.2.2.1 = -1) (hf0 : fr.1 = 0) (hkv : kv_fr fr) (hso : vp_in mi.2.2.2.2.1 3) (he0 : e.2.2.2.2.2.2.1 0 = 0) (hc : kr_cm t mm mi ca y) (hu : u < 4) (hcs : kr_cs (ca1.1, ca1.2.1, ca1.2.2.1, upd ca.2.2.2 s.toNatClampNeg mm.2.2.2) (y1.1, y1.2.1, y1.2.2.1, upd y.2.2.2 s.toNatClampNeg (mi.2.2.2.2.2.2.2.2 + 1))) (m5 : kt_I) :
    kr_gr t mm mi w e u o 1 dk fr (ca1.1, ca1.2.1, ca1.2.2.1, upd ca.2.2.2 s.toNatClampNeg mm.2.2.2) (f_Op_finish o v) (mi.1, mi.2.1, mi.2.2.1, mi.2.2.2.1, mi.2.2.2.2.1, mi.2.2.2.2.2.1, mi.2.2.2.2.2.2.1, mi.2.2.2.2.2.2.2.1, mi.2.2.2.2.2.2.2.2 + 1) (f_Md_end m5 w (nI u) 2 v) e (y1.1, y1.2.1, y1.2.2.1, upd y.2.2.2 s.toNatClampNeg (mi.2.2.2.2.2.2.2.2 + 1)) := by
  obtain ⟨z1, z2, z3, z4⟩ := kr_en (o := o) (mi := m5) (w := w) (v := v) hu
  obtain ⟨-, a, c, ha, hc', e1, e2, hp⟩ := hc
  refine ⟨hd, fun i _ => ⟨rfl, rfl, rfl, rfl, rfl, rfl⟩, fun i _ => ⟨rfl, rfl⟩, kr_f0 hst hf0 hkv hso he0, kr_cmk (a := a + 1) (c := c + 1) hcs (by omega) (by omega) e1 ?_ ?_, ⟨rfl, rfl, rfl, rfl, rfl⟩, z1, z2, z4, Or.inr ⟨rfl, z3⟩⟩
  · show mi.2.2.2.2.2.2.2.2 + 1 = _
    rw [e2, nI_1]
  · show kr_cp (a + 1) (c + 1) (upd ca.2.2.2 s.toNatClampNeg mm.2.2.2) (upd y.2.2.2 s.toNatClampNeg (mi.2.2.2.2.2.2.2.2 + 1))
    rw [e1, e2, nI_1]
    exact kr_cpu (by omega) (by omega) hp
