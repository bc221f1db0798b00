/-! tick: the disk moves a block -/
/-- what a file request that is open says of the slot -/
def kr_fk (fr : kt_Rq) (ca : kt_Ca) (mi : kt_I) : Prop :=
  (fr.1 = 1 ∨ fr.1 = 2) ∧ mi.2.2.2.2.1 = fr.2.2.1 ∧ (fr.1 = 1 → mi.2.2.2.2.2.1 = 1 ∧ mi.2.2.2.2.2.2.1 = fr.2.1 ∧ ca.1 fr.2.2.1.toNatClampNeg = -1 ∧ ∀ i, i < 3 → ¬ ca.1 i = fr.2.1) ∧ (fr.1 = 2 → mi.2.2.2.2.2.1 = 0 ∧ ca.1 fr.2.2.1.toNatClampNeg = fr.2.1)
/-- the file server's request in the middle of a tick: it may be answered -/
def kr_fm (fr : kt_Rq) (dk : kt_Dr) (ca : kt_Ca) (mi : kt_I) (e : kt_E) : Prop :=
  kv_fr fr ∧ vp_in mi.2.2.2.2.1 3 ∧ (¬ dk.2.2.1 = -1 → ¬ fr.1 = 0 ∧ fr.2.2.2.2.1 = 1 ∧ fr.2.2.2.2.2.2 = dk.1) ∧
  ((fr.1 = 0 ∧ e.2.2.2.2.2.2.1 0 = 0) ∨ (kr_fk fr ca mi ∧
    ((fr.2.2.2.2.2.1 = 0 ∧ ((fr.2.2.2.2.1 = 0 ∧ e.2.2.2.2.2.2.1 0 = 1) ∨ (fr.2.2.2.2.1 = 1 ∧ e.2.2.2.2.2.2.1 0 = 2 ∧ e.2.2.2.2.2.2.2 0 = fr.2.2.2.2.2.2))) ∨
     (fr.2.2.2.2.2.1 = 1 ∧ e.2.2.2.2.2.2.1 0 = 3 ∧ dk.2.2.1 = -1))))
theorem kr_f.m {fr : kt_Rq} {dk : kt_Dr} {ca : kt_Ca} {mi : kt_I} {e : kt_E} (h : kr_f fr dk ca mi e) : kr_fm fr dk ca mi e := by
  obtain ⟨h1, h2, h3, h4⟩ := h
  refine ⟨h1, h2, h3, h4.imp id (fun ⟨a, b, c, d, f, g⟩ => ⟨⟨a, c, f, g⟩, Or.inl ⟨b, d⟩⟩)⟩
/-- what a step of the disk leaves alone -/
def kr_k (mi mi' : kt_I) : Prop := mi'.1 = mi.1 ∧ mi'.2.1 = mi.2.1 ∧ mi'.2.2.1 = mi.2.2.1 ∧ mi'.2.2.2.1 = mi.2.2.2.1 ∧ mi'.2.2.2.2.1 = mi.2.2.2.2.1 ∧ mi'.2.2.2.2.2.1 = mi.2.2.2.2.2.1 ∧ mi'.2.2.2.2.2.2.1 = mi.2.2.2.2.2.2.1 ∧ mi'.2.2.2.2.2.2.2.2 = mi.2.2.2.2.2.2.2.2
theorem kr_mv {mm : kt_M} {fr : kt_Rq} {dk : kt_Dr} {ca y : kt_Ca} {dv : Nat → Int32} {mi : kt_I} {e : kt_E} (hq : kr_f fr dk ca mi e) (hs : ¬ dk.2.2.1 = -1) (hbf : mm.2.2.1 = mi.2.2.2.2.2.2.2.1) (hc : ∀ i, i < 3 → ca.1 i = y.1 i ∧ (¬ y.1 i = -1 → ca.2.1 i = y.2.1 i)) :
    (f_RD_moveBlock mm fr ca dv).2 = (f_Md_move mi y dv).2 ∧ kr_k mi (f_Md_move mi y dv).1 ∧ (f_RD_moveBlock mm fr ca dv).1.1 = mm.1 ∧ (f_RD_moveBlock mm fr ca dv).1.2.1 = mm.2.1 ∧ (f_RD_moveBlock mm fr ca dv).1.2.2.2 = mm.2.2.2 ∧ (f_RD_moveBlock mm fr ca dv).1.2.2.1 = (f_Md_move mi y dv).1.2.2.2.2.2.2.2.1 := by
  obtain ⟨h1, h2, h3, h4⟩ := hq
  have hk := (h3 hs).1
  rcases h4 with h4 | ⟨a, b, c, d, f, g⟩
  · exact absurd h4.1 hk
  · unfold f_RD_moveBlock f_Md_move
    rcases a with a | a
    · obtain ⟨f1, f2, -⟩ := f a
      rw [if_pos a, if_neg (show ¬ mi.2.2.2.2.2.1 = 0 by rw [f1]; decide), f2]
      exact ⟨rfl, ⟨rfl, rfl, rfl, rfl, rfl, rfl, f2.symm, rfl⟩, rfl, rfl, rfl, rfl⟩
    · obtain ⟨g1, g2⟩ := g a
      have hlt := kx_lt h1.2
      have hcc := hc _ hlt
      have hy : y.1 fr.2.2.1.toNatClampNeg = fr.2.1 := hcc.1.symm.trans g2
      have hn : ¬ y.1 fr.2.2.1.toNatClampNeg = -1 := fun q => h1.1 (Or.inl (by rw [← hy, q]; decide))
      rw [if_neg (show ¬ fr.1 = 1 by rw [a]; decide), if_pos g1, c, hy, hcc.2 hn]
      exact ⟨rfl, ⟨rfl, rfl, rfl, rfl, rfl, rfl, rfl, rfl⟩, rfl, rfl, rfl, hbf⟩
