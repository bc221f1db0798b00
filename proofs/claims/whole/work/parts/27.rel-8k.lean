set_option maxHeartbeats 2000000 in
theorem kr_goa {t : Nat} {mm : kt_M} {dk dk' : kt_Dr} {fr fr' : kt_Rq} {ca ca' : kt_Ca} {o o' : kt_Op} {r : Int32} {mi mi' : kt_I} {w w' : kt_W} {e e' : kt_E} {y y' : kt_Ca} {u : Nat} (ht : t < 512) (hd : kr_d dk e 0) (hst : dk.2.2.1 = -1) (hf0 : fr.1 = 0) (hkv : kv_fr fr) (hso : vp_in mi.2.2.2.2.1 3) (he0 : e.2.2.2.2.2.2.1 0 = 0) (hc : kr_cm t mm mi ca y) (ho : kr_o o w u) (hs : kr_s w false u) (hk : o.1 = 0 ∨ o.1 = 1)
    (h1 : (r, dk', fr', ca', o') = f_RD_goOnWith mm dk fr ca o) (h2 : (mi', w', e', y') = f_Md_access mi w e y (nI u)) : kr_gr t mm mi w e u o r dk' fr' ca' o' mi' w' e' y' := by
  have hu : u < 4 := hs.1
  have hcl : (nI u).toNatClampNeg = u := nI_clamp (by omega)
  have ho0 := ho
  obtain ⟨o1, o2, o3⟩ := ho
  have o4 : o.2.2.2.2.1 = 1 := o1.symm.trans hs.2.1
  obtain ⟨p1, p2, p3, p4, p5⟩ := o3 o4
  obtain ⟨p6, hb⟩ := p3 hk
  have hb1 : ¬ o.2.1 = -1 := fun q => hb (Or.inl (by rw [q]; decide))
  unfold f_RD_goOnWith at h1
  rw [if_neg (show ¬ o.1 = 2 by rcases hk with q | q <;> (rw [q]; decide))] at h1
  obtain ⟨fd1, fd2⟩ := kr_fd (mi := mi) hc.1 hb
  unfold f_Md_access at h2
  rw [hcl, p6, ← fd1] at h2
  dsimp only at h1 h2
  generalize f_Ca_find ca o.2.1 = s at *
  rcases fd2 with ⟨rfl, hno⟩ | ⟨n1, n2, n3, n4⟩
  · rw [if_pos rfl] at h1
    rw [if_pos (show (-1 : Int32) < 0 by decide)] at h2
    unfold f_RD_makeRoomFor at h1
    have v := kr_sf (ca := ca)
    have hc0 := hc
    obtain ⟨hcs, a, c, ha, hc', ea, ec, hp⟩ := hc
    rw [← kr_stf (mi := mi) (fun i hi => (hcs.1 i hi).1) (fun i hi => (hcs.1 i hi).2.1) hp.2] at h2
    generalize f_Ca_slotToFill ca = s at *
    dsimp only at h1 h2
    obtain ⟨c1, c2, c3, c4, c5, c6⟩ := hcs.1 _ (kx_lt v)
    by_cases dz : ca.2.2.1 s.toNatClampNeg = 0
    · rw [if_pos dz] at h1
      rw [if_pos (c4.symm.trans dz)] at h2
      replace h2 : (mi', w', e', y') = if w.1 u = 1 then (match f_Md_demand mi e s 1 o.2.1 with | (a, b) => (a, w, b, (upd y.1 s.toNatClampNeg (-1), y.2.1, upd y.2.2.1 s.toNatClampNeg 0, y.2.2.2))) else (match f_Md_fill mi w y s (nI u) with | (a, b, c) => (a, b, e, c)) := by
        by_cases q : y.1 s.toNatClampNeg < 0
        · rw [if_pos q] at h2
          exact h2
        · rw [if_neg q] at h2
          exact h2
      rcases hk with k | k
      · rw [if_pos k] at h1
        rw [if_pos (show w.1 u = 1 by rw [p1, k]; decide)] at h2
        unfold f_Ca_empty f_Ca_hold f_RD_askToReadIn f_Rq_open at h1
        dsimp only at h1
        generalize hG : f_Rq_giveTo (1, o.2.1, s, fr.2.2.2.1, 0, 0, fr.2.2.2.2.2.2) dk = G at h1
        generalize hD : f_Md_demand mi e s 1 o.2.1 = D at h2
        obtain ⟨g1, g2⟩ := G
        obtain ⟨d1, d2⟩ := D
        simp only [Prod.mk.injEq] at h1 h2
        obtain ⟨rfl, rfl, rfl, rfl, rfl⟩ := h1
        obtain ⟨rfl, rfl, rfl, rfl⟩ := h2
        obtain ⟨z1, z2, z3, z4, z5, z6⟩ := kr_dm (ca := (upd ca.1 s.toNatClampNeg (-1), upd ca.2.1 s.toNatClampNeg 0, upd ca.2.2.1 s.toNatClampNeg 0, ca.2.2.2)) hd (Or.inl rfl) hb v (fun _ => ⟨rfl, rfl, pk_us, fun i hi => by
          by_cases q : i = s.toNatClampNeg
          · rw [q]
            show ¬ upd ca.1 s.toNatClampNeg (-1) s.toNatClampNeg = _
            rw [pk_us]
            exact fun q => hb1 q.symm
          · show ¬ upd ca.1 s.toNatClampNeg (-1) i = _
            rw [pk_un q]
            exact hno i hi⟩) (fun q => absurd q (by decide)) hG.symm hD.symm
        have hcm : kr_cm t mm mi (upd ca.1 s.toNatClampNeg (-1), upd ca.2.1 s.toNatClampNeg 0, upd ca.2.2.1 s.toNatClampNeg 0, ca.2.2.2) (upd y.1 s.toNatClampNeg (-1), y.2.1, upd y.2.2.1 s.toNatClampNeg 0, y.2.2.2) := ⟨kr_ch hcs (Or.inl rfl) (fun q => absurd rfl q) (Or.inl rfl) (fun _ => rfl) (fun i hi => pk_un hi) (fun i hi => rfl) (fun q => absurd rfl q), a, c, ha, hc', ea, ec, hp⟩
        exact ⟨z1, z2, z3, z4, hcm.c z6, z5, ho0, ⟨rfl, rfl, rfl, rfl, fun v hv => ⟨rfl, rfl, rfl⟩⟩, rfl, Or.inl ⟨rfl, rfl⟩⟩
      · rw [if_neg (show ¬ o.1 = 0 by rw [k]; decide)] at h1
        rw [if_neg (show ¬ w.1 u = 1 by rw [p1, k]; decide)] at h2
        unfold f_Ca_hold at h1
        unfold f_Md_fill f_Md_use at h2
        dsimp only at h1 h2
        rw [hcl, p6, p4] at h2
        simp only [Prod.mk.injEq] at h1 h2
        obtain ⟨rfl, rfl, rfl, rfl, rfl⟩ := h1
        obtain ⟨rfl, rfl, rfl, rfl⟩ := h2
        exact kr_use (ca1 := (upd ca.1 s.toNatClampNeg o.2.1, upd ca.2.1 s.toNatClampNeg o.2.2.1, upd ca.2.2.1 s.toNatClampNeg 1, ca.2.2.2)) (y1 := (upd y.1 s.toNatClampNeg o.2.1, upd y.2.1 s.toNatClampNeg o.2.2.1, upd y.2.2.1 s.toNatClampNeg 1, y.2.2.2)) ht hd hst hf0 hkv hso he0 hc0 hu (kr_ch hcs (Or.inr hb) (fun _ i hi _ => by rw [← (hcs.1 i hi).1]; exact hno i hi) (Or.inr rfl) (fun q => absurd q hb1) (fun i hi => pk_un hi) (fun i hi => pk_un hi) (fun _ => pk_us.trans pk_us.symm)) _
    · have dy : ¬ y.2.2.1 s.toNatClampNeg = 0 := fun q => dz (c4.trans q)
      have hy : vp_in (y.1 s.toNatClampNeg) 16 := c2.resolve_left (fun q => dy (c6 q))
      rw [if_neg dz] at h1
      rw [if_neg (fun q => hy (Or.inl q)), if_neg dy] at h2
      unfold f_RD_askToWriteOut f_Rq_open at h1
      dsimp only at h1
      generalize hG : f_Rq_giveTo (2, ca.1 s.toNatClampNeg, s, fr.2.2.2.1, 0, 0, fr.2.2.2.2.2.2) dk = G at h1
      generalize hD : f_Md_demand mi e s 0 0 = D at h2
      obtain ⟨g1, g2⟩ := G
      obtain ⟨d1, d2⟩ := D
      simp only [Prod.mk.injEq] at h1 h2
      obtain ⟨rfl, rfl, rfl, rfl, rfl⟩ := h1
      obtain ⟨rfl, rfl, rfl, rfl⟩ := h2
      obtain ⟨z1, z2, z3, z4, z5, z6⟩ := kr_dm (ca := ca') hd (Or.inr rfl) (by rw [c1]; exact hy) v (fun q => absurd q (by decide)) (fun _ => ⟨rfl, rfl⟩) hG.symm hD.symm
      exact ⟨z1, z2, z3, z4, hc0.c z6, z5, ho0, ⟨rfl, rfl, rfl, rfl, fun v hv => ⟨rfl, rfl, rfl⟩⟩, rfl, Or.inl ⟨rfl, rfl⟩⟩
  · rw [if_neg n1] at h1
    rw [if_neg n2] at h2
    obtain ⟨c1, c2, c3, c4, c5, c6⟩ := hc.1.1 _ (kx_lt n3)
    have hys : y.1 s.toNatClampNeg = o.2.1 := c1.symm.trans n4
    rcases hk with k | k
    · rw [if_pos k] at h1
      rw [if_pos (show w.1 u = 1 by rw [p1, k]; decide)] at h2
      unfold f_Md_use at h2
      dsimp only at h1 h2
      rw [← c3 (by rw [hys]; exact hb1)] at h2
      simp only [Prod.mk.injEq] at h1 h2
      obtain ⟨rfl, rfl, rfl, rfl, rfl⟩ := h1
      obtain ⟨rfl, rfl, rfl, rfl⟩ := h2
      exact kr_use (ca1 := ca) (y1 := y) ht hd hst hf0 hkv hso he0 hc hu hc.1 _
    · rw [if_neg (show ¬ o.1 = 0 by rw [k]; decide)] at h1
      rw [if_neg (show ¬ w.1 u = 1 by rw [p1, k]; decide)] at h2
      unfold f_Ca_hold at h1
      unfold f_Md_fill f_Md_use at h2
      dsimp only at h1 h2
      rw [hcl, p6, p4] at h2
      simp only [Prod.mk.injEq] at h1 h2
      obtain ⟨rfl, rfl, rfl, rfl, rfl⟩ := h1
      obtain ⟨rfl, rfl, rfl, rfl⟩ := h2
      exact kr_use (ca1 := (upd ca.1 s.toNatClampNeg o.2.1, upd ca.2.1 s.toNatClampNeg o.2.2.1, upd ca.2.2.1 s.toNatClampNeg 1, ca.2.2.2)) (y1 := (upd y.1 s.toNatClampNeg o.2.1, upd y.2.1 s.toNatClampNeg o.2.2.1, upd y.2.2.1 s.toNatClampNeg 1, y.2.2.2)) ht hd hst hf0 hkv hso he0 hc hu (kr_ch hc.1 (Or.inr hb) (fun _ i hi hne q => hb1 (by
          have z := hc.1.2 i s.toNatClampNeg hi (kx_lt n3) hne (q.trans hys.symm)
          rw [← q, z])) (Or.inr rfl) (fun q => absurd q hb1) (fun i hi => pk_un hi) (fun i hi => pk_un hi) (fun _ => pk_us.trans pk_us.symm)) _
