/-! tick: the file server -/
/-- who has ended -/
def kr_end (w w' : kt_W) (r : Int32) (pr : Bool) : Prop :=
  w'.1 = w.1 ∧ w'.2.2.1 = w.2.2.1 ∧ w'.2.2.2.1 = w.2.2.2.1 ∧ ((r = 0 ∧ w'.2.2.2.2.1 = w.2.2.2.2.1) ∨ (r = 1 ∧ ∃ u k, kr_s w pr u ∧ ¬ k = 1 ∧ w'.2.2.2.2.1 = upd w.2.2.2.2.1 u k))
theorem kr_l.same {n : kt_Ln} {w w' : kt_W} {pr : Bool} (h : kr_l n w pr) (e1 : w'.1 = w.1) (e2 : w'.2.2.2.2.1 = w.2.2.2.2.1) (e3 : w'.2.2.2.1 = w.2.2.2.1) : kr_l n w' pr := by
  unfold kr_l kr_s at h ⊢
  rw [e1, e2, e3]
  exact h
theorem kr_ow {ops : Nat → kt_Op} {o' : kt_Op} {w w' : kt_W} {u : Nat} (h : ∀ v, v < 4 → kr_o (ops v) w v) (ho : kr_o o' w' u) (hw : kr_wu w w' u) : ∀ v, v < 4 → kr_o (va_up ops u o' v) w' v := by
  intro v hv
  by_cases e : v = u
  · subst e
    rw [va_up_self]
    exact ho
  · rw [va_up_ne _ _ e]
    obtain ⟨a1, a2, a3, a4, a5⟩ := hw
    obtain ⟨b1, b2, b3⟩ := a5 v e
    have h1 := h v hv
    unfold kr_o at h1 ⊢
    rw [a1, a2, a3, b1, b2, b3]
    exact h1
/-- what serving files brings -/
def kr_fo (t : Nat) (mm : kt_M) (mi : kt_I) (w : kt_W) (e : kt_E) (ops : Nat → kt_Op) (r : Int32) (ops' : Nat → kt_Op) (fl' : kt_Ln) (dk' : kt_Dr) (fr' : kt_Rq) (ca' : kt_Ca) (mi' : kt_I) (w' : kt_W) (e' : kt_E) (y' : kt_Ca) : Prop :=
  (∀ u, u < 4 → kr_o (ops' u) w' u) ∧ kr_l fl' w' false ∧ kr_d dk' e' 0 ∧ kr_x e e' 0 ∧ (∀ i, i ≠ 0 → e'.2.2.2.2.2.2.1 i = e.2.2.2.2.2.2.1 i ∧ e'.2.2.2.2.2.2.2 i = e.2.2.2.2.2.2.2 i) ∧ kr_f fr' dk' ca' mi' e' ∧ kr_c (t + 1) mm mi' ca' y' ∧ kr_g mi mi' ∧ (∀ v, (ops' v).2.2.1 = (ops v).2.2.1) ∧ kr_end w w' r false
theorem kr_sh {t : Nat} {mm : kt_M} {ops ops' : Nat → kt_Op} {fl fl' : kt_Ln} {dk dk' : kt_Dr} {fr fr' : kt_Rq} {ca ca' : kt_Ca} {r : Int32} {mi mi' : kt_I} {w w' : kt_W} {e e' : kt_E} {y y' : kt_Ca} (ht : t < 512) (hd : kr_d dk e 0) (hst : dk.2.2.1 = -1) (hf0 : fr.1 = 0) (hkv : kv_fr fr) (hso : vp_in mi.2.2.2.2.1 3) (he0 : e.2.2.2.2.2.2.1 0 = 0) (hc : kr_cm t mm mi ca y) (ho : ∀ u, u < 4 → kr_o (ops u) w u) (hl : kr_l fl w false)
    (h1 : (r, ops', fl', dk', fr', ca') = if f_Ln_isEmpty fl = 0 then (if (f_RD_goOnWith mm dk fr ca (ops (f_Ln_head fl).toNatClampNeg)).1 = 0 then ((0 : Int32), va_up ops (f_Ln_head fl).toNatClampNeg (f_RD_goOnWith mm dk fr ca (ops (f_Ln_head fl).toNatClampNeg)).2.2.2.2, fl, (f_RD_goOnWith mm dk fr ca (ops (f_Ln_head fl).toNatClampNeg)).2.1, (f_RD_goOnWith mm dk fr ca (ops (f_Ln_head fl).toNatClampNeg)).2.2.1, (f_RD_goOnWith mm dk fr ca (ops (f_Ln_head fl).toNatClampNeg)).2.2.2.1) else ((1 : Int32), va_up ops (f_Ln_head fl).toNatClampNeg (f_RD_goOnWith mm dk fr ca (ops (f_Ln_head fl).toNatClampNeg)).2.2.2.2, f_Ln_dropHead fl, (f_RD_goOnWith mm dk fr ca (ops (f_Ln_head fl).toNatClampNeg)).2.1, (f_RD_goOnWith mm dk fr ca (ops (f_Ln_head fl).toNatClampNeg)).2.2.1, (f_RD_goOnWith mm dk fr ca (ops (f_Ln_head fl).toNatClampNeg)).2.2.2.1)) else ((0 : Int32), ops, fl, dk, fr, ca))
    (h2 : (mi', w', e', y') = if (f_Md_head mi w 0) < 0 then (mi, w, e, y) else if (w.1 (f_Md_head mi w 0).toNatClampNeg) = 3 then ((f_Md_flush mi w e y (f_Md_head mi w 0)).1, (f_Md_flush mi w e y (f_Md_head mi w 0)).2.1, (f_Md_flush mi w e y (f_Md_head mi w 0)).2.2, y) else ((f_Md_access mi w e y (f_Md_head mi w 0)).1, (f_Md_access mi w e y (f_Md_head mi w 0)).2.1, (f_Md_access mi w e y (f_Md_head mi w 0)).2.2.1, (f_Md_access mi w e y (f_Md_head mi w 0)).2.2.2)) :
    kr_fo t mm mi w e ops r ops' fl' dk' fr' ca' mi' w' e' y' := by
  unfold f_Ln_isEmpty f_Ln_head at h1
  rcases kr_hl0 (mi := mi) hl with ⟨l0, hh⟩ | ⟨l0, u, us, l1, hh⟩
  · rw [if_pos l0, if_neg (show ¬ (1 : Int32) = 0 by decide)] at h1
    rw [hh, if_pos (show (-1 : Int32) < 0 by decide)] at h2
    simp only [Prod.mk.injEq] at h1 h2
    obtain ⟨rfl, rfl, rfl, rfl, rfl, rfl⟩ := h1
    obtain ⟨rfl, rfl, rfl, rfl⟩ := h2
    exact ⟨ho, hl, hd, fun i _ => ⟨rfl, rfl, rfl, rfl, rfl, rfl⟩, fun i _ => ⟨rfl, rfl⟩, kr_f0 hst hf0 hkv hso he0, hc.c rfl, ⟨rfl, rfl, rfl, rfl, rfl⟩, fun v => rfl, ⟨rfl, rfl, rfl, Or.inl ⟨rfl, rfl⟩⟩⟩
  · have hu : u < 4 := us.1
    have hcl : (nI u).toNatClampNeg = u := nI_clamp (by omega)
    rw [if_neg l0, if_pos rfl, l1, hcl] at h1
    rw [hh, if_neg (nI_pos (by omega)), hcl] at h2
    have hou := ho u hu
    have o4 : (ops u).2.2.2.2.1 = 1 := hou.1.symm.trans us.2.1
    obtain ⟨p1, p2, -⟩ := hou.2.2 o4
    have p3 : ¬ (ops u).1 = 3 := fun q => by
      have z := us.2.2.mp (by rw [p1, q]; decide)
      exact absurd z (by decide)
    generalize hG : f_RD_goOnWith mm dk fr ca (ops u) = G at h1
    obtain ⟨r7, dk7, fr7, ca7, o7⟩ := G
    have K : kr_gr t mm mi w e u (ops u) r7 dk7 fr7 ca7 o7 mi' w' e' y' := by
      by_cases k2 : (ops u).1 = 2
      · rw [if_pos (show w.1 u = 3 by rw [p1, k2]; decide)] at h2
        generalize hF : f_Md_flush mi w e y (nI u) = F at h2
        obtain ⟨f1, f2, f3⟩ := F
        dsimp only at h2
        simp only [Prod.mk.injEq] at h2
        obtain ⟨rfl, rfl, rfl, rfl⟩ := h2
        exact kr_gos hd hst hf0 hkv hso he0 hc hou us k2 hG.symm hF.symm
      · have hk : (ops u).1 = 0 ∨ (ops u).1 = 1 := by
          rcases p2 with q | q | q | q
          · exact Or.inl q
          · exact Or.inr q
          · exact absurd q k2
          · exact absurd q p3
        rw [if_neg (show ¬ w.1 u = 3 by rw [p1]; rcases hk with q | q <;> (rw [q]; decide))] at h2
        exact kr_goa ht hd hst hf0 hkv hso he0 hc hou us hk hG.symm h2
    obtain ⟨z1, z2, z3, z4, z5, z6, z7, z8, z9, z10⟩ := K
    have hval : ∀ v, (va_up ops u o7 v).2.2.1 = (ops v).2.2.1 := fun v => by
      by_cases q : v = u
      · subst q
        rw [va_up_self]
        exact z9
      · rw [va_up_ne _ _ q]
    dsimp only at h1
    rcases z10 with ⟨rfl, st⟩ | ⟨rfl, st⟩
    · rw [if_pos rfl] at h1
      simp only [Prod.mk.injEq] at h1
      obtain ⟨rfl, rfl, rfl, rfl, rfl, rfl⟩ := h1
      exact ⟨kr_ow ho z7 z8, hl.same z8.1 st z8.2.2.2.1, z1, z2, z3, z4, z5, z6, hval, ⟨z8.1, z8.2.2.1, z8.2.2.2.1, Or.inl ⟨rfl, st⟩⟩⟩
    · rw [if_neg (show ¬ (1 : Int32) = 0 by decide)] at h1
      simp only [Prod.mk.injEq] at h1
      obtain ⟨rfl, rfl, rfl, rfl, rfl, rfl⟩ := h1
      refine ⟨kr_ow ho z7 z8, kr_ld hl l1 l0 hu ?_ (fun v hv => ⟨by rw [z8.1], (z8.2.2.2.2 v hv).1, by rw [z8.2.2.2.1]⟩), z1, z2, z3, z4, z5, z6, hval, ⟨z8.1, z8.2.2.1, z8.2.2.2.1, Or.inr ⟨rfl, u, 2, us, by decide, st⟩⟩⟩
      rw [st, pk_us]
      decide
theorem kr_cl {ca y : kt_Ca} {s : Nat} {x4 y4 : Nat → Int32} (h : kr_cs ca y) : kr_cs (ca.1, ca.2.1, upd ca.2.2.1 s 0, x4) (y.1, y.2.1, upd y.2.2.1 s 0, y4) := by
  refine ⟨fun i hi => ?_, h.2⟩
  obtain ⟨c1, c2, c3, c4, c5, c6⟩ := h.1 i hi
  dsimp only
  by_cases e : i = s
  · subst e
    rw [pk_us, pk_us]
    exact ⟨c1, c2, c3, rfl, Or.inl rfl, fun _ => rfl⟩
  · rw [pk_un e, pk_un e]
    exact ⟨c1, c2, c3, c4, c5, c6⟩
set_option maxHeartbeats 400000 in
theorem kr_svf {t : Nat} {mm : kt_M} {ops ops' : Nat → kt_Op} {fl fl' : kt_Ln} {dk dk' : kt_Dr} {fr fr' : kt_Rq} {ca ca' : kt_Ca} {r : Int32} {mi mi' : kt_I} {w w' : kt_W} {e e' : kt_E} {y y' : kt_Ca} (ht : t < 512) (hbf : mm.2.2.1 = mi.2.2.2.2.2.2.2.1) (ho : ∀ u, u < 4 → kr_o (ops u) w u) (hl : kr_l fl w false) (hd : kr_d dk e 0) (hq : kr_fm fr dk ca mi e) (hc : kr_cm t mm mi ca y)
    (h1 : (r, ops', fl', dk', fr', ca') = f_RD_serveFiles mm ops fl dk fr ca) (h2 : (mi', w', e', y') = f_Md_serveFiles mi w e y) :
    kr_fo t mm mi w e ops r ops' fl' dk' fr' ca' mi' w' e' y' := by
  obtain ⟨q1, q2, q3, q4⟩ := hq
  unfold f_RD_serveFiles f_Rq_isOpen at h1
  unfold f_Md_serveFiles at h2
  dsimp only at h1 h2
  rcases q4 with ⟨a1, a2⟩ | ⟨⟨k1, k2, k3, k4⟩, q5⟩
  · have hst : dk.2.2.1 = -1 := Decidable.byContradiction fun z => (q3 z).1 a1
    simp only [if_pos a1, if_true] at h1
    simp only [a2, if_neg (show ¬ (0 : Int32) = 1 by decide), if_neg (show ¬ (0 : Int32) = 2 by decide), if_neg (show ¬ (0 : Int32) = 3 by decide)] at h2
    exact kr_sh ht hd hst a1 q1 q2 a2 hc ho hl h1 h2
  · have a1 : ¬ fr.1 = 0 := by rcases k1 with q | q <;> (rw [q]; decide)
    simp only [if_neg a1, if_neg (show ¬ (1 : Int32) = 0 by decide)] at h1
    have give : ∀ q20 d20, (q20, d20) = f_Rq_giveTo fr dk → fr.2.2.2.2.2.1 = 0 → kr_fo t mm mi w e ops 0 ops fl d20 q20 ca mi w (f_Md_give_0 mi e) y := by
      intro q20 d20 hG hA
      obtain ⟨x1, x2, x3, ⟨y1, y2, y3, y4⟩, x5, x6, x7⟩ := kr_gv (e' := f_Md_give_0 mi e) 0 hd hA hG rfl
      refine ⟨ho, hl, x1, x2, x3, ?_, hc.c rfl, ⟨rfl, rfl, rfl, rfl, rfl⟩, fun v => rfl, ⟨rfl, rfl, rfl, Or.inl ⟨rfl, rfl⟩⟩⟩
      unfold kr_f kv_fr
      rw [y1, y2, y3]
      exact ⟨q1, q2, fun z => ⟨a1, x7 z⟩, Or.inr ⟨k1, x5, k2, x6, k3, k4⟩⟩
    rcases q5 with ⟨b1, ⟨b2, b3⟩ | ⟨b2, b3, b4⟩⟩ | ⟨b1, b2, b3⟩
    · simp only [if_pos b1, if_pos b2] at h1
      simp only [if_pos b3] at h2
      generalize hG : f_Rq_giveTo fr dk = G at h1
      obtain ⟨q20, d20⟩ := G
      simp only [Prod.mk.injEq] at h1 h2
      obtain ⟨rfl, rfl, rfl, rfl, rfl, rfl⟩ := h1
      obtain ⟨rfl, rfl, rfl, rfl⟩ := h2
      exact give _ _ hG.symm b1
    · unfold f_Rq_wasGivenElsewhere at h1
      simp only [if_pos b1, b2, if_neg (show ¬ (1 : Int32) = 0 by decide)] at h1
      simp only [b3, if_neg (show ¬ (2 : Int32) = 1 by decide), if_true] at h2
      rw [b4, hd.1] at h2
      by_cases c : fr.2.2.2.2.2.2 = dk.1
      · simp only [if_pos c, if_true] at h1 h2
        simp only [Prod.mk.injEq] at h1 h2
        obtain ⟨rfl, rfl, rfl, rfl, rfl, rfl⟩ := h1
        obtain ⟨rfl, rfl, rfl, rfl⟩ := h2
        exact ⟨ho, hl, hd, fun i _ => ⟨rfl, rfl, rfl, rfl, rfl, rfl⟩, fun i _ => ⟨rfl, rfl⟩, ⟨q1, q2, q3, Or.inr ⟨k1, b1, k2, Or.inr ⟨b2, b3, b4⟩, k3, k4⟩⟩, hc.c rfl, ⟨rfl, rfl, rfl, rfl, rfl⟩, fun v => rfl, ⟨rfl, rfl, rfl, Or.inl ⟨rfl, rfl⟩⟩⟩
      · simp only [if_neg c, if_neg (show ¬ (1 : Int32) = 0 by decide)] at h1 h2
        generalize hG : f_Rq_giveTo fr dk = G at h1
        obtain ⟨q20, d20⟩ := G
        simp only [Prod.mk.injEq] at h1 h2
        obtain ⟨rfl, rfl, rfl, rfl, rfl, rfl⟩ := h1
        obtain ⟨rfl, rfl, rfl, rfl⟩ := h2
        exact give _ _ hG.symm b1
    · simp only [b1, if_neg (show ¬ (1 : Int32) = 0 by decide)] at h1
      simp only [b2, if_neg (show ¬ (3 : Int32) = 1 by decide), if_neg (show ¬ (3 : Int32) = 2 by decide), if_true] at h2
      unfold f_RD_takeDiskAnswer f_Rq_close at h1
      have hcs := hc.1
      have fin : ∀ ca1 y1, kr_cm t mm mi ca1 y1 →
          (r, ops', fl', dk', fr', ca') = (if f_Ln_isEmpty fl = 0 then (if (f_RD_goOnWith mm dk (0, fr.2.1, fr.2.2.1, fr.2.2.2.1, fr.2.2.2.2.1, fr.2.2.2.2.2.1, fr.2.2.2.2.2.2) ca1 (ops (f_Ln_head fl).toNatClampNeg)).1 = 0 then ((0 : Int32), va_up ops (f_Ln_head fl).toNatClampNeg (f_RD_goOnWith mm dk (0, fr.2.1, fr.2.2.1, fr.2.2.2.1, fr.2.2.2.2.1, fr.2.2.2.2.2.1, fr.2.2.2.2.2.2) ca1 (ops (f_Ln_head fl).toNatClampNeg)).2.2.2.2, fl, (f_RD_goOnWith mm dk (0, fr.2.1, fr.2.2.1, fr.2.2.2.1, fr.2.2.2.2.1, fr.2.2.2.2.2.1, fr.2.2.2.2.2.2) ca1 (ops (f_Ln_head fl).toNatClampNeg)).2.1, (f_RD_goOnWith mm dk (0, fr.2.1, fr.2.2.1, fr.2.2.2.1, fr.2.2.2.2.1, fr.2.2.2.2.2.1, fr.2.2.2.2.2.2) ca1 (ops (f_Ln_head fl).toNatClampNeg)).2.2.1, (f_RD_goOnWith mm dk (0, fr.2.1, fr.2.2.1, fr.2.2.2.1, fr.2.2.2.2.1, fr.2.2.2.2.2.1, fr.2.2.2.2.2.2) ca1 (ops (f_Ln_head fl).toNatClampNeg)).2.2.2.1) else ((1 : Int32), va_up ops (f_Ln_head fl).toNatClampNeg (f_RD_goOnWith mm dk (0, fr.2.1, fr.2.2.1, fr.2.2.2.1, fr.2.2.2.2.1, fr.2.2.2.2.2.1, fr.2.2.2.2.2.2) ca1 (ops (f_Ln_head fl).toNatClampNeg)).2.2.2.2, f_Ln_dropHead fl, (f_RD_goOnWith mm dk (0, fr.2.1, fr.2.2.1, fr.2.2.2.1, fr.2.2.2.2.1, fr.2.2.2.2.2.1, fr.2.2.2.2.2.2) ca1 (ops (f_Ln_head fl).toNatClampNeg)).2.1, (f_RD_goOnWith mm dk (0, fr.2.1, fr.2.2.1, fr.2.2.2.1, fr.2.2.2.2.1, fr.2.2.2.2.2.1, fr.2.2.2.2.2.2) ca1 (ops (f_Ln_head fl).toNatClampNeg)).2.2.1, (f_RD_goOnWith mm dk (0, fr.2.1, fr.2.2.1, fr.2.2.2.1, fr.2.2.2.2.1, fr.2.2.2.2.2.1, fr.2.2.2.2.2.2) ca1 (ops (f_Ln_head fl).toNatClampNeg)).2.2.2.1)) else ((0 : Int32), ops, fl, dk, (0, fr.2.1, fr.2.2.1, fr.2.2.2.1, fr.2.2.2.2.1, fr.2.2.2.2.2.1, fr.2.2.2.2.2.2), ca1)) →
          (mi', w', e', y') = (if (f_Md_head mi w 0) < 0 then (mi, w, (e.1, e.2.1, e.2.2.1, e.2.2.2.1, e.2.2.2.2.1, e.2.2.2.2.2.1, upd e.2.2.2.2.2.2.1 0 0, e.2.2.2.2.2.2.2), y1) else if (w.1 (f_Md_head mi w 0).toNatClampNeg) = 3 then ((f_Md_flush mi w (e.1, e.2.1, e.2.2.1, e.2.2.2.1, e.2.2.2.2.1, e.2.2.2.2.2.1, upd e.2.2.2.2.2.2.1 0 0, e.2.2.2.2.2.2.2) y1 (f_Md_head mi w 0)).1, (f_Md_flush mi w (e.1, e.2.1, e.2.2.1, e.2.2.2.1, e.2.2.2.2.1, e.2.2.2.2.2.1, upd e.2.2.2.2.2.2.1 0 0, e.2.2.2.2.2.2.2) y1 (f_Md_head mi w 0)).2.1, (f_Md_flush mi w (e.1, e.2.1, e.2.2.1, e.2.2.2.1, e.2.2.2.2.1, e.2.2.2.2.2.1, upd e.2.2.2.2.2.2.1 0 0, e.2.2.2.2.2.2.2) y1 (f_Md_head mi w 0)).2.2, y1) else ((f_Md_access mi w (e.1, e.2.1, e.2.2.1, e.2.2.2.1, e.2.2.2.2.1, e.2.2.2.2.2.1, upd e.2.2.2.2.2.2.1 0 0, e.2.2.2.2.2.2.2) y1 (f_Md_head mi w 0)).1, (f_Md_access mi w (e.1, e.2.1, e.2.2.1, e.2.2.2.1, e.2.2.2.2.1, e.2.2.2.2.2.1, upd e.2.2.2.2.2.2.1 0 0, e.2.2.2.2.2.2.2) y1 (f_Md_head mi w 0)).2.1, (f_Md_access mi w (e.1, e.2.1, e.2.2.1, e.2.2.2.1, e.2.2.2.2.1, e.2.2.2.2.2.1, upd e.2.2.2.2.2.2.1 0 0, e.2.2.2.2.2.2.2) y1 (f_Md_head mi w 0)).2.2.1, (f_Md_access mi w (e.1, e.2.1, e.2.2.1, e.2.2.2.1, e.2.2.2.2.1, e.2.2.2.2.2.1, upd e.2.2.2.2.2.2.1 0 0, e.2.2.2.2.2.2.2) y1 (f_Md_head mi w 0)).2.2.2)) →
          kr_fo t mm mi w e ops r ops' fl' dk' fr' ca' mi' w' e' y' := by
        intro ca1 y1 hc1 g1 g2
        obtain ⟨z1, z2, z3, z4, z5, z6⟩ := kr_sh (fr := (0, fr.2.1, fr.2.2.1, fr.2.2.2.1, fr.2.2.2.2.1, fr.2.2.2.2.2.1, fr.2.2.2.2.2.2)) (e := (e.1, e.2.1, e.2.2.1, e.2.2.2.1, e.2.2.2.2.1, e.2.2.2.2.2.1, upd e.2.2.2.2.2.2.1 0 0, e.2.2.2.2.2.2.2)) ht hd b3 rfl q1 q2 (show upd e.2.2.2.2.2.2.1 0 0 0 = 0 from pk_us) hc1 ho hl g1 g2
        exact ⟨z1, z2, z3, z4, fun i hi => ⟨(z5 i hi).1.trans (pk_un hi), (z5 i hi).2⟩, z6⟩
      obtain ⟨a, c, ha, hc', ea, ec, hp⟩ := hc.2
      rcases k1 with k1 | k1
      · obtain ⟨x1, x2, x3, x4⟩ := k3 k1
        rw [if_pos k1] at h1
        dsimp only [f_Ca_hold] at h1
        rw [if_neg (show ¬ mi.2.2.2.2.2.1 = 0 by rw [x1]; decide)] at h2
        rw [k2, x2, ← hbf] at h2
        have hb1 : ¬ fr.2.1 = -1 := fun q => q1.1 (Or.inl (by rw [q]; decide))
        have hn : ¬ fr.2.1 = -1 → ∀ i, i < 3 → i ≠ fr.2.2.1.toNatClampNeg → ¬ y.1 i = fr.2.1 := fun _ i hi _ => by
          rw [← (hcs.1 i hi).1]
          exact x4 i hi
        have hcm : kr_cm t mm mi (upd ca.1 fr.2.2.1.toNatClampNeg fr.2.1, upd ca.2.1 fr.2.2.1.toNatClampNeg mm.2.2.1, upd ca.2.2.1 fr.2.2.1.toNatClampNeg 0, ca.2.2.2) (upd y.1 fr.2.2.1.toNatClampNeg fr.2.1, upd y.2.1 fr.2.2.1.toNatClampNeg mm.2.2.1, upd y.2.2.1 fr.2.2.1.toNatClampNeg 0, y.2.2.2) := ⟨kr_ch hcs (Or.inr q1.1) hn (Or.inl rfl) (fun q => absurd q hb1) (fun i hi => pk_un hi) (fun i hi => pk_un hi) (fun _ => pk_us.trans pk_us.symm), a, c, ha, hc', ea, ec, hp⟩
        exact fin _ _ hcm h1 h2
      · obtain ⟨x1, x2⟩ := k4 k1
        rw [if_neg (show ¬ fr.1 = 1 by rw [k1]; decide)] at h1
        dsimp only at h1
        rw [if_pos x1] at h2
        simp only [kr_up] at h2
        rw [k2] at h2
        have hcm : kr_cm t mm mi (ca.1, ca.2.1, upd ca.2.2.1 fr.2.2.1.toNatClampNeg 0, ca.2.2.2) (y.1, y.2.1, upd y.2.2.1 fr.2.2.1.toNatClampNeg 0, y.2.2.2) := ⟨kr_cl hcs, a, c, ha, hc', ea, ec, hp⟩
        exact fin _ _ hcm h1 h2
