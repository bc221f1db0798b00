/-! tick: the file server goes on with an operation -/
def kr_g (mi mi' : kt_I) : Prop := mi'.1 = mi.1 ∧ mi'.2.1 = mi.2.1 ∧ mi'.2.2.1 = mi.2.2.1 ∧ mi'.2.2.2.1 = mi.2.2.2.1 ∧ mi'.2.2.2.2.2.2.2.1 = mi.2.2.2.2.2.2.2.1
def kr_wu (w w' : kt_W) (u : Nat) : Prop := w'.1 = w.1 ∧ w'.2.1 = w.2.1 ∧ w'.2.2.1 = w.2.2.1 ∧ w'.2.2.2.1 = w.2.2.2.1 ∧ ∀ v, v ≠ u → w'.2.2.2.2.1 v = w.2.2.2.2.1 v ∧ w'.2.2.2.2.2.1 v = w.2.2.2.2.2.1 v ∧ w'.2.2.2.2.2.2 v = w.2.2.2.2.2.2 v
/-- the cache in the middle of a tick: the time is one more than any stamp may be -/
def kr_cm (t : Nat) (mm : kt_M) (mi : kt_I) (ca y : kt_Ca) : Prop :=
  kr_cs ca y ∧ ∃ a c, a ≤ t ∧ c ≤ t ∧ mm.2.2.2 = nI (a + 1) ∧ mi.2.2.2.2.2.2.2.2 = nI c ∧ kr_cp a c ca.2.2.2 y.2.2.2
theorem kr_cmk {t a c : Nat} {mm : kt_M} {mi : kt_I} {ca y : kt_Ca} (h : kr_cs ca y) (ha : a ≤ t) (hc : c ≤ t) (e1 : mm.2.2.2 = nI a) (e2 : mi.2.2.2.2.2.2.2.2 = nI c) (hp : kr_cp a c ca.2.2.2 y.2.2.2) : kr_c t mm mi ca y :=
  ⟨⟨a, c, ha, hc, e1, e2, hp.1⟩, h.1, h.2, hp.2⟩
theorem kr_cm.c {t : Nat} {mm : kt_M} {mi mi' : kt_I} {ca y : kt_Ca} (h : kr_cm t mm mi ca y) (hm : mi'.2.2.2.2.2.2.2.2 = mi.2.2.2.2.2.2.2.2) : kr_c (t + 1) mm mi' ca y := by
  obtain ⟨h1, a, c, ha, hc, e1, e2, hp⟩ := h
  exact kr_cmk h1 (by omega) (by omega) e1 (hm.trans e2) hp.up
/-- what going on with the operation of user u brings -/
def kr_gr (t : Nat) (mm : kt_M) (mi : kt_I) (w : kt_W) (e : kt_E) (u : Nat) (o : kt_Op) (r : Int32) (dk' : kt_Dr) (fr' : kt_Rq) (ca' : kt_Ca) (o' : kt_Op) (mi' : kt_I) (w' : kt_W) (e' : kt_E) (y' : kt_Ca) : Prop :=
  kr_d dk' e' 0 ∧ kr_x e e' 0 ∧ (∀ i, i ≠ 0 → e'.2.2.2.2.2.2.1 i = e.2.2.2.2.2.2.1 i ∧ e'.2.2.2.2.2.2.2 i = e.2.2.2.2.2.2.2 i) ∧ kr_f fr' dk' ca' mi' e' ∧ kr_c (t + 1) mm mi' ca' y' ∧ kr_g mi mi' ∧ kr_o o' w' u ∧ kr_wu w w' u ∧ o'.2.2.1 = o.2.2.1 ∧ ((r = 0 ∧ w'.2.2.2.2.1 = w.2.2.2.2.1) ∨ (r = 1 ∧ w'.2.2.2.2.1 = upd w.2.2.2.2.1 u 2))
theorem kr_dm {dk dk' : kt_Dr} {fr' : kt_Rq} {ca : kt_Ca} {mi mi' : kt_I} {e e' : kt_E} {k b s z b' ch gt : Int32} (hd : kr_d dk e 0) (hk : k = 1 ∨ k = 2) (hb : vp_in b 16) (hs : vp_in s 3) (h1k : k = 1 → z = 1 ∧ b' = b ∧ ca.1 s.toNatClampNeg = -1 ∧ ∀ i, i < 3 → ¬ ca.1 i = b) (h2k : k = 2 → z = 0 ∧ ca.1 s.toNatClampNeg = b) (h1 : (fr', dk') = f_Rq_giveTo (k, b, s, ch, 0, 0, gt) dk) (h2 : (mi', e') = f_Md_demand mi e s z b') :
    kr_d dk' e' 0 ∧ kr_x e e' 0 ∧ (∀ i, i ≠ 0 → e'.2.2.2.2.2.2.1 i = e.2.2.2.2.2.2.1 i ∧ e'.2.2.2.2.2.2.2 i = e.2.2.2.2.2.2.2 i) ∧ kr_f fr' dk' ca mi' e' ∧ kr_g mi mi' ∧ mi'.2.2.2.2.2.2.2.2 = mi.2.2.2.2.2.2.2.2 := by
  unfold f_Md_demand at h2
  simp only [Prod.mk.injEq] at h2
  obtain ⟨rfl, h2⟩ := h2
  unfold f_Md_give_0 at h2
  obtain ⟨x1, x2, x3, ⟨y1, y2, y3, y4⟩, x5, x6, x7⟩ := kr_gv 0 hd rfl h1 h2
  have y1 : fr'.1 = k := y1
  have y2 : fr'.2.1 = b := y2
  have y3 : fr'.2.2.1 = s := y3
  refine ⟨x1, x2, x3, ?_, ⟨rfl, rfl, rfl, rfl, rfl⟩, rfl⟩
  unfold kr_f kv_fr
  dsimp only
  rw [y1, y2, y3]
  have hk0 : ¬ k = 0 := by rcases hk with rfl | rfl <;> decide
  exact ⟨⟨hb, hs⟩, hs, fun q => ⟨hk0, x7 q⟩, Or.inr ⟨hk, x5, rfl, x6, h1k, h2k⟩⟩
theorem kr_en {o : kt_Op} {mi : kt_I} {w : kt_W} {u : Nat} {v : Int32} (hu : u < 4) : kr_o (f_Op_finish o v) (f_Md_end mi w (nI u) 2 v) u ∧ kr_wu w (f_Md_end mi w (nI u) 2 v) u ∧ (f_Md_end mi w (nI u) 2 v).2.2.2.2.1 = upd w.2.2.2.2.1 u 2 ∧ (f_Op_finish o v).2.2.1 = o.2.2.1 := by
  unfold f_Op_finish f_Md_end
  rw [nI_clamp (show u < 2 ^ 31 by omega)]
  exact ⟨⟨pk_us, pk_us, fun q => absurd (show (2 : Int32) = 1 from q) (by decide)⟩, ⟨rfl, rfl, rfl, rfl, fun v hv => ⟨pk_un hv, pk_un hv, rfl⟩⟩, rfl, rfl⟩
set_option maxHeartbeats 4000000 in
/-- the dirty slot of the lowest block -/
theorem kr_fl {ca y : kt_Ca} (mi : kt_I) (w : kt_W) (e : kt_E) (u : Int32) (h : kr_cs ca y) :
    (f_Ca_dirtySlotOfLowestBlock ca = -1 ∧ f_Md_flush mi w e y u = (mi, f_Md_end mi w u 2 (w.2.2.2.2.2.2 u.toNatClampNeg), e)) ∨
    ∃ s, f_Ca_dirtySlotOfLowestBlock ca = s ∧ ¬ s = -1 ∧ vp_in s 3 ∧ ¬ ca.2.2.1 s.toNatClampNeg = 0 ∧ f_Md_flush mi w e y u = ((f_Md_demand mi e s 0 0).1, (w.1, w.2.1, w.2.2.1, w.2.2.2.1, w.2.2.2.2.1, w.2.2.2.2.2.1, upd w.2.2.2.2.2.2 u.toNatClampNeg ((w.2.2.2.2.2.2 u.toNatClampNeg) + 1)), (f_Md_demand mi e s 0 0).2) := by
  have hh := fun i hi => (h.1 i hi)
  have d0 := (h.1 0 (by decide)).2.2.2.1
  have d1 := (h.1 1 (by decide)).2.2.2.1
  have d2 := (h.1 2 (by decide)).2.2.2.1
  have b0 := (h.1 0 (by decide)).1
  have b1 := (h.1 1 (by decide)).1
  have b2 := (h.1 2 (by decide)).1
  have k : ∀ i, i < 3 → (y.1 i < 0 ∧ y.2.2.1 i = 0) ∨ (¬ y.1 i < 0 ∧ y.2.2.1 i = 0) ∨ (¬ y.1 i < 0 ∧ ¬ y.2.2.1 i = 0) := fun i hi => by
    obtain ⟨-, x2, -, -, -, x6⟩ := h.1 i hi
    rcases x2 with x2 | x2
    · exact Or.inl ⟨by rw [x2]; decide, x6 x2⟩
    · have x3 : ¬ y.1 i < 0 := fun q => x2 (Or.inl q)
      by_cases x4 : y.2.2.1 i = 0
      · exact Or.inr (Or.inl ⟨x3, x4⟩)
      · exact Or.inr (Or.inr ⟨x3, x4⟩)
  have n0 : ¬ (0 : Int32) = -1 := by decide
  have n1 : ¬ (1 : Int32) = -1 := by decide
  have n2 : ¬ (2 : Int32) = -1 := by decide
  have v0 : vp_in 0 3 := by unfold vp_in; decide
  have v1 : vp_in 1 3 := by unfold vp_in; decide
  have v2 : vp_in 2 3 := by unfold vp_in; decide
  have t0 : (0 : Int32).toNatClampNeg = 0 := by decide
  have t1 : (1 : Int32).toNatClampNeg = 1 := by decide
  have t2 : (2 : Int32).toNatClampNeg = 2 := by decide
  unfold f_Ca_dirtySlotOfLowestBlock f_Md_flush
  rw [d0, d1, d2, b0, b1, b2]
  rcases k 0 (by decide) with ⟨p0, q0⟩ | ⟨p0, q0⟩ | ⟨p0, q0⟩ <;> rcases k 1 (by decide) with ⟨p1, q1⟩ | ⟨p1, q1⟩ | ⟨p1, q1⟩ <;> rcases k 2 (by decide) with ⟨p2, q2⟩ | ⟨p2, q2⟩ | ⟨p2, q2⟩
  all_goals simp only [p0, p1, p2, q0, q1, q2, if_true, if_false]
  all_goals by_cases c01 : y.1 0 ≤ y.1 1 <;> by_cases c02 : y.1 0 ≤ y.1 2 <;> by_cases c12 : y.1 1 ≤ y.1 2
  all_goals (try simp only [c01, c02, c12, if_true, if_false])
  all_goals first
    | exact Or.inl ⟨rfl, rfl⟩
    | exact Or.inl ⟨trivial, rfl⟩
    | exact Or.inl ⟨trivial, trivial⟩
    | exact Or.inr ⟨0, rfl, n0, v0, by rw [t0, d0]; exact q0, rfl⟩
    | exact Or.inr ⟨1, rfl, n1, v1, by rw [t1, d1]; exact q1, rfl⟩
    | exact Or.inr ⟨2, rfl, n2, v2, by rw [t2, d2]; exact q2, rfl⟩
