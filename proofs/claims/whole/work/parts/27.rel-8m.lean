/-! tick: the terminal -/
theorem kr_en2 {o : kt_Op} {mi : kt_I} {w : kt_W} {u : Nat} {k v : Int32} (hu : u < 4) (hk : ¬ k = 1) : kr_o (o.1, o.2.1, o.2.2.1, o.2.2.2.1, k, v) (f_Md_end mi w (nI u) k v) u ∧ kr_wu w (f_Md_end mi w (nI u) k v) u ∧ (f_Md_end mi w (nI u) k v).2.2.2.2.1 = upd w.2.2.2.2.1 u k := by
  unfold f_Md_end
  rw [nI_clamp (show u < 2 ^ 31 by omega)]
  exact ⟨⟨pk_us, pk_us, fun q => absurd q hk⟩, ⟨rfl, rfl, rfl, rfl, fun v hv => ⟨pk_un hv, pk_un hv, rfl⟩⟩, rfl⟩
theorem kr_th {mm : kt_M} {ops : Nat → kt_Op} {tl : kt_Ln} {co co' : kt_Dr} {q tr' : kt_Rq} {mi : kt_I} {w : kt_W} {e e' : kt_E} (hd : kr_d co e 1) (hst : co.2.2.1 = -1) (hq0 : q.1 = 0) (he0 : e.2.2.2.2.2.2.1 1 = 0) (hl : kr_l tl w true)
    (h1 : (co', tr') = if f_Ln_isEmpty tl = 0 then f_RD_askToPutOut mm co q ((ops (f_Ln_head tl).toNatClampNeg).2.2.1) else (co, q)) (h2 : e' = if f_Md_head mi w 1 < 0 then e else f_Md_give_1 mi e) :
    kr_d co' e' 1 ∧ kr_x e e' 1 ∧ (∀ i, i ≠ 1 → e'.2.2.2.2.2.2.1 i = e.2.2.2.2.2.2.1 i ∧ e'.2.2.2.2.2.2.2 i = e.2.2.2.2.2.2.2 i) ∧ kr_t tr' co' ops tl e' := by
  unfold f_Ln_isEmpty f_Ln_head at h1
  rcases kr_hl1 (mi := mi) hl with ⟨l0, hh⟩ | ⟨l0, u, us, l1, hh⟩
  · rw [if_pos l0, if_neg (show ¬ (1 : Int32) = 0 by decide)] at h1
    rw [hh, if_pos (show (-1 : Int32) < 0 by decide)] at h2
    simp only [Prod.mk.injEq] at h1
    obtain ⟨rfl, rfl⟩ := h1
    subst h2
    exact ⟨hd, fun i _ => ⟨rfl, rfl, rfl, rfl, rfl, rfl⟩, fun i _ => ⟨rfl, rfl⟩, ⟨fun z => absurd hst z, Or.inl ⟨hq0, he0⟩⟩⟩
  · have hu : u < 4 := us.1
    rw [if_neg l0, if_pos rfl] at h1
    rw [hh, if_neg (nI_pos (by omega))] at h2
    unfold f_RD_askToPutOut f_Rq_open at h1
    dsimp only at h1
    generalize hG : f_Rq_giveTo (3, q.2.1, q.2.2.1, (ops (tl.1 0).toNatClampNeg).2.2.1, 0, 0, q.2.2.2.2.2.2) co = G at h1
    obtain ⟨g1, g2⟩ := G
    simp only [Prod.mk.injEq] at h1
    obtain ⟨rfl, rfl⟩ := h1
    unfold f_Md_give_1 at h2
    obtain ⟨x1, x2, x3, ⟨y1, y2, y3, y4⟩, x5, x6, x7⟩ := kr_gv 1 hd rfl hG.symm h2
    have y1 : tr'.1 = 3 := y1
    exact ⟨x1, x2, x3, ⟨fun z => ⟨by rw [y1]; decide, x7 z⟩, Or.inr ⟨y1, x5, l0, y4, x6⟩⟩⟩
/-- what serving the terminal brings -/
def kr_to (w : kt_W) (e : kt_E) (fl : kt_Ln) (r : Int32) (ops' : Nat → kt_Op) (tl' : kt_Ln) (co' : kt_Dr) (tr' : kt_Rq) (w' : kt_W) (e' : kt_E) : Prop :=
  (∀ u, u < 4 → kr_o (ops' u) w' u) ∧ kr_l fl w' false ∧ kr_l tl' w' true ∧ kr_d co' e' 1 ∧ kr_x e e' 1 ∧ (∀ i, i ≠ 1 → e'.2.2.2.2.2.2.1 i = e.2.2.2.2.2.2.1 i ∧ e'.2.2.2.2.2.2.2 i = e.2.2.2.2.2.2.2 i) ∧ kr_t tr' co' ops' tl' e' ∧ kr_end w w' r true
/-- the head of the terminal's line ends -/
theorem kr_te {mm : kt_M} {ops ops' : Nat → kt_Op} {fl tl tl' : kt_Ln} {co co' : kt_Dr} {q tr' : kt_Rq} {r : Int32} {mi : kt_I} {w w' : kt_W} {e e' : kt_E} {u : Nat} {k v : Int32} (hk : ¬ k = 1) (ho : ∀ u, u < 4 → kr_o (ops u) w u) (hf : kr_l fl w false) (hl : kr_l tl w true) (hd : kr_d co e 1) (hst : co.2.2.1 = -1) (hq0 : q.1 = 0) (l0 : ¬ tl.2 = 0) (us : kr_s w true u) (l1 : tl.1 0 = nI u)
    (h1 : (r, ops', tl', co', tr') = if f_Ln_isEmpty (f_Ln_dropHead tl) = 0 then ((1 : Int32), va_up ops u ((ops u).1, (ops u).2.1, (ops u).2.2.1, (ops u).2.2.2.1, k, v), f_Ln_dropHead tl, (f_RD_askToPutOut mm co q ((va_up ops u ((ops u).1, (ops u).2.1, (ops u).2.2.1, (ops u).2.2.2.1, k, v) (f_Ln_head (f_Ln_dropHead tl)).toNatClampNeg).2.2.1)).1, (f_RD_askToPutOut mm co q ((va_up ops u ((ops u).1, (ops u).2.1, (ops u).2.2.1, (ops u).2.2.2.1, k, v) (f_Ln_head (f_Ln_dropHead tl)).toNatClampNeg).2.2.1)).2) else ((1 : Int32), va_up ops u ((ops u).1, (ops u).2.1, (ops u).2.2.1, (ops u).2.2.2.1, k, v), f_Ln_dropHead tl, co, q))
    (h2 : (w', e') = if f_Md_head mi (f_Md_end mi w (nI u) k v) 1 < 0 then (f_Md_end mi w (nI u) k v, (e.1, e.2.1, e.2.2.1, e.2.2.2.1, e.2.2.2.2.1, e.2.2.2.2.2.1, upd e.2.2.2.2.2.2.1 1 0, e.2.2.2.2.2.2.2)) else (f_Md_end mi w (nI u) k v, f_Md_give_1 mi (e.1, e.2.1, e.2.2.1, e.2.2.2.1, e.2.2.2.2.1, e.2.2.2.2.2.1, upd e.2.2.2.2.2.2.1 1 0, e.2.2.2.2.2.2.2))) :
    kr_to w e fl r ops' tl' co' tr' w' e' := by
  obtain ⟨n1, n2, n3⟩ := kr_en2 (o := ops u) (mi := mi) (w := w) (v := v) us.1 hk
  have hws : ¬ (f_Md_end mi w (nI u) k v).2.2.2.2.1 u = 1 := by
    rw [n3, pk_us]
    exact hk
  have hoth : ∀ z, z ≠ u → (f_Md_end mi w (nI u) k v).1 z = w.1 z ∧ (f_Md_end mi w (nI u) k v).2.2.2.2.1 z = w.2.2.2.2.1 z ∧ (f_Md_end mi w (nI u) k v).2.2.2.1 z = w.2.2.2.1 z := fun z hz => ⟨by rw [n2.1], (n2.2.2.2.2 z hz).1, by rw [n2.2.2.2.1]⟩
  have hl' := kr_ld hl l1 l0 us.1 hws hoth
  have hf' : kr_l fl (f_Md_end mi w (nI u) k v) false := kr_lx hf (fun z => absurd (z.2.2.mp (us.2.2.mpr rfl)) (by decide)) (fun z => hws z.2.1) hoth
  have ho' := kr_ow ho n1 n2
  have he : kr_end w (f_Md_end mi w (nI u) k v) 1 true := ⟨n2.1, n2.2.2.1, n2.2.2.2.1, Or.inr ⟨rfl, u, k, us, hk, n3⟩⟩
  generalize va_up ops u ((ops u).1, (ops u).2.1, (ops u).2.2.1, (ops u).2.2.2.1, k, v) = ops1 at *
  generalize f_Md_end mi w (nI u) k v = w1 at *
  generalize f_Ln_dropHead tl = tl1 at *
  have g1 : r = 1 ∧ ops' = ops1 ∧ tl' = tl1 ∧ (co', tr') = if f_Ln_isEmpty tl1 = 0 then f_RD_askToPutOut mm co q ((ops1 (f_Ln_head tl1).toNatClampNeg).2.2.1) else (co, q) := by
    by_cases c : f_Ln_isEmpty tl1 = 0
    · rw [if_pos c] at h1 ⊢
      simp only [Prod.mk.injEq] at h1
      exact ⟨h1.1, h1.2.1, h1.2.2.1, by rw [h1.2.2.2.1, h1.2.2.2.2]⟩
    · rw [if_neg c] at h1 ⊢
      simp only [Prod.mk.injEq] at h1
      exact ⟨h1.1, h1.2.1, h1.2.2.1, by rw [h1.2.2.2.1, h1.2.2.2.2]⟩
  obtain ⟨rfl, rfl, rfl, g1⟩ := g1
  have g2 : w' = w1 ∧ e' = if f_Md_head mi w1 1 < 0 then (e.1, e.2.1, e.2.2.1, e.2.2.2.1, e.2.2.2.2.1, e.2.2.2.2.2.1, upd e.2.2.2.2.2.2.1 1 0, e.2.2.2.2.2.2.2) else f_Md_give_1 mi (e.1, e.2.1, e.2.2.1, e.2.2.2.1, e.2.2.2.2.1, e.2.2.2.2.2.1, upd e.2.2.2.2.2.2.1 1 0, e.2.2.2.2.2.2.2) := by
    by_cases c : f_Md_head mi w1 1 < 0
    · rw [if_pos c] at h2 ⊢
      simp only [Prod.mk.injEq] at h2
      exact h2
    · rw [if_neg c] at h2 ⊢
      simp only [Prod.mk.injEq] at h2
      exact h2
  obtain ⟨rfl, g2⟩ := g2
  obtain ⟨z1, z2, z3, z4⟩ := kr_th (e := (e.1, e.2.1, e.2.2.1, e.2.2.2.1, e.2.2.2.2.1, e.2.2.2.2.2.1, upd e.2.2.2.2.2.2.1 1 0, e.2.2.2.2.2.2.2)) hd hst hq0 (show upd e.2.2.2.2.2.2.1 1 0 1 = 0 from pk_us) hl' g1 g2
  exact ⟨ho', hf', hl', z1, z2, fun i hi => ⟨(z3 i hi).1.trans (pk_un hi), (z3 i hi).2⟩, z4, he⟩
set_option maxHeartbeats 800000 in
theorem kr_svt {mm : kt_M} {ops ops' : Nat → kt_Op} {fl tl tl' : kt_Ln} {co co' : kt_Dr} {tr tr' : kt_Rq} {r : Int32} {mi : kt_I} {w w' : kt_W} {e e' : kt_E} (ho : ∀ u, u < 4 → kr_o (ops u) w u) (hf : kr_l fl w false) (hl : kr_l tl w true) (hd : kr_d co e 1) (hq : kr_tm tr co ops tl e)
    (h1 : (r, ops', tl', co', tr') = f_RD_serveTerminal mm ops tl co tr) (h2 : (w', e') = f_Md_serveTerminal mi w e) : kr_to w e fl r ops' tl' co' tr' w' e' := by
  obtain ⟨q1, q2⟩ := hq
  unfold f_RD_serveTerminal f_Rq_isOpen f_Rq_wasGivenElsewhere f_Op_fail f_Op_finish f_Rq_close at h1
  unfold f_Md_serveTerminal at h2
  dsimp only at h1 h2
  have he0 : kr_end w w 0 true := ⟨rfl, rfl, rfl, Or.inl ⟨rfl, rfl⟩⟩
  rcases q2 with ⟨a1, a2⟩ | ⟨⟨k1, k2, k3⟩, q5⟩
  · have hst : co.2.2.1 = -1 := Decidable.byContradiction fun z => (q1 z).1 a1
    simp only [if_pos a1, if_true] at h1
    simp only [a2, if_neg (show ¬ (0 : Int32) = 1 by decide), if_neg (show ¬ (0 : Int32) = 2 by decide), if_true] at h2
    have g1 : r = 0 ∧ ops' = ops ∧ tl' = tl ∧ (co', tr') = if f_Ln_isEmpty tl = 0 then f_RD_askToPutOut mm co tr ((ops (f_Ln_head tl).toNatClampNeg).2.2.1) else (co, tr) := by
      by_cases c : f_Ln_isEmpty tl = 0
      · rw [if_pos c] at h1 ⊢
        simp only [Prod.mk.injEq] at h1
        exact ⟨h1.1, h1.2.1, h1.2.2.1, by rw [h1.2.2.2.1, h1.2.2.2.2]⟩
      · rw [if_neg c] at h1 ⊢
        simp only [Prod.mk.injEq] at h1
        exact ⟨h1.1, h1.2.1, h1.2.2.1, by rw [h1.2.2.2.1, h1.2.2.2.2]⟩
    obtain ⟨rfl, rfl, rfl, g1⟩ := g1
    have g2 : w' = w ∧ e' = if f_Md_head mi w 1 < 0 then e else f_Md_give_1 mi e := by
      by_cases c : f_Md_head mi w 1 < 0
      · rw [if_pos c] at h2 ⊢
        simp only [Prod.mk.injEq] at h2
        exact h2
      · rw [if_neg c] at h2 ⊢
        simp only [Prod.mk.injEq] at h2
        exact h2
    obtain ⟨rfl, g2⟩ := g2
    obtain ⟨z1, z2, z3, z4⟩ := kr_th hd hst a1 a2 hl g1 g2
    exact ⟨ho, hf, hl, z1, z2, z3, z4, he0⟩
  · have a1 : ¬ tr.1 = 0 := by rw [k1]; decide
    simp only [if_neg a1, if_neg (show ¬ (1 : Int32) = 0 by decide)] at h1
    rcases kr_hl1 (mi := mi) hl with ⟨l0, -⟩ | ⟨l0, u, us, l1, hh⟩
    · exact absurd l0 k2
    · have hu : u < 4 := us.1
      have hcl : (nI u).toNatClampNeg = u := nI_clamp (by omega)
      have hhd : (f_Ln_head tl).toNatClampNeg = u := by
        unfold f_Ln_head
        rw [l1, hcl]
      rw [hhd] at h1
      rw [hh] at h2
      rcases q5 with ⟨b1, ⟨b2, b3⟩ | ⟨b2, b3, b4⟩⟩ | ⟨b1, b2, b3⟩
      · simp only [if_pos b1, if_pos b2, if_true] at h1
        simp only [if_pos b3] at h2
        generalize hG : f_Rq_giveTo tr co = G at h1
        obtain ⟨q20, d20⟩ := G
        simp only [Prod.mk.injEq] at h1 h2
        obtain ⟨rfl, rfl, rfl, rfl, rfl⟩ := h1
        obtain ⟨rfl, rfl⟩ := h2
        obtain ⟨x1, x2, x3, ⟨y1, y2, y3, y4⟩, x5, x6, x7⟩ := kr_gv (e' := f_Md_give_1 mi e) 1 hd b1 hG.symm rfl
        exact ⟨ho, hf, hl, x1, x2, x3, ⟨fun z => ⟨by rw [y1]; exact a1, x7 z⟩, Or.inr ⟨y1.trans k1, x5, k2, y4.trans k3, x6⟩⟩, he0⟩
      · simp only [if_pos b1, b2, if_neg (show ¬ (1 : Int32) = 0 by decide)] at h1
        simp only [b3, if_neg (show ¬ (2 : Int32) = 1 by decide), if_neg (show ¬ (2 : Int32) = 0 by decide), if_neg (show ¬ (2 : Int32) = 3 by decide), if_true] at h2
        rw [b4, hd.1] at h2
        by_cases c : tr.2.2.2.2.2.2 = co.1
        · simp only [if_pos c, if_true] at h1 h2
          simp only [Prod.mk.injEq] at h1 h2
          obtain ⟨rfl, rfl, rfl, rfl, rfl⟩ := h1
          obtain ⟨rfl, rfl⟩ := h2
          exact ⟨ho, hf, hl, hd, fun i _ => ⟨rfl, rfl, rfl, rfl, rfl, rfl⟩, fun i _ => ⟨rfl, rfl⟩, ⟨q1, Or.inr ⟨k1, b1, k2, k3, Or.inr ⟨b2, b3, b4⟩⟩⟩, he0⟩
        · have hst : co.2.2.1 = -1 := Decidable.byContradiction fun z => c (q1 z).2.2
          simp only [if_neg c, if_neg (show ¬ (1 : Int32) = 0 by decide)] at h1 h2
          exact kr_te (by decide) ho hf hl hd hst (by rfl) l0 us l1 h1 h2
      · simp only [b1, if_neg (show ¬ (1 : Int32) = 0 by decide)] at h1
        simp only [b2, if_neg (show ¬ (3 : Int32) = 1 by decide), if_neg (show ¬ (3 : Int32) = 2 by decide), if_neg (show ¬ (3 : Int32) = 0 by decide), if_true] at h2
        exact kr_te (by decide) ho hf hl hd b3 (by rfl) l0 us l1 h1 h2
