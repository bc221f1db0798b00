/-! fault -/
/-- what the reference has of another driver is the same -/
def kr_x (e e' : kt_E) (j : Nat) : Prop := ∀ i, i ≠ j → e'.1 i = e.1 i ∧ e'.2.1 i = e.2.1 i ∧ e'.2.2.1 i = e.2.2.1 i ∧ e'.2.2.2.1 i = e.2.2.2.1 i ∧ e'.2.2.2.2.1 i = e.2.2.2.2.1 i ∧ e'.2.2.2.2.2.1 i = e.2.2.2.2.2.1 i
theorem kr_x.d {e e' : kt_E} {i j : Nat} (h : kr_x e e' j) (hij : i ≠ j) {d : kt_Dr} (hd : kr_d d e i) : kr_d d e' i := by
  obtain ⟨a1, a2, a3, a4, a5, a6⟩ := h i hij
  unfold kr_d
  rw [a1, a2, a3, a4, a5, a6]
  exact hd
theorem kr_k1 {k : Int32} (h0 : ¬ k < 0) (h1 : ¬ k = 0) (h2 : ¬ k = 1) : ¬ k ≤ 1 := by
  have b0 := kx_ne h1
  have b1 := kx_ne h2
  rw [Int32.lt_iff_toInt_lt, show (0 : Int32).toInt = 0 from rfl] at h0
  rw [Int32.le_iff_toInt_le, show (1 : Int32).toInt = 1 from rfl]
  rw [show (0 : Int32).toInt = 0 from rfl] at b0
  rw [show (1 : Int32).toInt = 1 from rfl] at b1
  omega
theorem kr_flt {d : kt_Dr} {e : kt_E} {j : Nat} {x k : Int32} (mi : kt_I) (hx : x.toNatClampNeg = j) (hx0 : ¬ x < 0) (hx1 : ¬ 1 < x) (hk0 : ¬ k < 0) (hk3 : ¬ 3 < k) (h : kr_d d e j) :
    ∃ e', f_Md_fault mi e x k = ((f_Dr_suffer d k).1, e') ∧ kr_d (f_Dr_suffer d k).2 e' j ∧ kr_x e e' j ∧ e'.2.2.2.2.2.2.1 = e.2.2.2.2.2.2.1 ∧ e'.2.2.2.2.2.2.2 = e.2.2.2.2.2.2.2 ∧ ((f_Dr_suffer d k).2.2.2.1 = d.2.2.1 ∨ (f_Dr_suffer d k).2.2.2.1 = -1) ∧ (f_Dr_suffer d k).2.1 = d.1 := by
  obtain ⟨g1, g2, g3, g4, g5, g6, g7, g8, g9⟩ := h
  unfold f_Md_fault f_Dr_suffer f_Dr_die
  rw [hx, if_neg hx0, if_neg hx1, if_neg hk0, if_neg hk3, g2]
  dsimp only
  by_cases c2 : d.2.1 = 2
  · simp only [if_pos c2]
    exact ⟨e, rfl, ⟨g1, g2, g3, g4, g5, g6, g7, g8, g9⟩, fun i _ => ⟨rfl, rfl, rfl, rfl, rfl, rfl⟩, rfl, rfl, (by first | exact Or.inl rfl | exact Or.inl trivial | trivial), (by first | rfl | trivial)⟩
  · simp only [if_neg c2]
    by_cases k0 : k = 0
    · subst k0
      have k1 : ¬ (0 : Int32) = 1 := by decide
      have k2 : (0 : Int32) ≤ 1 := by decide
      simp only [if_true, if_neg k1, if_pos k2]
      refine ⟨(e.1, upd e.2.1 j 2, e.2.2.1, upd e.2.2.2.1 j (-1), e.2.2.2.2.1, e.2.2.2.2.2.1, e.2.2.2.2.2.2.1, e.2.2.2.2.2.2.2), ?_, ?_, ?_, ?_⟩
      · by_cases c1 : d.2.1 = 1
        · simp only [if_pos c1]
        · simp only [if_neg c1]
      · have e9 : (if d.2.1 = 1 then ((1 : Int32), ((d.1, 2, -1, d.2.2.2.1, 0, d.2.2.2.2.2) : kt_Dr)) else (1, (d.1, 2, -1, d.2.2.2.1, 0, d.2.2.2.2.2))) = (1, (d.1, 2, -1, d.2.2.2.1, 0, d.2.2.2.2.2)) := by split <;> rfl
        rw [e9]
        exact ⟨g1, pk_us, Or.inr (Or.inr rfl), Or.inl rfl, pk_us, Or.inl rfl, fun _ => rfl, g8, g9⟩
      · exact fun i hi => ⟨rfl, pk_un hi, rfl, pk_un hi, rfl, rfl⟩
      · have e9 : (if d.2.1 = 1 then ((1 : Int32), ((d.1, 2, -1, d.2.2.2.1, 0, d.2.2.2.2.2) : kt_Dr)) else (1, (d.1, 2, -1, d.2.2.2.1, 0, d.2.2.2.2.2))) = (1, (d.1, 2, -1, d.2.2.2.1, 0, d.2.2.2.2.2)) := by split <;> rfl
        rw [e9]
        exact ⟨rfl, rfl, Or.inr rfl, rfl⟩
    · simp only [if_neg k0]
      by_cases c1 : d.2.1 = 1
      · simp only [if_pos c1]
        exact ⟨e, rfl, ⟨g1, g2, g3, g4, g5, g6, g7, g8, g9⟩, fun i _ => ⟨rfl, rfl, rfl, rfl, rfl, rfl⟩, rfl, rfl, (by first | exact Or.inl rfl | exact Or.inl trivial | trivial), (by first | rfl | trivial)⟩
      · simp only [if_neg c1]
        by_cases k1 : k = 1
        · subst k1
          have k2 : (1 : Int32) ≤ 1 := by decide
          simp only [if_true, if_pos k2]
          refine ⟨_, rfl, ⟨g1, pk_us, Or.inr (Or.inl rfl), Or.inr (g4.resolve_left c2), g5, g6, fun q => absurd (show (1 : Int32) = 2 from q) (by decide), g8, g9⟩, fun i hi => ⟨rfl, pk_un hi, rfl, rfl, rfl, rfl⟩, rfl, rfl, (by first | exact Or.inl rfl | exact Or.inl trivial | trivial), (by first | rfl | trivial)⟩
        · simp only [if_neg k1, if_neg (kr_k1 hk0 k0 k1)]
          refine ⟨_, rfl, ⟨g1, g2, g3, Or.inr pk_us, g5, g6, g7, g8, g9⟩, fun i hi => ⟨rfl, rfl, pk_un hi, rfl, rfl, rfl⟩, rfl, rfl, (by first | exact Or.inl rfl | exact Or.inl trivial | trivial), (by first | rfl | trivial)⟩
theorem rl_fault {t : Nat} {mm : kt_M} {ops : Nat → kt_Op} {fl : kt_Ln} {tl : kt_Ln} {dk : kt_Dr} {co : kt_Dr} {fr : kt_Rq} {tr : kt_Rq} {ca : kt_Ca} {dv : Nat → Int32} {po : Nat → Int32} {mi : kt_I} {w : kt_W} {e : kt_E} {y : kt_Ca} {dw : Nat → Int32} {pw : Nat → Int32} {u : Int32} {b : Int32} {r1 r2 : Int32} {dk' : kt_Dr} {co' : kt_Dr} {e' : kt_E} (h : kr t mm ops fl tl dk co fr tr ca dv po mi w e y dw pw) (ht : t < 512) (h1 : (r1, dk', co') = f_RD_fault mm dk co u b) (h2 : (r2, e') = f_Md_fault mi e u b) : r1 = r2 ∧ kr (t + 1) mm ops fl tl dk' co' fr tr ca dv po mi w e' y dw pw := by
  have h0 := h
  obtain ⟨hi, ho, hf, hg, hd, hc, hq, hr, hy, e12⟩ := h
  have same : (r1, dk', co') = (0, dk, co) → (r2, e') = (0, e) → r1 = r2 ∧ kr (t + 1) mm ops fl tl dk' co' fr tr ca dv po mi w e' y dw pw := by
    intro x1 x2
    simp only [Prod.mk.injEq] at x1 x2
    obtain ⟨rfl, rfl, rfl⟩ := x1
    obtain ⟨rfl, rfl⟩ := x2
    exact ⟨rfl, rl_skip h0⟩
  have bad : ∀ x : Int32, f_RD_isDriver x = 0 → (r1, dk', co') = f_RD_fault mm dk co x b → (r1, dk', co') = (0, dk, co) := by
    intro x hx hh
    rw [hh]
    unfold f_RD_fault
    rw [hx]
    rfl
  by_cases a1 : u < 0
  · refine same (bad u (kr_nd0 (kr_n0 a1)) h1) ?_
    rw [h2]
    unfold f_Md_fault
    rw [if_pos a1]
  · by_cases a2 : 1 < u
    · refine same (bad u (kr_nd0 (kr_n1 (Int32.not_le.mpr a2))) h1) ?_
      rw [h2]
      unfold f_Md_fault
      rw [if_neg a1, if_pos a2]
    · by_cases b1 : b < 0
      · refine same ?_ ?_
        · rw [h1]
          unfold f_RD_fault
          dsimp only
          split
          · rfl
          · first | rfl | rw [if_pos b1]
        · rw [h2]
          unfold f_Md_fault
          rw [if_neg a1, if_neg a2, if_pos b1]
      · by_cases b2 : 3 < b
        · refine same ?_ ?_
          · rw [h1]
            unfold f_RD_fault
            dsimp only
            split
            · rfl
            · first | rfl | rw [if_neg b1, if_neg (Int32.not_le.mpr b2)] | (split <;> first | rfl | (exfalso; exact absurd ‹_› (Int32.not_le.mpr b2)) | (split <;> rfl))
          · rw [h2]
            unfold f_Md_fault
            rw [if_neg a1, if_neg a2, if_neg b1, if_pos b2]
        · rcases kr_01 u with rfl | rfl | q | ⟨q, q2⟩
          · obtain ⟨e9, y1, y2, y3, y4, y5, y6, y7⟩ := kr_flt (x := 0) (j := 0) mi rfl a1 a2 b1 b2 hd
            rw [y1] at h2
            have h3 : (r1, dk', co') = ((f_Dr_suffer dk b).1, (f_Dr_suffer dk b).2, co) := by
              rw [h1]
              unfold f_RD_fault
              rw [show f_RD_isDriver 0 = 1 by decide]
              dsimp only
              rw [if_neg (show ¬ (1 : Int32) = 0 by decide), if_neg b1, if_pos (Int32.not_lt.mp b2), if_pos rfl]
            simp only [Prod.mk.injEq] at h2 h3
            obtain ⟨rfl, rfl⟩ := h2
            obtain ⟨rfl, rfl, rfl⟩ := h3
            refine ⟨rfl, hi.up, ho, hf, hg, y2, y3.d (by decide) hc, ?_, ?_, hy.up, e12⟩
            · unfold kr_f
              rw [y4, y5, y7]
              refine ⟨hq.1, hq.2.1, fun z => ?_, hq.2.2.2⟩
              rcases y6 with y6 | y6
              · rw [y6] at z
                exact hq.2.2.1 z
              · exact absurd y6 z
            · unfold kr_t
              rw [y4, y5]
              exact hr
          · obtain ⟨e9, y1, y2, y3, y4, y5, y6, y7⟩ := kr_flt (x := 1) (j := 1) mi rfl a1 a2 b1 b2 hc
            rw [y1] at h2
            have h3 : (r1, dk', co') = ((f_Dr_suffer co b).1, dk, (f_Dr_suffer co b).2) := by
              rw [h1]
              unfold f_RD_fault
              rw [show f_RD_isDriver 1 = 1 by decide]
              dsimp only
              rw [if_neg (show ¬ (1 : Int32) = 0 by decide), if_neg b1, if_pos (Int32.not_lt.mp b2), if_neg (show ¬ (1 : Int32) = 0 by decide)]
            simp only [Prod.mk.injEq] at h2 h3
            obtain ⟨rfl, rfl⟩ := h2
            obtain ⟨rfl, rfl, rfl⟩ := h3
            refine ⟨rfl, hi.up, ho, hf, hg, y3.d (by decide) hd, y2, ?_, ?_, hy.up, e12⟩
            · unfold kr_f
              rw [y4, y5]
              exact hq
            · unfold kr_t
              rw [y4, y5, y7]
              refine ⟨fun z => ?_, hr.2⟩
              rcases y6 with y6 | y6
              · rw [y6] at z
                exact hr.1 z
              · exact absurd y6 z
          · exact absurd q a1
          · exact absurd (Int32.not_lt.mp a2) q2
