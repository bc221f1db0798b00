theorem kr_01 (d : Int32) : d = 0 ∨ d = 1 ∨ d < 0 ∨ (¬ d < 0 ∧ ¬ d ≤ 1) := by
  by_cases a1 : d < 0
  · exact Or.inr (Or.inr (Or.inl a1))
  · by_cases a2 : d ≤ 1
    · have b1 := a1
      have b2 := a2
      rw [Int32.lt_iff_toInt_lt, show (0 : Int32).toInt = 0 from rfl] at b1
      rw [Int32.le_iff_toInt_le, show (1 : Int32).toInt = 1 from rfl] at b2
      rcases (show d.toInt = 0 ∨ d.toInt = 1 by omega) with h | h
      · exact Or.inl (Int32.toInt_inj.mp (h.trans (show (0 : Int) = (0 : Int32).toInt from rfl)))
      · exact Or.inr (Or.inl (Int32.toInt_inj.mp (h.trans (show (1 : Int) = (1 : Int32).toInt from rfl))))
    · exact Or.inr (Or.inr (Or.inr ⟨a1, a2⟩))
theorem kr_n0 {d : Int32} (h : d < 0) : ¬ d = 0 ∧ ¬ d = 1 := ⟨fun e => by subst e; exact absurd h (by decide), fun e => by subst e; exact absurd h (by decide)⟩
theorem kr_n1 {d : Int32} (h : ¬ d ≤ 1) : ¬ d = 0 ∧ ¬ d = 1 := ⟨fun e => by subst e; exact h (by decide), fun e => by subst e; exact h (by decide)⟩
theorem kr_nd0 {d : Int32} (h : ¬ d = 0 ∧ ¬ d = 1) : f_RD_isDriver d = 0 := by
  unfold f_RD_isDriver
  rw [if_neg h.1, if_neg h.2]
theorem kr_drv {d : kt_Dr} {e : kt_E} {j : Nat} (h : kr_d d e j) (k : Int32) : (if k = 0 then d.1 else if k = 1 then d.2.1 else if k = 2 then d.2.2.1 else if k = 3 then d.2.2.2.2.2 else if k = 4 then (if d.2.2.2.1 = 0 then (0 : Int32) else 1) else (-2)) = (if k = 0 then e.1 j else if k = 1 then e.2.1 j else if k = 2 then e.2.2.2.1 j else if k = 3 then e.2.2.2.2.1 j else if k = 4 then (if e.2.2.2.2.2.1 j = 0 then (1 : Int32) else 0) else (-2)) := by
  obtain ⟨g1, g2, -, -, g5, -, -, g8, g9⟩ := h
  rw [g1, g2, g5, g8]
  rcases g9 with ⟨x1, x2⟩ | ⟨x1, x2⟩
  · rw [if_pos x1, x2, if_neg (show ¬ (1 : Int32) = 0 by decide)]
  · rw [x1, if_neg (show ¬ (1 : Int32) = 0 by decide), if_pos x2]
theorem kr_rd0 (mm : kt_M) (dk co : kt_Dr) (k : Int32) : f_RD_driver mm dk co 0 k = (if k = 0 then dk.1 else if k = 1 then dk.2.1 else if k = 2 then dk.2.2.1 else if k = 3 then dk.2.2.2.2.2 else if k = 4 then (if dk.2.2.2.1 = 0 then (0 : Int32) else 1) else (-2)) := by
  unfold f_RD_driver
  rw [show f_RD_isDriver 0 = 1 by decide]
  dsimp only
  rw [if_neg (show ¬ (1 : Int32) = 0 by decide), if_pos rfl]
theorem kr_rd1 (mm : kt_M) (dk co : kt_Dr) (k : Int32) : f_RD_driver mm dk co 1 k = (if k = 0 then co.1 else if k = 1 then co.2.1 else if k = 2 then co.2.2.1 else if k = 3 then co.2.2.2.2.2 else if k = 4 then (if co.2.2.2.1 = 0 then (0 : Int32) else 1) else (-2)) := by
  unfold f_RD_driver
  rw [show f_RD_isDriver 1 = 1 by decide]
  dsimp only
  rw [if_neg (show ¬ (1 : Int32) = 0 by decide), if_neg (show ¬ (1 : Int32) = 0 by decide)]
theorem kr_pg {q : kt_Rq} {x : Int32} (h : (q.1 = 0 ∧ x = 0) ∨ (¬ q.1 = 0 ∧ ((q.2.2.2.2.1 = 0 ∧ x = 1) ∨ (q.2.2.2.2.1 = 1 ∧ x = 2)))) : f_Rq_progress q = x := by
  unfold f_Rq_progress f_Rq_isOpen
  dsimp only
  rcases h with ⟨a, b⟩ | ⟨a, ⟨b, c⟩ | ⟨b, c⟩⟩
  · rw [if_pos a, if_pos rfl, b]
  · rw [if_neg a, if_neg (show ¬ (1 : Int32) = 0 by decide), if_pos b, c]
  · rw [if_neg a, if_neg (show ¬ (1 : Int32) = 0 by decide), b, if_neg (show ¬ (1 : Int32) = 0 by decide), c]

theorem rl_driver {t : Nat} {mm : kt_M} {ops : Nat → kt_Op} {fl : kt_Ln} {tl : kt_Ln} {dk : kt_Dr} {co : kt_Dr} {fr : kt_Rq} {tr : kt_Rq} {ca : kt_Ca} {dv : Nat → Int32} {po : Nat → Int32} {mi : kt_I} {w : kt_W} {e : kt_E} {y : kt_Ca} {dw : Nat → Int32} {pw : Nat → Int32} {u : Int32} {b : Int32} {r1 r2 : Int32}  (h : kr t mm ops fl tl dk co fr tr ca dv po mi w e y dw pw) (ht : t < 512) (h1 : r1 = f_RD_driver mm dk co u b) (h2 : r2 = f_Md_driver mi e u b) : r1 = r2 ∧ kr (t + 1) mm ops fl tl dk co fr tr ca dv po mi w e y dw pw := by
  refine ⟨?_, rl_skip h⟩
  rw [h1, h2]
  obtain ⟨-, -, -, -, hd, hc, -⟩ := h
  rcases kr_01 u with rfl | rfl | a1 | ⟨a1, a2⟩
  · rw [kr_rd0, kr_drv hd]
    unfold f_Md_driver
    rw [if_neg (show ¬ (0 : Int32) < 0 by decide), if_pos (show (0 : Int32) ≤ 1 by decide)]
    rfl
  · rw [kr_rd1, kr_drv hc]
    unfold f_Md_driver
    rw [if_neg (show ¬ (1 : Int32) < 0 by decide), if_pos (show (1 : Int32) ≤ 1 by decide)]
    rfl
  · unfold f_RD_driver f_Md_driver
    rw [kr_nd0 (kr_n0 a1), if_pos a1]
    rfl
  · unfold f_RD_driver f_Md_driver
    rw [kr_nd0 (kr_n1 a2), if_neg a1, if_neg a2]
    rfl
theorem rl_request {t : Nat} {mm : kt_M} {ops : Nat → kt_Op} {fl : kt_Ln} {tl : kt_Ln} {dk : kt_Dr} {co : kt_Dr} {fr : kt_Rq} {tr : kt_Rq} {ca : kt_Ca} {dv : Nat → Int32} {po : Nat → Int32} {mi : kt_I} {w : kt_W} {e : kt_E} {y : kt_Ca} {dw : Nat → Int32} {pw : Nat → Int32} {u : Int32} {r1 r2 : Int32}  (h : kr t mm ops fl tl dk co fr tr ca dv po mi w e y dw pw) (ht : t < 512) (h1 : r1 = f_RD_request mm fr tr u) (h2 : r2 = f_Md_request mi e u) : r1 = r2 ∧ kr (t + 1) mm ops fl tl dk co fr tr ca dv po mi w e y dw pw := by
  refine ⟨?_, rl_skip h⟩
  rw [h1, h2]
  obtain ⟨-, -, -, -, -, -, hf, ht', -⟩ := h
  unfold f_RD_request f_Md_request
  dsimp only
  rcases kr_01 u with rfl | rfl | a1 | ⟨a1, a2⟩
  · rw [if_pos rfl, if_neg (show ¬ (0 : Int32) < 0 by decide), if_pos (show (0 : Int32) ≤ 1 by decide)]
    refine kr_pg ?_
    rcases hf.2.2.2 with ⟨x1, x2⟩ | ⟨x1, -, -, x3, -⟩
    · exact Or.inl ⟨x1, x2⟩
    · refine Or.inr ⟨?_, ?_⟩
      · rcases x1 with x1 | x1 <;> (rw [x1]; decide)
      · rcases x3 with ⟨x4, x5⟩ | ⟨x4, x5, -⟩
        · exact Or.inl ⟨x4, x5⟩
        · exact Or.inr ⟨x4, x5⟩
  · rw [if_neg (show ¬ (1 : Int32) = 0 by decide), if_pos rfl, if_neg (show ¬ (1 : Int32) < 0 by decide), if_pos (show (1 : Int32) ≤ 1 by decide)]
    refine kr_pg ?_
    rcases ht'.2 with ⟨x1, x2⟩ | ⟨x1, -, -, -, x3⟩
    · exact Or.inl ⟨x1, x2⟩
    · refine Or.inr ⟨by rw [x1]; decide, ?_⟩
      rcases x3 with ⟨x4, x5⟩ | ⟨x4, x5, -⟩
      · exact Or.inl ⟨x4, x5⟩
      · exact Or.inr ⟨x4, x5⟩
  · rw [if_neg (kr_n0 a1).1, if_neg (kr_n0 a1).2, if_pos a1]
  · rw [if_neg (kr_n1 a2).1, if_neg (kr_n1 a2).2, if_neg a1, if_neg a2]
theorem rl_output {t : Nat} {mm : kt_M} {ops : Nat → kt_Op} {fl : kt_Ln} {tl : kt_Ln} {dk : kt_Dr} {co : kt_Dr} {fr : kt_Rq} {tr : kt_Rq} {ca : kt_Ca} {dv : Nat → Int32} {po : Nat → Int32} {mi : kt_I} {w : kt_W} {e : kt_E} {y : kt_Ca} {dw : Nat → Int32} {pw : Nat → Int32} {u : Int32} {r1 r2 : Int32}  (h : kr t mm ops fl tl dk co fr tr ca dv po mi w e y dw pw) (ht : t < 512) (h1 : r1 = f_RD_output mm po u) (h2 : r2 = f_Md_output mi pw u) : r1 = r2 ∧ kr (t + 1) mm ops fl tl dk co fr tr ca dv po mi w e y dw pw := by
  refine ⟨?_, rl_skip h⟩
  rw [h1, h2]
  have e1 : po = pw := h.2.2.2.2.2.2.2.2.2.2
  have e2 : mm.2.1 = mi.2.2.2.1 := h.1.2.2.1
  subst e1
  unfold f_RD_output f_Md_output
  rw [e2]
  by_cases a1 : u = -1
  · rw [if_pos a1, if_pos a1]
  · rw [if_neg a1, if_neg a1]
    by_cases a2 : u < 0
    · rw [if_pos a2, if_pos a2]
    · rw [if_neg a2, if_neg a2]
      by_cases a3 : mi.2.2.2.1 ≤ u
      · rw [if_pos a3, if_neg (Int32.not_lt.mpr a3)]
      · rw [if_neg a3, if_pos (Int32.not_le.mp a3)]
theorem rl_slot {t : Nat} {mm : kt_M} {ops : Nat → kt_Op} {fl : kt_Ln} {tl : kt_Ln} {dk : kt_Dr} {co : kt_Dr} {fr : kt_Rq} {tr : kt_Rq} {ca : kt_Ca} {dv : Nat → Int32} {po : Nat → Int32} {mi : kt_I} {w : kt_W} {e : kt_E} {y : kt_Ca} {dw : Nat → Int32} {pw : Nat → Int32} {u : Int32} {b : Int32} {r1 r2 : Int32}  (h : kr t mm ops fl tl dk co fr tr ca dv po mi w e y dw pw) (ht : t < 512) (h1 : r1 = f_RD_slot mm ca u b) (h2 : r2 = f_Md_slot mi y u b) : r1 = r2 ∧ kr (t + 1) mm ops fl tl dk co fr tr ca dv po mi w e y dw pw := by
  refine ⟨?_, rl_skip h⟩
  rw [h1, h2]
  obtain ⟨-, -, -, -, -, -, -, -, hc, -⟩ := h
  unfold f_RD_slot f_Md_slot
  by_cases a1 : u < 0
  · rw [if_pos a1, if_pos a1]
  · rw [if_neg a1, if_neg a1]
    by_cases a2 : 3 ≤ u
    · rw [if_neg (Int32.not_lt.mpr a2), if_neg (kr_le (N := 3) (M := 2) (n := 2) rfl rfl a2)]
    · rw [if_pos (Int32.not_le.mp a2), if_pos (kr_nle (N := 3) (M := 2) (n := 2) rfl rfl a2)]
      obtain ⟨g1, g2, g3, g4, g5, g6⟩ := hc.2.1 _ (kx_lt (kx_i2 (N := 3) rfl a1 a2))
      rw [g1, g4]
      rcases g2 with g2 | g2
      · rw [if_pos (show y.1 u.toNatClampNeg < 0 by rw [g2]; decide), if_pos g2, g6 g2, if_pos rfl]
      · have g7 : ¬ y.1 u.toNatClampNeg < 0 := fun q => g2 (Or.inl q)
        have g8 : ¬ y.1 u.toNatClampNeg = -1 := fun q => g7 (by rw [q]; decide)
        rw [if_neg g7, if_neg g8, g3 g8]
