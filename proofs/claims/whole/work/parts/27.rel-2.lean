theorem kr_le {u N M : Int32} {n : Nat} (hN : N.toInt = n + 1) (hM : M.toInt = n) (h : N ≤ u) : ¬ u ≤ M := by
  rw [Int32.le_iff_toInt_le] at h ⊢
  omega
theorem kr_nle {u N M : Int32} {n : Nat} (hN : N.toInt = n + 1) (hM : M.toInt = n) (h : ¬ N ≤ u) : u ≤ M := by
  rw [Int32.le_iff_toInt_le] at h ⊢
  omega
theorem kr_43 {u : Int32} (h : 4 ≤ u) : ¬ u ≤ 3 := kr_le (N := 4) (M := 3) (n := 3) rfl rfl h
theorem kr_34 {u : Int32} (h : ¬ 4 ≤ u) : u ≤ 3 := kr_nle (N := 4) (M := 3) (n := 3) rfl rfl h

theorem rl_pre {t : Nat} {mm : kt_M} {ops : Nat → kt_Op} {fl : kt_Ln} {tl : kt_Ln} {dk : kt_Dr} {co : kt_Dr} {fr : kt_Rq} {tr : kt_Rq} {ca : kt_Ca} {dv : Nat → Int32} {po : Nat → Int32} {mi : kt_I} {w : kt_W} {e : kt_E} {y : kt_Ca} {dw : Nat → Int32} {pw : Nat → Int32} (h : kr t mm ops fl tl dk co fr tr ca dv po mi w e y dw pw) : 0 ≤ fl.2 ∧ 0 ≤ tl.2 ∧ kv_ol mm ∧ ¬ 200 < mi.2.2.2.1 := by
  obtain ⟨hi, ho, hf, hg, -⟩ := h
  refine ⟨hf.ln.ge, hg.ln.ge, hi.2.2.2.1, ?_⟩
  rw [← hi.2.2.1]
  exact hi.2.2.2.1.2
theorem rl_skip {t : Nat} {mm : kt_M} {ops : Nat → kt_Op} {fl : kt_Ln} {tl : kt_Ln} {dk : kt_Dr} {co : kt_Dr} {fr : kt_Rq} {tr : kt_Rq} {ca : kt_Ca} {dv : Nat → Int32} {po : Nat → Int32} {mi : kt_I} {w : kt_W} {e : kt_E} {y : kt_Ca} {dw : Nat → Int32} {pw : Nat → Int32} (h : kr t mm ops fl tl dk co fr tr ca dv po mi w e y dw pw) : kr (t + 1) mm ops fl tl dk co fr tr ca dv po mi w e y dw pw := by
  obtain ⟨hi, ho, hf, hg, hd, hc, hq, hr, hy, e12⟩ := h
  exact ⟨hi.up, ho, hf, hg, hd, hc, hq, hr, hy.up, e12⟩
theorem rl_tc {t : Nat} {mm : kt_M} {ops : Nat → kt_Op} {fl : kt_Ln} {tl : kt_Ln} {dk : kt_Dr} {co : kt_Dr} {fr : kt_Rq} {tr : kt_Rq} {ca : kt_Ca} {dv : Nat → Int32} {po : Nat → Int32} {mi : kt_I} {w : kt_W} {e : kt_E} {y : kt_Ca} {dw : Nat → Int32} {pw : Nat → Int32} (h : kr t mm ops fl tl dk co fr tr ca dv po mi w e y dw pw) (ht : t < 512) : ¬ mm.1 = 0 ∧ kv_ol mm ∧ kv_fr fr ∧ kv_ln fl ∧ kv_ln tl ∧ (¬ tr.1 = 0 → ¬ tl.2 = 0) := by
  obtain ⟨hi, ho, hf, hg, hd, hc, hq, hr, hy, e12⟩ := h
  refine ⟨hi.2.1, hi.2.2.2.1, hq.1, hf.ln, hg.ln, fun h0 => ?_⟩
  rcases hr.2 with h1 | h1
  · exact absurd h1.1 h0
  · exact h1.2.2.1
theorem rl_state {t : Nat} {mm : kt_M} {ops : Nat → kt_Op} {fl : kt_Ln} {tl : kt_Ln} {dk : kt_Dr} {co : kt_Dr} {fr : kt_Rq} {tr : kt_Rq} {ca : kt_Ca} {dv : Nat → Int32} {po : Nat → Int32} {mi : kt_I} {w : kt_W} {e : kt_E} {y : kt_Ca} {dw : Nat → Int32} {pw : Nat → Int32} {u : Int32} {r1 r2 : Int32}  (h : kr t mm ops fl tl dk co fr tr ca dv po mi w e y dw pw) (ht : t < 512) (h1 : r1 = f_RD_state mm ops u) (h2 : r2 = f_Md_state mi w u) : r1 = r2 ∧ kr (t + 1) mm ops fl tl dk co fr tr ca dv po mi w e y dw pw := by
  refine ⟨?_, rl_skip h⟩
  rw [h1, h2]
  unfold f_RD_state f_Md_state f_RD_isUser
  dsimp only
  by_cases a1 : u < 0
  · simp only [if_pos a1, if_true]
  · by_cases a2 : 4 ≤ u
    · have a3 : ¬ u ≤ 3 := kr_43 a2
      simp only [if_neg a1, if_pos a2, if_neg a3, if_true]
    · have a3 : u ≤ 3 := kr_34 a2
      simp only [if_neg a1, if_neg a2, if_pos a3, if_neg (show ¬ (1 : Int32) = 0 by decide)]
      exact (h.2.1 _ (kx_lt (kx_i2 (N := 4) rfl a1 a2))).1.symm
theorem rl_result {t : Nat} {mm : kt_M} {ops : Nat → kt_Op} {fl : kt_Ln} {tl : kt_Ln} {dk : kt_Dr} {co : kt_Dr} {fr : kt_Rq} {tr : kt_Rq} {ca : kt_Ca} {dv : Nat → Int32} {po : Nat → Int32} {mi : kt_I} {w : kt_W} {e : kt_E} {y : kt_Ca} {dw : Nat → Int32} {pw : Nat → Int32} {u : Int32} {r1 r2 : Int32}  (h : kr t mm ops fl tl dk co fr tr ca dv po mi w e y dw pw) (ht : t < 512) (h1 : r1 = f_RD_result mm ops u) (h2 : r2 = f_Md_result mi w u) : r1 = r2 ∧ kr (t + 1) mm ops fl tl dk co fr tr ca dv po mi w e y dw pw := by
  refine ⟨?_, rl_skip h⟩
  rw [h1, h2]
  unfold f_RD_result f_Md_result f_RD_isUser
  dsimp only
  by_cases a1 : u < 0
  · simp only [if_pos a1, if_true]
  · by_cases a2 : 4 ≤ u
    · have a3 : ¬ u ≤ 3 := kr_43 a2
      simp only [if_neg a1, if_pos a2, if_neg a3, if_true]
    · have a3 : u ≤ 3 := kr_34 a2
      simp only [if_neg a1, if_neg a2, if_pos a3, if_neg (show ¬ (1 : Int32) = 0 by decide)]
      exact (h.2.1 _ (kx_lt (kx_i2 (N := 4) rfl a1 a2))).2.1.symm
theorem rl_device {t : Nat} {mm : kt_M} {ops : Nat → kt_Op} {fl : kt_Ln} {tl : kt_Ln} {dk : kt_Dr} {co : kt_Dr} {fr : kt_Rq} {tr : kt_Rq} {ca : kt_Ca} {dv : Nat → Int32} {po : Nat → Int32} {mi : kt_I} {w : kt_W} {e : kt_E} {y : kt_Ca} {dw : Nat → Int32} {pw : Nat → Int32} {u : Int32} {r1 r2 : Int32}  (h : kr t mm ops fl tl dk co fr tr ca dv po mi w e y dw pw) (ht : t < 512) (h1 : r1 = f_RD_device mm dv u) (h2 : r2 = f_Md_device mi dw u) : r1 = r2 ∧ kr (t + 1) mm ops fl tl dk co fr tr ca dv po mi w e y dw pw := by
  refine ⟨?_, rl_skip h⟩
  rw [h1, h2]
  have e1 : dv = dw := h.2.2.2.2.2.2.2.2.2.1
  subst e1
  unfold f_RD_device f_Md_device f_RD_isBlock
  dsimp only
  by_cases a1 : u < 0
  · simp only [if_pos a1, if_true]
  · by_cases a2 : 16 ≤ u
    · have a3 : ¬ u ≤ 15 := kr_le (N := 16) (M := 15) rfl rfl a2
      simp only [if_neg a1, if_pos a2, if_neg a3, if_true]
    · have a3 : u ≤ 15 := kr_nle (N := 16) (M := 15) rfl rfl a2
      simp only [if_neg a1, if_neg a2, if_pos a3, if_neg (show ¬ (1 : Int32) = 0 by decide)]
theorem rl_now {t : Nat} {mm : kt_M} {ops : Nat → kt_Op} {fl : kt_Ln} {tl : kt_Ln} {dk : kt_Dr} {co : kt_Dr} {fr : kt_Rq} {tr : kt_Rq} {ca : kt_Ca} {dv : Nat → Int32} {po : Nat → Int32} {mi : kt_I} {w : kt_W} {e : kt_E} {y : kt_Ca} {dw : Nat → Int32} {pw : Nat → Int32}  {r1 r2 : Int32}  (h : kr t mm ops fl tl dk co fr tr ca dv po mi w e y dw pw) (ht : t < 512) (h1 : r1 = f_RD_now mm) (h2 : r2 = f_Md_now mi) : r1 = r2 ∧ kr (t + 1) mm ops fl tl dk co fr tr ca dv po mi w e y dw pw := by
  refine ⟨?_, rl_skip h⟩
  rw [h1, h2]
  exact h.1.2.2.2.2.2.1
