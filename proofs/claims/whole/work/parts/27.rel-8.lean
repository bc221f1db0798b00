/-! read, write, sync, print -/
theorem kr_beg {ops : Nat → kt_Op} {w : kt_W} (mm : kt_M) (mi : kt_I) (h : ∀ u, u < 4 → kr_o (ops u) w u) (u : Int32) : (f_RD_isFree mm ops u = 0 ∧ ∀ k b v, f_Md_begin mi w u k b v = (0, mi, w)) ∨ ∃ j, j < 4 ∧ u = nI j ∧ f_RD_isFree mm ops u = 1 ∧ ¬ (ops j).2.2.2.2.1 = 1 ∧ ∀ k b v, f_Md_begin mi w u k b v = (1, (mi.1, mi.2.1, mi.2.2.1 + 1, mi.2.2.2.1, mi.2.2.2.2.1, mi.2.2.2.2.2.1, mi.2.2.2.2.2.2.1, mi.2.2.2.2.2.2.2.1, mi.2.2.2.2.2.2.2.2), (upd w.1 j k, upd w.2.1 j b, upd w.2.2.1 j v, upd w.2.2.2.1 j (mi.2.2.1 + 1), upd w.2.2.2.2.1 j 1, upd w.2.2.2.2.2.1 j 0, upd w.2.2.2.2.2.2 j 0)) := by
  by_cases a1 : u < 0
  · refine Or.inl ⟨?_, fun k b v => ?_⟩
    · unfold f_RD_isFree f_RD_isUser
      rw [if_pos a1]
      rfl
    · unfold f_Md_begin
      rw [if_pos a1]
  · by_cases a2 : 4 ≤ u
    · refine Or.inl ⟨?_, fun k b v => ?_⟩
      · unfold f_RD_isFree f_RD_isUser
        rw [if_neg a1, if_pos a2]
        rfl
      · unfold f_Md_begin
        rw [if_neg a1, if_pos (Int32.not_le.mp (kr_43 a2))]
    · obtain ⟨j, hj, rfl⟩ := vp_in_of (kx_i2 (N := 4) (n := 4) rfl a1 a2) (by decide)
      have a3 : ¬ 3 < nI j := Int32.not_lt.mpr (kr_34 a2)
      have ej : (nI j).toNatClampNeg = j := nI_clamp (by omega)
      have hs := (h j hj).1
      by_cases c : (ops j).2.2.2.2.1 = 1
      · refine Or.inl ⟨?_, fun k b v => ?_⟩
        · unfold f_RD_isFree f_RD_isUser
          rw [if_neg a1, if_neg a2, ej]
          dsimp only
          rw [if_neg (show ¬ (1 : Int32) = 0 by decide), if_pos c]
        · unfold f_Md_begin
          rw [if_neg a1, if_neg a3, ej, if_pos (hs.trans c)]
      · refine Or.inr ⟨j, hj, rfl, ?_, c, fun k b v => ?_⟩
        · unfold f_RD_isFree f_RD_isUser
          rw [if_neg a1, if_neg a2, ej]
          dsimp only
          rw [if_neg (show ¬ (1 : Int32) = 0 by decide), if_neg c]
        · unfold f_Md_begin
          rw [if_neg a1, if_neg a3, ej, if_neg (by rw [hs]; exact c)]
theorem kr_blk (b : Int32) : (f_RD_isBlock b = 0 ∧ (b < 0 ∨ (¬ b < 0 ∧ 15 < b))) ∨ (f_RD_isBlock b = 1 ∧ ¬ b < 0 ∧ ¬ 15 < b ∧ vp_in b 16) := by
  unfold f_RD_isBlock
  by_cases a1 : b < 0
  · exact Or.inl ⟨by rw [if_pos a1], Or.inl a1⟩
  · by_cases a2 : 16 ≤ b
    · exact Or.inl ⟨by rw [if_neg a1, if_pos a2], Or.inr ⟨a1, Int32.not_le.mp (kr_le (N := 16) (M := 15) (n := 15) rfl rfl a2)⟩⟩
    · exact Or.inr ⟨by rw [if_neg a1, if_neg a2], a1, Int32.not_lt.mpr (kr_nle (N := 16) (M := 15) (n := 15) rfl rfl a2), kx_i2 (N := 16) rfl a1 a2⟩
theorem rl_read {t : Nat} {mm : kt_M} {ops : Nat → kt_Op} {fl : kt_Ln} {tl : kt_Ln} {dk : kt_Dr} {co : kt_Dr} {fr : kt_Rq} {tr : kt_Rq} {ca : kt_Ca} {dv : Nat → Int32} {po : Nat → Int32} {mi : kt_I} {w : kt_W} {e : kt_E} {y : kt_Ca} {dw : Nat → Int32} {pw : Nat → Int32} {u : Int32} {b : Int32} {r1 r2 : Int32} {ops' : Nat → kt_Op} {fl' : kt_Ln} {mi' : kt_I} {w' : kt_W} (h : kr t mm ops fl tl dk co fr tr ca dv po mi w e y dw pw) (ht : t < 512) (h1 : (r1, ops', fl') = f_RD_read mm ops fl u b) (h2 : (r2, mi', w') = f_Md_read mi w u b) : r1 = r2 ∧ kr (t + 1) mm ops' fl' tl dk co fr tr ca dv po mi' w' e y dw pw := by
  have h0 := h
  have ho := h.2.1
  have same : (r1, ops', fl') = (0, ops, fl) → (r2, mi', w') = (0, mi, w) → r1 = r2 ∧ kr (t + 1) mm ops' fl' tl dk co fr tr ca dv po mi' w' e y dw pw := by
    intro x1 x2
    simp only [Prod.mk.injEq] at x1 x2
    obtain ⟨rfl, rfl, rfl⟩ := x1
    obtain ⟨rfl, rfl, rfl⟩ := x2
    exact ⟨rfl, rl_skip h0⟩
  unfold f_RD_read at h1
  unfold f_Md_read at h2
  dsimp only at h1
  rcases kr_blk b with ⟨c1, c2⟩ | ⟨c1, c2, c3, c4⟩
  · refine same ?_ ?_
    · rw [h1, c1]
      split <;> rfl
    · rcases c2 with c2 | ⟨c2, c3⟩
      · rw [h2, if_pos c2]
      · rw [h2, if_neg c2, if_pos c3]
  · rw [if_neg c2, if_neg c3] at h2
    rcases kr_beg mm mi ho u with ⟨d1, d2⟩ | ⟨j, hj, rfl, d1, d2, d3⟩
    · refine same ?_ ?_
      · rw [h1, d1, if_pos rfl]
      · rw [h2, d2]
        rfl
    · rw [d1, c1, if_neg (show ¬ (1 : Int32) = 0 by decide), if_neg (show ¬ (1 : Int32) = 0 by decide), nI_clamp (by omega)] at h1
      rw [d3] at h2
      dsimp only at h2
      rw [if_neg (show ¬ (1 : Int32) = 0 by decide)] at h2
      unfold f_Op_begin at h1
      simp only [Prod.mk.injEq] at h1 h2
      obtain ⟨rfl, rfl, rfl⟩ := h1
      obtain ⟨rfl, rfl, rfl⟩ := h2
      have h9 := kr_bf (k := 0) (b := b) (b' := b) (v := 0) h0 ht hj d2 (by decide) (fun _ => ⟨rfl, c4⟩)
      rw [show (0 : Int32) + 1 = 1 by decide] at h9
      exact ⟨rfl, h9⟩
theorem rl_write {t : Nat} {mm : kt_M} {ops : Nat → kt_Op} {fl : kt_Ln} {tl : kt_Ln} {dk : kt_Dr} {co : kt_Dr} {fr : kt_Rq} {tr : kt_Rq} {ca : kt_Ca} {dv : Nat → Int32} {po : Nat → Int32} {mi : kt_I} {w : kt_W} {e : kt_E} {y : kt_Ca} {dw : Nat → Int32} {pw : Nat → Int32} {u : Int32} {b : Int32} {v : Int32} {r1 r2 : Int32} {ops' : Nat → kt_Op} {fl' : kt_Ln} {mi' : kt_I} {w' : kt_W} (h : kr t mm ops fl tl dk co fr tr ca dv po mi w e y dw pw) (ht : t < 512) (h1 : (r1, ops', fl') = f_RD_write mm ops fl u b v) (h2 : (r2, mi', w') = f_Md_write mi w u b v) : r1 = r2 ∧ kr (t + 1) mm ops' fl' tl dk co fr tr ca dv po mi' w' e y dw pw := by
  have h0 := h
  have ho := h.2.1
  have same : (r1, ops', fl') = (0, ops, fl) → (r2, mi', w') = (0, mi, w) → r1 = r2 ∧ kr (t + 1) mm ops' fl' tl dk co fr tr ca dv po mi' w' e y dw pw := by
    intro x1 x2
    simp only [Prod.mk.injEq] at x1 x2
    obtain ⟨rfl, rfl, rfl⟩ := x1
    obtain ⟨rfl, rfl, rfl⟩ := x2
    exact ⟨rfl, rl_skip h0⟩
  unfold f_RD_write at h1
  unfold f_Md_write at h2
  dsimp only at h1
  rcases kr_blk b with ⟨c1, c2⟩ | ⟨c1, c2, c3, c4⟩
  · refine same ?_ ?_
    · rw [h1, c1]
      split <;> rfl
    · rcases c2 with c2 | ⟨c2, c3⟩
      · rw [h2, if_pos c2]
      · rw [h2, if_neg c2, if_pos c3]
  · rw [if_neg c2, if_neg c3] at h2
    rcases kr_beg mm mi ho u with ⟨d1, d2⟩ | ⟨j, hj, rfl, d1, d2, d3⟩
    · refine same ?_ ?_
      · rw [h1, d1, if_pos rfl]
      · rw [h2, d2]
        rfl
    · rw [d1, c1, if_neg (show ¬ (1 : Int32) = 0 by decide), if_neg (show ¬ (1 : Int32) = 0 by decide), nI_clamp (by omega)] at h1
      rw [d3] at h2
      dsimp only at h2
      rw [if_neg (show ¬ (1 : Int32) = 0 by decide)] at h2
      unfold f_Op_begin at h1
      simp only [Prod.mk.injEq] at h1 h2
      obtain ⟨rfl, rfl, rfl⟩ := h1
      obtain ⟨rfl, rfl, rfl⟩ := h2
      have h9 := kr_bf (k := 1) (b := b) (b' := b) (v := v) h0 ht hj d2 (by decide) (fun _ => ⟨rfl, c4⟩)
      rw [show (1 : Int32) + 1 = 2 by decide] at h9
      exact ⟨rfl, h9⟩
theorem rl_sync {t : Nat} {mm : kt_M} {ops : Nat → kt_Op} {fl : kt_Ln} {tl : kt_Ln} {dk : kt_Dr} {co : kt_Dr} {fr : kt_Rq} {tr : kt_Rq} {ca : kt_Ca} {dv : Nat → Int32} {po : Nat → Int32} {mi : kt_I} {w : kt_W} {e : kt_E} {y : kt_Ca} {dw : Nat → Int32} {pw : Nat → Int32} {u : Int32} {r1 r2 : Int32} {ops' : Nat → kt_Op} {fl' : kt_Ln} {mi' : kt_I} {w' : kt_W} (h : kr t mm ops fl tl dk co fr tr ca dv po mi w e y dw pw) (ht : t < 512) (h1 : (r1, ops', fl') = f_RD_sync mm ops fl u) (h2 : (r2, mi', w') = f_Md_sync mi w u) : r1 = r2 ∧ kr (t + 1) mm ops' fl' tl dk co fr tr ca dv po mi' w' e y dw pw := by
  have h0 := h
  have ho := h.2.1
  unfold f_RD_sync at h1
  unfold f_Md_sync at h2
  dsimp only at h1
  rcases kr_beg mm mi ho u with ⟨d1, d2⟩ | ⟨j, hj, rfl, d1, d2, d3⟩
  · rw [d1, if_pos rfl] at h1
    rw [d2] at h2
    simp only [Prod.mk.injEq] at h1 h2
    obtain ⟨rfl, rfl, rfl⟩ := h1
    obtain ⟨rfl, rfl, rfl⟩ := h2
    exact ⟨rfl, rl_skip h0⟩
  · rw [d1, if_neg (show ¬ (1 : Int32) = 0 by decide), nI_clamp (by omega)] at h1
    rw [d3] at h2
    unfold f_Op_begin at h1
    simp only [Prod.mk.injEq] at h1 h2
    obtain ⟨rfl, rfl, rfl⟩ := h1
    obtain ⟨rfl, rfl, rfl⟩ := h2
    have h9 := kr_bf (k := 2) (b := -1) (b' := 0) (v := 0) h0 ht hj d2 (by decide) (fun q => by rcases q with q | q <;> exact absurd q (by decide))
    rw [show (2 : Int32) + 1 = 3 by decide] at h9
    exact ⟨rfl, h9⟩
theorem rl_print {t : Nat} {mm : kt_M} {ops : Nat → kt_Op} {fl : kt_Ln} {tl : kt_Ln} {dk : kt_Dr} {co : kt_Dr} {fr : kt_Rq} {tr : kt_Rq} {ca : kt_Ca} {dv : Nat → Int32} {po : Nat → Int32} {mi : kt_I} {w : kt_W} {e : kt_E} {y : kt_Ca} {dw : Nat → Int32} {pw : Nat → Int32} {u : Int32} {b : Int32} {r1 r2 : Int32} {ops' : Nat → kt_Op} {tl' : kt_Ln} {mi' : kt_I} {w' : kt_W} (h : kr t mm ops fl tl dk co fr tr ca dv po mi w e y dw pw) (ht : t < 512) (h1 : (r1, ops', tl') = f_RD_print mm ops tl u b) (h2 : (r2, mi', w') = f_Md_print mi w u b) : r1 = r2 ∧ kr (t + 1) mm ops' fl tl' dk co fr tr ca dv po mi' w' e y dw pw := by
  have h0 := h
  have ho := h.2.1
  have same : (r1, ops', tl') = (0, ops, tl) → (r2, mi', w') = (0, mi, w) → r1 = r2 ∧ kr (t + 1) mm ops' fl tl' dk co fr tr ca dv po mi' w' e y dw pw := by
    intro x1 x2
    simp only [Prod.mk.injEq] at x1 x2
    obtain ⟨rfl, rfl, rfl⟩ := x1
    obtain ⟨rfl, rfl, rfl⟩ := x2
    exact ⟨rfl, rl_skip h0⟩
  unfold f_RD_print at h1
  unfold f_Md_print at h2
  dsimp only at h1
  by_cases c1 : b < 32
  · refine same ?_ ?_
    · rw [h1, if_pos c1]
      split <;> rfl
    · rw [h2, if_pos c1]
  · by_cases c2 : 126 < b
    · refine same ?_ ?_
      · rw [h1, if_neg c1, if_neg (Int32.not_le.mpr c2)]
        split <;> rfl
      · rw [h2, if_neg c1, if_pos c2]
    · rw [if_neg c1, if_neg c2] at h2
      rw [if_neg c1, if_pos (Int32.not_lt.mp c2)] at h1
      rcases kr_beg mm mi ho u with ⟨d1, d2⟩ | ⟨j, hj, rfl, d1, d2, d3⟩
      · refine same ?_ ?_
        · rw [h1, d1, if_pos rfl]
        · rw [h2, d2]
          rfl
      · rw [d1, if_neg (show ¬ (1 : Int32) = 0 by decide), nI_clamp (by omega)] at h1
        rw [d3] at h2
        dsimp only at h2
        rw [if_neg (show ¬ (1 : Int32) = 0 by decide)] at h2
        unfold f_Op_begin at h1
        simp only [Prod.mk.injEq] at h1 h2
        obtain ⟨rfl, rfl, rfl⟩ := h1
        obtain ⟨rfl, rfl, rfl⟩ := h2
        have h9 := kr_bp (b := -1) (b' := 0) (v := b) h0 ht hj d2
        rw [show (3 : Int32) + 1 = 4 by decide] at h9
        exact ⟨rfl, h9⟩
