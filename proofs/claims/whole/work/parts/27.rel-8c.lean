/-! the cache: which slot -/
theorem kr_find {mi : kt_I} {ca y : kt_Ca} {b : Int32} (h : ∀ i, i < 3 → ca.1 i = y.1 i) (hd : ∀ i j, i < 3 → j < 3 → i ≠ j → y.1 i = y.1 j → y.1 i = -1) (hb : ¬ b = -1) : f_Ca_find ca b = f_Md_slotWith mi y b := by
  have d : ∀ i j, i < 3 → j < 3 → i ≠ j → y.1 i = b → y.1 j = b → False := fun i j hi hj hij e1 e2 => hb (by rw [← e1]; exact hd i j hi hj hij (e1.trans e2.symm))
  unfold f_Ca_find f_Md_slotWith
  rw [h 0 (by decide), h 1 (by decide), h 2 (by decide)]
  by_cases a0 : y.1 0 = b
  · have a1 : ¬ y.1 1 = b := fun q => d 0 1 (by decide) (by decide) (by decide) a0 q
    have a2 : ¬ y.1 2 = b := fun q => d 0 2 (by decide) (by decide) (by decide) a0 q
    rw [if_pos a0, if_pos a0, if_neg a1, if_neg a2]
  · rw [if_neg a0, if_neg a0]
    by_cases a1 : y.1 1 = b
    · have a2 : ¬ y.1 2 = b := fun q => d 1 2 (by decide) (by decide) (by decide) a1 q
      rw [if_pos a1, if_pos a1, if_neg a2]
    · rw [if_neg a1, if_neg a1]
theorem kr_stf {mi : kt_I} {ca y : kt_Ca} (h : ∀ i, i < 3 → ca.1 i = y.1 i) (hr : ∀ i, i < 3 → y.1 i = -1 ∨ vp_in (y.1 i) 16) (hu : ∀ i j, i < 3 → j < 3 → (ca.2.2.2 i < ca.2.2.2 j ↔ y.2.2.2 i < y.2.2.2 j)) : f_Ca_slotToFill ca = f_Md_slotToTake mi y := by
  have n : ∀ i, i < 3 → (y.1 i < 0 ↔ y.1 i = -1) := fun i hi => by
    rcases hr i hi with e | e
    · rw [e]
      decide
    · exact ⟨fun q => absurd (Or.inl q) e, fun q => by rw [q]; decide⟩
  have l : ∀ i j, i < 3 → j < 3 → (ca.2.2.2 i ≤ ca.2.2.2 j ↔ y.2.2.2 i ≤ y.2.2.2 j) := fun i j hi hj => by
    rw [← Int32.not_lt, ← Int32.not_lt]
    exact not_congr (hu j i hj hi)
  unfold f_Ca_slotToFill f_Ca_find f_Md_slotToTake
  dsimp only
  rw [h 0 (by decide), h 1 (by decide), h 2 (by decide)]
  simp only [n 0 (by decide), n 1 (by decide), n 2 (by decide), l 0 1 (by decide) (by decide), l 0 2 (by decide) (by decide), l 1 2 (by decide) (by decide)]
  by_cases a0 : y.1 0 = -1
  · simp only [if_pos a0, if_neg (show ¬ (0 : Int32) = -1 by decide)]
  · simp only [if_neg a0]
    by_cases a1 : y.1 1 = -1
    · simp only [if_pos a1, if_neg (show ¬ (1 : Int32) = -1 by decide)]
    · simp only [if_neg a1]
      by_cases a2 : y.1 2 = -1
      · simp only [if_pos a2, if_neg (show ¬ (2 : Int32) = -1 by decide)]
        split <;> rfl
      · simp only [if_neg a2, if_true]
