/-! tick: the drivers are watched -/
theorem kr_w0 {d : kt_Dr} {e : kt_E} {mi : kt_I} {p : Int32} (h : kr_d d e 0) (hp : (p = 1 ∧ (mi.2.1 - mi.2.1 / mi.1 * mi.1) = 0) ∨ (p = 0 ∧ ¬ (mi.2.1 - mi.2.1 / mi.1 * mi.1) = 0)) :
    kr_d (f_Dr_beWatched d p) (f_Md_reincarnate_0 mi e) 0 ∧ kr_x e (f_Md_reincarnate_0 mi e) 0 ∧ (f_Md_reincarnate_0 mi e).2.2.2.2.2.2.1 = e.2.2.2.2.2.2.1 ∧ (f_Md_reincarnate_0 mi e).2.2.2.2.2.2.2 = e.2.2.2.2.2.2.2 ∧ ((f_Dr_beWatched d p).2.2.1 = -1 ∨ ((f_Dr_beWatched d p).2.2.1 = d.2.2.1 ∧ (f_Dr_beWatched d p).1 = d.1)) := by
  obtain ⟨g1, g2, g3, g4, g5, g6, g7, g8, g9⟩ := h
  have hrs : kr_d (d.1 + 1, 0, -1, 1, 0, d.2.2.2.2.2) (upd e.1 0 ((e.1 0) + 1), upd e.2.1 0 0, upd e.2.2.1 0 0, upd e.2.2.2.1 0 (-1), e.2.2.2.2.1, upd e.2.2.2.2.2.1 0 0, e.2.2.2.2.2.2.1, e.2.2.2.2.2.2.2) 0 := by
    refine ⟨?_, show upd e.2.1 0 0 0 = 0 from pk_us, Or.inl rfl, Or.inr (show upd e.2.2.1 0 0 0 = 0 from pk_us), show upd e.2.2.2.1 0 (-1) 0 = -1 from pk_us, Or.inl rfl, fun q => absurd (show (0 : Int32) = 2 from q) (by decide), g8, Or.inr ⟨rfl, show upd e.2.2.2.2.2.1 0 0 0 = 0 from pk_us⟩⟩
    show upd e.1 0 ((e.1 0) + 1) 0 = d.1 + 1
    rw [pk_us, g1]
  have hrx : kr_x e (upd e.1 0 ((e.1 0) + 1), upd e.2.1 0 0, upd e.2.2.1 0 0, upd e.2.2.2.1 0 (-1), e.2.2.2.2.1, upd e.2.2.2.2.2.1 0 0, e.2.2.2.2.2.2.1, e.2.2.2.2.2.2.2) 0 := fun i hi => ⟨pk_un hi, pk_un hi, pk_un hi, pk_un hi, rfl, pk_un hi⟩
  unfold f_Dr_beWatched f_Dr_restart f_Md_reincarnate_0
  dsimp only
  rw [g2]
  by_cases c2 : d.2.1 = 2
  · simp only [if_pos c2]
    rcases hp with ⟨rfl, hb⟩ | ⟨rfl, hb⟩
    · simp only [if_pos hb]
      exact ⟨hrs, hrx, (by first | rfl | trivial), (by first | rfl | trivial), (by first | exact Or.inl rfl | exact Or.inl trivial | trivial)⟩
    · simp only [if_neg hb]
      exact ⟨hrs, hrx, (by first | rfl | trivial), (by first | rfl | trivial), (by first | exact Or.inl rfl | exact Or.inl trivial | trivial)⟩
  · simp only [if_neg c2]
    rcases hp with ⟨rfl, hb⟩ | ⟨rfl, hb⟩
    · simp only [if_pos hb, if_neg (show ¬ (1 : Int32) = 0 by decide)]
      rcases g9 with ⟨x1, x2⟩ | ⟨x1, x2⟩
      · simp only [if_pos x1, x2, if_neg (show ¬ (1 : Int32) = 0 by decide)]
        exact ⟨hrs, hrx, (by first | rfl | trivial), (by first | rfl | trivial), (by first | exact Or.inl rfl | exact Or.inl trivial | trivial)⟩
      · simp only [x1, if_neg (show ¬ (1 : Int32) = 0 by decide), if_pos x2]
        exact ⟨⟨g1, g2, g3, g4, g5, g6, g7, g8, Or.inl ⟨rfl, show upd e.2.2.2.2.2.1 0 1 0 = 1 from pk_us⟩⟩, fun i hi => ⟨rfl, rfl, rfl, rfl, rfl, pk_un hi⟩, (by first | rfl | trivial), (by first | rfl | trivial), (by first | exact Or.inr ⟨rfl, rfl⟩ | exact Or.inr trivial | trivial | (simp; done))⟩
    · simp only [if_neg hb, if_true]
      exact ⟨⟨g1, g2, g3, g4, g5, g6, g7, g8, g9⟩, fun i _ => ⟨rfl, rfl, rfl, rfl, rfl, rfl⟩, (by first | rfl | trivial), (by first | rfl | trivial), (by first | exact Or.inr ⟨rfl, rfl⟩ | exact Or.inr trivial | trivial | (simp; done))⟩
theorem kr_w1 {d : kt_Dr} {e : kt_E} {mi : kt_I} {p : Int32} (h : kr_d d e 1) (hp : (p = 1 ∧ (mi.2.1 - mi.2.1 / mi.1 * mi.1) = 0) ∨ (p = 0 ∧ ¬ (mi.2.1 - mi.2.1 / mi.1 * mi.1) = 0)) :
    kr_d (f_Dr_beWatched d p) (f_Md_reincarnate_1 mi e) 1 ∧ kr_x e (f_Md_reincarnate_1 mi e) 1 ∧ (f_Md_reincarnate_1 mi e).2.2.2.2.2.2.1 = e.2.2.2.2.2.2.1 ∧ (f_Md_reincarnate_1 mi e).2.2.2.2.2.2.2 = e.2.2.2.2.2.2.2 ∧ ((f_Dr_beWatched d p).2.2.1 = -1 ∨ ((f_Dr_beWatched d p).2.2.1 = d.2.2.1 ∧ (f_Dr_beWatched d p).1 = d.1)) := by
  obtain ⟨g1, g2, g3, g4, g5, g6, g7, g8, g9⟩ := h
  have hrs : kr_d (d.1 + 1, 0, -1, 1, 0, d.2.2.2.2.2) (upd e.1 1 ((e.1 1) + 1), upd e.2.1 1 0, upd e.2.2.1 1 0, upd e.2.2.2.1 1 (-1), e.2.2.2.2.1, upd e.2.2.2.2.2.1 1 0, e.2.2.2.2.2.2.1, e.2.2.2.2.2.2.2) 1 := by
    refine ⟨?_, show upd e.2.1 1 0 1 = 0 from pk_us, Or.inl rfl, Or.inr (show upd e.2.2.1 1 0 1 = 0 from pk_us), show upd e.2.2.2.1 1 (-1) 1 = -1 from pk_us, Or.inl rfl, fun q => absurd (show (0 : Int32) = 2 from q) (by decide), g8, Or.inr ⟨rfl, show upd e.2.2.2.2.2.1 1 0 1 = 0 from pk_us⟩⟩
    show upd e.1 1 ((e.1 1) + 1) 1 = d.1 + 1
    rw [pk_us, g1]
  have hrx : kr_x e (upd e.1 1 ((e.1 1) + 1), upd e.2.1 1 0, upd e.2.2.1 1 0, upd e.2.2.2.1 1 (-1), e.2.2.2.2.1, upd e.2.2.2.2.2.1 1 0, e.2.2.2.2.2.2.1, e.2.2.2.2.2.2.2) 1 := fun i hi => ⟨pk_un hi, pk_un hi, pk_un hi, pk_un hi, rfl, pk_un hi⟩
  unfold f_Dr_beWatched f_Dr_restart f_Md_reincarnate_1
  dsimp only
  rw [g2]
  by_cases c2 : d.2.1 = 2
  · simp only [if_pos c2]
    rcases hp with ⟨rfl, hb⟩ | ⟨rfl, hb⟩
    · simp only [if_pos hb]
      exact ⟨hrs, hrx, (by first | rfl | trivial), (by first | rfl | trivial), (by first | exact Or.inl rfl | exact Or.inl trivial | trivial)⟩
    · simp only [if_neg hb]
      exact ⟨hrs, hrx, (by first | rfl | trivial), (by first | rfl | trivial), (by first | exact Or.inl rfl | exact Or.inl trivial | trivial)⟩
  · simp only [if_neg c2]
    rcases hp with ⟨rfl, hb⟩ | ⟨rfl, hb⟩
    · simp only [if_pos hb, if_neg (show ¬ (1 : Int32) = 0 by decide)]
      rcases g9 with ⟨x1, x2⟩ | ⟨x1, x2⟩
      · simp only [if_pos x1, x2, if_neg (show ¬ (1 : Int32) = 0 by decide)]
        exact ⟨hrs, hrx, (by first | rfl | trivial), (by first | rfl | trivial), (by first | exact Or.inl rfl | exact Or.inl trivial | trivial)⟩
      · simp only [x1, if_neg (show ¬ (1 : Int32) = 0 by decide), if_pos x2]
        exact ⟨⟨g1, g2, g3, g4, g5, g6, g7, g8, Or.inl ⟨rfl, show upd e.2.2.2.2.2.1 1 1 1 = 1 from pk_us⟩⟩, fun i hi => ⟨rfl, rfl, rfl, rfl, rfl, pk_un hi⟩, (by first | rfl | trivial), (by first | rfl | trivial), (by first | exact Or.inr ⟨rfl, rfl⟩ | exact Or.inr trivial | trivial | (simp; done))⟩
    · simp only [if_neg hb, if_true]
      exact ⟨⟨g1, g2, g3, g4, g5, g6, g7, g8, g9⟩, fun i _ => ⟨rfl, rfl, rfl, rfl, rfl, rfl⟩, (by first | rfl | trivial), (by first | rfl | trivial), (by first | exact Or.inr ⟨rfl, rfl⟩ | exact Or.inr trivial | trivial | (simp; done))⟩
