/-! the reference's head of a line is the head of the list -/
set_option maxHeartbeats 2000000 in
theorem kr_mh {mi : kt_I} {w : kt_W} {s : Int32} {q : List Nat} (h0 : f_Md_stands mi w 0 s = 0 ↔ ¬ 0 ∈ q) (h1 : f_Md_stands mi w 1 s = 0 ↔ ¬ 1 ∈ q) (h2 : f_Md_stands mi w 2 s = 0 ↔ ¬ 2 ∈ q) (h3 : f_Md_stands mi w 3 s = 0 ↔ ¬ 3 ∈ q) (hq : ∀ x ∈ q, x < 4) (hp : q.Pairwise (fun a b => (w.2.2.2.1 a).toInt < (w.2.2.2.1 b).toInt)) : (q = [] ∧ f_Md_head mi w s = -1) ∨ ∃ u r, q = u :: r ∧ f_Md_head mi w s = nI u := by
  cases q with
  | nil =>
    refine Or.inl ⟨rfl, ?_⟩
    have a0 : f_Md_stands mi w 0 s = 0 := h0.mpr List.not_mem_nil
    have a1 : f_Md_stands mi w 1 s = 0 := h1.mpr List.not_mem_nil
    have a2 : f_Md_stands mi w 2 s = 0 := h2.mpr List.not_mem_nil
    have a3 : f_Md_stands mi w 3 s = 0 := h3.mpr List.not_mem_nil
    unfold f_Md_head
    simp only [a0, a1, a2, a3, if_true]
  | cons u r =>
    refine Or.inr ⟨u, r, rfl, ?_⟩
    have hu : u < 4 := hq u List.mem_cons_self
    have hm : u ∈ u :: r := List.mem_cons_self
    have ho : ∀ v, v ∈ u :: r → v = u ∨ (w.2.2.2.1 u).toInt < (w.2.2.2.1 v).toInt := by
      intro v hv
      rcases List.mem_cons.mp hv with e | e
      · exact Or.inl e
      · exact Or.inr ((List.pairwise_cons.mp hp).1 v e)
    generalize u :: r = q at *
    have o0 := ho 0
    have o1 := ho 1
    have o2 := ho 2
    have o3 := ho 3
    clear hp hq ho
    unfold f_Md_head
    simp only [h0, h1, h2, h3]
    by_cases m0 : 0 ∈ q <;> by_cases m1 : 1 ∈ q <;> by_cases m2 : 2 ∈ q <;> by_cases m3 : 3 ∈ q <;> rcases (show u = 0 ∨ u = 1 ∨ u = 2 ∨ u = 3 by omega) with rfl | rfl | rfl | rfl
    all_goals first
      | (exfalso; contradiction)
      | skip
    all_goals (try replace o0 := o0 m0)
    all_goals (try replace o1 := o1 m1)
    all_goals (try replace o2 := o2 m2)
    all_goals (try replace o3 := o3 m3)
    all_goals simp only [m0, m1, m2, m3, not_true_eq_false, not_false_eq_true, if_true, if_false]
    all_goals repeat' split
    all_goals first
      | rfl
      | (exfalso; simp only [Int32.le_iff_toInt_le] at *; omega)
