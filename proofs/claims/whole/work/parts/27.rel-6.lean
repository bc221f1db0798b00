/-! beginning an operation -/
theorem kr_join {n : kt_Ln} {q : List Nat} {j : Nat} (h1 : n.2 = nI q.length) (hq : q.length < 4) (h2 : ∀ i, i < q.length → n.1 i = nI (q.getD i 0)) : (f_Ln_join n (nI j)).2 = nI (q ++ [j]).length ∧ ∀ i, i < (q ++ [j]).length → (f_Ln_join n (nI j)).1 i = nI ((q ++ [j]).getD i 0) := by
  have a1 : ¬ 4 ≤ n.2 := by
    rw [h1]
    exact nI_ge (a := q.length) (b := 4) hq (by decide)
  have a2 : n.2.toNatClampNeg = q.length := by
    rw [h1]
    exact nI_clamp (by omega)
  unfold f_Ln_join
  rw [if_neg a1, a2]
  refine ⟨?_, fun i hi => ?_⟩
  · show n.2 + 1 = _
    rw [h1, nI_1, List.length_append]
    rfl
  · show upd n.1 q.length (nI j) i = _
    rw [List.length_append] at hi
    have hi : i < q.length + 1 := hi
    rw [List.getD_eq_getElem?_getD]
    by_cases e : i = q.length
    · subst e
      rw [pk_us, List.getElem?_append_right (Nat.le_refl _), Nat.sub_self]
      rfl
    · have h9 : i < q.length := by omega
      rw [pk_un e, h2 i h9, List.getElem?_append_left h9, List.getD_eq_getElem?_getD]
/-- a line that the new operation joins -/
theorem kr_lj {n : kt_Ln} {w w' : kt_W} {pr : Bool} {j : Nat} (h : kr_l n w pr) (hj : j < 4) (hn : ¬ w.2.2.2.2.1 j = 1) (hs : kr_s w' pr j) (ho : ∀ u, u ≠ j → w'.1 u = w.1 u ∧ w'.2.2.2.2.1 u = w.2.2.2.2.1 u ∧ w'.2.2.2.1 u = w.2.2.2.1 u) (hg : ∀ u, u < 4 → w.2.2.2.2.1 u = 1 → (w.2.2.2.1 u).toInt < (w'.2.2.2.1 j).toInt) : kr_l (f_Ln_join n (nI j)) w' pr := by
  obtain ⟨q, h1, h2, h3, h4⟩ := h
  have hjq : j ∉ q := fun x => hn ((h3 j).mp x).2.1
  have hlen : q.length < 4 := by
    have h5 := kr_len 4 (j :: q) (List.nodup_cons.mpr ⟨hjq, kr_nd h4⟩) (fun x hx => by
      rcases List.mem_cons.mp hx with rfl | hx
      · exact hj
      · exact ((h3 x).mp hx).1)
    simp only [List.length_cons] at h5
    omega
  have h6 := kr_join (j := j) h1 hlen h2
  refine ⟨q ++ [j], h6.1, h6.2, fun u => ?_, ?_⟩
  · by_cases e : u = j
    · subst e
      exact ⟨fun _ => hs, fun _ => List.mem_append_right _ List.mem_cons_self⟩
    · have h7 := ho u e
      unfold kr_s
      rw [h7.1, h7.2.1]
      constructor
      · intro x
        rcases List.mem_append.mp x with x | x
        · exact (h3 u).mp x
        · exact absurd (List.mem_singleton.mp x) e
      · intro x
        exact List.mem_append_left _ ((h3 u).mpr x)
  · rw [List.pairwise_append]
    refine ⟨?_, List.pairwise_singleton _ _, fun a ha b hb => ?_⟩
    · refine List.Pairwise.imp_of_mem ?_ h4
      intro a b ha hb hab
      rw [(ho a (fun e => hjq (e ▸ ha))).2.2, (ho b (fun e => hjq (e ▸ hb))).2.2]
      exact hab
    · rw [List.mem_singleton.mp hb, (ho a (fun e => hjq (e ▸ ha))).2.2]
      have x := (h3 a).mp ha
      exact hg a x.1 x.2.1
/-- a line that it doesn't join -/
theorem kr_lo {n : kt_Ln} {w w' : kt_W} {pr : Bool} {j : Nat} (h : kr_l n w pr) (hn : ¬ w.2.2.2.2.1 j = 1) (hs : ¬ kr_s w' pr j) (ho : ∀ u, u ≠ j → w'.1 u = w.1 u ∧ w'.2.2.2.2.1 u = w.2.2.2.2.1 u ∧ w'.2.2.2.1 u = w.2.2.2.1 u) : kr_l n w' pr := by
  obtain ⟨q, h1, h2, h3, h4⟩ := h
  have hjq : j ∉ q := fun x => hn ((h3 j).mp x).2.1
  refine ⟨q, h1, h2, fun u => ?_, ?_⟩
  · by_cases e : u = j
    · subst e
      exact ⟨fun x => absurd x hjq, fun x => absurd x hs⟩
    · have h7 := ho u e
      unfold kr_s
      rw [h7.1, h7.2.1]
      exact h3 u
  · refine List.Pairwise.imp_of_mem ?_ h4
    intro a b ha hb hab
    rw [(ho a (fun e => hjq (e ▸ ha))).2.2, (ho b (fun e => hjq (e ▸ hb))).2.2]
    exact hab
/-- the head of a line that isn't empty is pending, and joining leaves it -/
theorem kr_hd {n : kt_Ln} {w : kt_W} {pr : Bool} (h : kr_l n w pr) (h0 : ¬ n.2 = 0) : ∃ u, n.1 0 = nI u ∧ kr_s w pr u := by
  obtain ⟨q, h1, h2, h3, h4⟩ := h
  cases q with
  | nil => exact absurd h1 h0
  | cons u q => exact ⟨u, h2 0 (Nat.succ_pos _), (h3 u).mp List.mem_cons_self⟩
theorem kr_jhd {n : kt_Ln} {w : kt_W} {pr : Bool} {x : Int32} (h : kr_l n w pr) (h0 : ¬ n.2 = 0) : (f_Ln_join n x).1 0 = n.1 0 ∧ ¬ (f_Ln_join n x).2 = 0 := by
  have hl := h.ln
  obtain ⟨k, hk, e, -⟩ := hl
  have hk0 : 0 < k := by
    rcases Nat.eq_zero_or_pos k with rfl | q
    · exact absurd e h0
    · exact q
  unfold f_Ln_join
  by_cases a : 4 ≤ n.2
  · rw [if_pos a]
    exact ⟨rfl, h0⟩
  · rw [if_neg a]
    refine ⟨pk_un ?_, ?_⟩
    · rw [e, nI_clamp (by omega)]
      omega
    · show ¬ n.2 + 1 = 0
      rw [e, nI_1]
      exact nI_ne0 (by omega) (by omega)
