/-! tick: a request is given; lines lose their head; the cache changes -/
/-- a request is given to a driver -/
theorem kr_gv {q q' : kt_Rq} {d d' : kt_Dr} {e e' : kt_E} (j : Nat) (hd : kr_d d e j) (hq : q.2.2.2.2.2.1 = 0) (h1 : (q', d') = f_Rq_giveTo q d) (h2 : e' = if (e.2.1 j) = 2 then (e.1, e.2.1, e.2.2.1, e.2.2.2.1, e.2.2.2.2.1, e.2.2.2.2.2.1, upd e.2.2.2.2.2.2.1 j 1, e.2.2.2.2.2.2.2) else (e.1, e.2.1, e.2.2.1, upd e.2.2.2.1 j 0, e.2.2.2.2.1, e.2.2.2.2.2.1, upd e.2.2.2.2.2.2.1 j 2, upd e.2.2.2.2.2.2.2 j (e.1 j))) :
    kr_d d' e' j ∧ kr_x e e' j ∧ (∀ i, i ≠ j → e'.2.2.2.2.2.2.1 i = e.2.2.2.2.2.2.1 i ∧ e'.2.2.2.2.2.2.2 i = e.2.2.2.2.2.2.2 i) ∧ (q'.1 = q.1 ∧ q'.2.1 = q.2.1 ∧ q'.2.2.1 = q.2.2.1 ∧ q'.2.2.2.1 = q.2.2.2.1) ∧ q'.2.2.2.2.2.1 = 0 ∧ ((q'.2.2.2.2.1 = 0 ∧ e'.2.2.2.2.2.2.1 j = 1) ∨ (q'.2.2.2.2.1 = 1 ∧ e'.2.2.2.2.2.2.1 j = 2 ∧ e'.2.2.2.2.2.2.2 j = q'.2.2.2.2.2.2)) ∧ (¬ d'.2.2.1 = -1 → q'.2.2.2.2.1 = 1 ∧ q'.2.2.2.2.2.2 = d'.1) := by
  obtain ⟨g1, g2, g3, g4, g5, g6, g7, g8, g9⟩ := hd
  unfold f_Rq_giveTo at h1
  rw [g2] at h2
  by_cases c : d.2.1 = 2
  · rw [if_pos c] at h1 h2
    simp only [Prod.mk.injEq] at h1
    obtain ⟨rfl, rfl⟩ := h1
    subst h2
    exact ⟨⟨g1, g2, g3, g4, g5, g6, g7, g8, g9⟩, fun i _ => ⟨rfl, rfl, rfl, rfl, rfl, rfl⟩, fun i hi => ⟨pk_un hi, rfl⟩, ⟨rfl, rfl, rfl, rfl⟩, hq, Or.inl ⟨rfl, pk_us⟩, fun z => absurd (g7 c) z⟩
  · rw [if_neg c] at h1 h2
    simp only [Prod.mk.injEq] at h1
    obtain ⟨rfl, rfl⟩ := h1
    subst h2
    exact ⟨⟨g1, g2, g3, g4, pk_us, Or.inr (Or.inl rfl), fun z => absurd z c, g8, g9⟩, fun i hi => ⟨rfl, rfl, rfl, pk_un hi, rfl, rfl⟩, fun i hi => ⟨pk_un hi, pk_un hi⟩, ⟨rfl, rfl, rfl, rfl⟩, rfl, Or.inr ⟨rfl, pk_us, pk_us.trans g1⟩, fun _ => ⟨rfl, rfl⟩⟩
/-- what dropHead makes of a list -/
theorem kr_dh {n : kt_Ln} {u : Nat} {q : List Nat} (hl : q.length < 4) (h1 : n.2 = nI (u :: q).length) (h2 : ∀ i, i < (u :: q).length → n.1 i = nI ((u :: q).getD i 0)) : (f_Ln_dropHead n).2 = nI q.length ∧ ∀ i, i < q.length → (f_Ln_dropHead n).1 i = nI (q.getD i 0) := by
  obtain ⟨f, x⟩ := n
  dsimp only at h1 h2
  subst h1
  have h3 : ∀ i, i < q.length → f (i + 1) = nI (q.getD i 0) := fun i hi => h2 (i + 1) (Nat.succ_lt_succ hi)
  rw [List.length_cons]
  rcases (show q.length = 0 ∨ q.length = 1 ∨ q.length = 2 ∨ q.length = 3 by omega) with e | e | e | e
  · rw [e, l_drop1]
    exact ⟨rfl, fun i hi => absurd hi (Nat.not_lt_zero i)⟩
  · rw [e] at h3 ⊢
    rw [l_drop2]
    refine ⟨rfl, fun i hi => ?_⟩
    rcases (show i = 0 by omega) with rfl
    exact h3 0 (by decide)
  · rw [e] at h3 ⊢
    rw [l_drop3]
    refine ⟨rfl, fun i hi => ?_⟩
    rcases (show i = 0 ∨ i = 1 by omega) with rfl | rfl
    · exact h3 0 (by decide)
    · exact h3 1 (by decide)
  · rw [e] at h3 ⊢
    rw [l_drop4]
    refine ⟨rfl, fun i hi => ?_⟩
    rcases (show i = 0 ∨ i = 1 ∨ i = 2 by omega) with rfl | rfl | rfl
    · exact h3 0 (by decide)
    · exact h3 1 (by decide)
    · exact h3 2 (by decide)
/-- the head of a line has ended -/
theorem kr_ld {n : kt_Ln} {w w' : kt_W} {pr : Bool} {u : Nat} (h : kr_l n w pr) (hu : n.1 0 = nI u) (h0 : ¬ n.2 = 0) (hu4 : u < 4) (hs : ¬ w'.2.2.2.2.1 u = 1) (ho : ∀ v, v ≠ u → w'.1 v = w.1 v ∧ w'.2.2.2.2.1 v = w.2.2.2.2.1 v ∧ w'.2.2.2.1 v = w.2.2.2.1 v) : kr_l (f_Ln_dropHead n) w' pr := by
  obtain ⟨q, h1, h2, h3, h4⟩ := h
  cases q with
  | nil => exact absurd h1 h0
  | cons x q =>
    have h5 := kr_len 4 (x :: q) (kr_nd h4) (fun z hz => ((h3 z).mp hz).1)
    rw [List.length_cons] at h5
    have hx4 : x < 4 := ((h3 x).mp List.mem_cons_self).1
    have hxu : x = u := by
      have h6 := h2 0 (Nat.succ_pos _)
      rw [hu] at h6
      have h6 : nI u = nI x := h6
      exact ((nI_eq (by omega) (by omega)).mp h6).symm
    subst hxu
    have hnd := kr_nd h4
    have hxq : x ∉ q := (List.nodup_cons.mp hnd).1
    have h7 := kr_dh (by omega) h1 h2
    refine ⟨q, h7.1, h7.2, fun v => ?_, ?_⟩
    · by_cases e : v = x
      · subst e
        exact ⟨fun z => absurd z hxq, fun z => absurd z.2.1 hs⟩
      · have h8 := ho v e
        unfold kr_s
        rw [h8.1, h8.2.1]
        constructor
        · intro z
          exact (h3 v).mp (List.mem_cons_of_mem _ z)
        · intro z
          exact (List.mem_cons.mp ((h3 v).mpr z)).resolve_left e
    · refine List.Pairwise.imp_of_mem ?_ (List.pairwise_cons.mp h4).2
      intro a b ha hb hab
      rw [(ho a (fun e => hxq (e ▸ ha))).2.2, (ho b (fun e => hxq (e ▸ hb))).2.2]
      exact hab
/-- one that stands in another line has ended -/
theorem kr_lx {n : kt_Ln} {w w' : kt_W} {pr : Bool} {u : Nat} (h : kr_l n w pr) (hn : ¬ kr_s w pr u) (hs : ¬ kr_s w' pr u) (ho : ∀ v, v ≠ u → w'.1 v = w.1 v ∧ w'.2.2.2.2.1 v = w.2.2.2.2.1 v ∧ w'.2.2.2.1 v = w.2.2.2.1 v) : kr_l n w' pr := by
  obtain ⟨q, h1, h2, h3, h4⟩ := h
  have hjq : u ∉ q := fun x => hn ((h3 u).mp x)
  refine ⟨q, h1, h2, fun v => ?_, ?_⟩
  · by_cases e : v = u
    · subst e
      exact ⟨fun x => absurd x hjq, fun x => absurd x hs⟩
    · have h7 := ho v e
      unfold kr_s
      rw [h7.1, h7.2.1]
      exact h3 v
  · refine List.Pairwise.imp_of_mem ?_ h4
    intro a b ha hb hab
    rw [(ho a (fun e => hjq (e ▸ ha))).2.2, (ho b (fun e => hjq (e ▸ hb))).2.2]
    exact hab
/-- the cache's blocks, values and marks -/
def kr_cs (ca y : kt_Ca) : Prop :=
  (∀ i, i < 3 → ca.1 i = y.1 i ∧ (y.1 i = -1 ∨ vp_in (y.1 i) 16) ∧ (¬ y.1 i = -1 → ca.2.1 i = y.2.1 i) ∧ ca.2.2.1 i = y.2.2.1 i ∧ kx_b (y.2.2.1 i) ∧ (y.1 i = -1 → y.2.2.1 i = 0)) ∧ (∀ i j, i < 3 → j < 3 → i ≠ j → y.1 i = y.1 j → y.1 i = -1)
/-- the cache's stamps -/
def kr_cp (a c : Nat) (x z : Nat → Int32) : Prop :=
  (∀ i, i < 3 → (∃ k, k ≤ a ∧ x i = nI k) ∧ ∃ k, k ≤ c ∧ z i = nI k) ∧ (∀ i j, i < 3 → j < 3 → (x i < x j ↔ z i < z j))
theorem kr_ch {ca y : kt_Ca} {s : Nat} {b z : Int32} {x2 y2 x4 y4 : Nat → Int32} (h : kr_cs ca y) (hb : b = -1 ∨ vp_in b 16) (hu : ¬ b = -1 → ∀ i, i < 3 → i ≠ s → ¬ y.1 i = b) (hz : kx_b z) (hz0 : b = -1 → z = 0) (hx : ∀ i, i ≠ s → x2 i = ca.2.1 i) (hy : ∀ i, i ≠ s → y2 i = y.2.1 i) (hv : ¬ b = -1 → x2 s = y2 s) : kr_cs (upd ca.1 s b, x2, upd ca.2.2.1 s z, x4) (upd y.1 s b, y2, upd y.2.2.1 s z, y4) := by
  obtain ⟨h1, h2⟩ := h
  refine ⟨fun i hi => ?_, fun i j hi hj hij he => ?_⟩
  · dsimp only
    by_cases e : i = s
    · subst e
      rw [pk_us, pk_us, pk_us, pk_us]
      exact ⟨rfl, hb, hv, rfl, hz, hz0⟩
    · rw [pk_un e, pk_un e, pk_un e, pk_un e, hx i e, hy i e]
      exact h1 i hi
  · dsimp only at he ⊢
    by_cases e : i = s
    · subst e
      rw [pk_us] at he ⊢
      rw [pk_un (fun q => hij q.symm)] at he
      by_cases q : b = -1
      · exact q
      · exact absurd he.symm (hu q j hj (fun q => hij q.symm))
    · rw [pk_un e] at he ⊢
      by_cases e2 : j = s
      · subst e2
        rw [pk_us] at he
        by_cases q : b = -1
        · exact he.trans q
        · exact absurd he (hu q i hi hij)
      · rw [pk_un e2] at he
        exact h2 i j hi hj hij he
theorem kr_cpu {a c : Nat} {x z : Nat → Int32} {s : Nat} (ha : a < 2 ^ 30) (hc : c < 2 ^ 30) (h : kr_cp a c x z) : kr_cp (a + 1) (c + 1) (upd x s (nI (a + 1))) (upd z s (nI (c + 1))) := by
  obtain ⟨h1, h2⟩ := h
  refine ⟨fun i hi => ?_, fun i j hi hj => ?_⟩
  · by_cases e : i = s
    · subst e
      rw [pk_us, pk_us]
      exact ⟨⟨_, Nat.le_refl _, rfl⟩, ⟨_, Nat.le_refl _, rfl⟩⟩
    · rw [pk_un e, pk_un e]
      obtain ⟨⟨k, k1, k2⟩, ⟨m, m1, m2⟩⟩ := h1 i hi
      exact ⟨⟨k, by omega, k2⟩, ⟨m, by omega, m2⟩⟩
  · obtain ⟨⟨k, k1, k2⟩, ⟨m, m1, m2⟩⟩ := h1 i hi
    obtain ⟨⟨k', k1', k2'⟩, ⟨m', m1', m2'⟩⟩ := h1 j hj
    by_cases e : i = s
    · subst e
      rw [pk_us, pk_us]
      by_cases e2 : j = i
      · subst e2
        rw [pk_us, pk_us]
        exact ⟨fun q => (Int32.lt_irrefl q).elim, fun q => (Int32.lt_irrefl q).elim⟩
      · rw [pk_un e2, pk_un e2, k2', m2', nI_ltI (by omega) (by omega), nI_ltI (by omega) (by omega)]
        omega
    · rw [pk_un e, pk_un e]
      by_cases e2 : j = s
      · subst e2
        rw [pk_us, pk_us, k2, m2, nI_ltI (by omega) (by omega), nI_ltI (by omega) (by omega)]
        omega
      · rw [pk_un e2, pk_un e2]
        exact h2 i j hi hj
theorem kr_cp.up {a c : Nat} {x z : Nat → Int32} (h : kr_cp a c x z) : kr_cp (a + 1) c x z :=
  ⟨fun i hi => ⟨(h.1 i hi).1.imp fun k q => ⟨Nat.le_succ_of_le q.1, q.2⟩, (h.1 i hi).2⟩, h.2⟩
theorem kr_up {f : Nat → Int32} {k : Nat} : upd f k (f k) = f := by
  funext i
  by_cases e : i = k
  · subst e
    exact pk_us
  · exact pk_un e
