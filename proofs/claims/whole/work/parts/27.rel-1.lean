/-! the relation between the class's state and the reference's -/
/-- a driver, and what the reference has of it at j -/
def kr_d (d : kt_Dr) (e : kt_E) (j : Nat) : Prop :=
  e.1 j = d.1 ∧ e.2.1 j = d.2.1 ∧ (d.2.1 = 0 ∨ d.2.1 = 1 ∨ d.2.1 = 2) ∧ (d.2.1 = 2 ∨ e.2.2.1 j = d.2.2.2.2.1) ∧ e.2.2.2.1 j = d.2.2.1 ∧ (d.2.2.1 = -1 ∨ d.2.2.1 = 0 ∨ d.2.2.1 = 1 ∨ d.2.2.1 = 2) ∧ (d.2.1 = 2 → d.2.2.1 = -1) ∧ e.2.2.2.2.1 j = d.2.2.2.2.2 ∧ ((d.2.2.2.1 = 0 ∧ e.2.2.2.2.2.1 j = 1) ∨ (d.2.2.2.1 = 1 ∧ e.2.2.2.2.2.1 j = 0))
/-- an operation: state and result; where it is pending, all that it is -/
def kr_o (o : kt_Op) (w : kt_W) (u : Nat) : Prop :=
  w.2.2.2.2.1 u = o.2.2.2.2.1 ∧ w.2.2.2.2.2.1 u = o.2.2.2.2.2 ∧ (o.2.2.2.2.1 = 1 → w.1 u = o.1 + 1 ∧ (o.1 = 0 ∨ o.1 = 1 ∨ o.1 = 2 ∨ o.1 = 3) ∧ ((o.1 = 0 ∨ o.1 = 1) → w.2.1 u = o.2.1 ∧ vp_in o.2.1 16) ∧ w.2.2.1 u = o.2.2.1 ∧ w.2.2.2.2.2.2 u = o.2.2.2.1)
/-- who stands in a line -/
def kr_s (w : kt_W) (pr : Bool) (u : Nat) : Prop := u < 4 ∧ w.2.2.2.2.1 u = 1 ∧ (w.1 u = 4 ↔ pr = true)
/-- a line: the pending ones of its server, in the order of their beginnings -/
def kr_l (n : kt_Ln) (w : kt_W) (pr : Bool) : Prop :=
  ∃ q : List Nat, n.2 = nI q.length ∧ (∀ i, i < q.length → n.1 i = nI (q.getD i 0)) ∧ (∀ u, u ∈ q ↔ kr_s w pr u) ∧ q.Pairwise (fun a b => (w.2.2.2.1 a).toInt < (w.2.2.2.1 b).toInt)
def kr_i (t : Nat) (mm : kt_M) (mi : kt_I) (w : kt_W) : Prop :=
  mm.1 = mi.1 ∧ ¬ mm.1 = 0 ∧ mm.2.1 = mi.2.2.2.1 ∧ kv_ol mm ∧ mm.2.2.1 = mi.2.2.2.2.2.2.2.1 ∧ mm.2.2.2 = mi.2.1 ∧ (∃ a, a ≤ t ∧ mi.2.1 = nI a) ∧ (∃ g, g ≤ t ∧ mi.2.2.1 = nI g ∧ ∀ u, u < 4 → w.2.2.2.2.1 u = 1 → ∃ a, a ≤ g ∧ w.2.2.2.1 u = nI a)
def kr_c (t : Nat) (mm : kt_M) (mi : kt_I) (ca y : kt_Ca) : Prop :=
  (∃ a c, a ≤ t ∧ c ≤ t ∧ mm.2.2.2 = nI a ∧ mi.2.2.2.2.2.2.2.2 = nI c ∧ ∀ i, i < 3 → (∃ k, k ≤ a ∧ ca.2.2.2 i = nI k) ∧ ∃ k, k ≤ c ∧ y.2.2.2 i = nI k) ∧
  (∀ i, i < 3 → ca.1 i = y.1 i ∧ (y.1 i = -1 ∨ vp_in (y.1 i) 16) ∧ (¬ y.1 i = -1 → ca.2.1 i = y.2.1 i) ∧ ca.2.2.1 i = y.2.2.1 i ∧ kx_b (y.2.2.1 i) ∧ (y.1 i = -1 → y.2.2.1 i = 0)) ∧
  (∀ i j, i < 3 → j < 3 → i ≠ j → y.1 i = y.1 j → y.1 i = -1) ∧ (∀ i j, i < 3 → j < 3 → (ca.2.2.2 i < ca.2.2.2 j ↔ y.2.2.2 i < y.2.2.2 j))
/-- the file server's request -/
def kr_f (fr : kt_Rq) (dk : kt_Dr) (ca : kt_Ca) (mi : kt_I) (e : kt_E) : Prop :=
  kv_fr fr ∧ vp_in mi.2.2.2.2.1 3 ∧ (¬ dk.2.2.1 = -1 → ¬ fr.1 = 0 ∧ fr.2.2.2.2.1 = 1 ∧ fr.2.2.2.2.2.2 = dk.1) ∧
  ((fr.1 = 0 ∧ e.2.2.2.2.2.2.1 0 = 0) ∨ ((fr.1 = 1 ∨ fr.1 = 2) ∧ fr.2.2.2.2.2.1 = 0 ∧ mi.2.2.2.2.1 = fr.2.2.1 ∧
    ((fr.2.2.2.2.1 = 0 ∧ e.2.2.2.2.2.2.1 0 = 1) ∨ (fr.2.2.2.2.1 = 1 ∧ e.2.2.2.2.2.2.1 0 = 2 ∧ e.2.2.2.2.2.2.2 0 = fr.2.2.2.2.2.2)) ∧
    (fr.1 = 1 → mi.2.2.2.2.2.1 = 1 ∧ mi.2.2.2.2.2.2.1 = fr.2.1 ∧ ca.1 fr.2.2.1.toNatClampNeg = -1 ∧ ∀ i, i < 3 → ¬ ca.1 i = fr.2.1) ∧
    (fr.1 = 2 → mi.2.2.2.2.2.1 = 0 ∧ ca.1 fr.2.2.1.toNatClampNeg = fr.2.1)))
/-- the terminal's request -/
def kr_t (tr : kt_Rq) (co : kt_Dr) (ops : Nat → kt_Op) (tl : kt_Ln) (e : kt_E) : Prop :=
  (¬ co.2.2.1 = -1 → ¬ tr.1 = 0 ∧ tr.2.2.2.2.1 = 1 ∧ tr.2.2.2.2.2.2 = co.1) ∧
  ((tr.1 = 0 ∧ e.2.2.2.2.2.2.1 1 = 0) ∨ (tr.1 = 3 ∧ tr.2.2.2.2.2.1 = 0 ∧ ¬ tl.2 = 0 ∧ tr.2.2.2.1 = (ops (tl.1 0).toNatClampNeg).2.2.1 ∧
    ((tr.2.2.2.2.1 = 0 ∧ e.2.2.2.2.2.2.1 1 = 1) ∨ (tr.2.2.2.2.1 = 1 ∧ e.2.2.2.2.2.2.1 1 = 2 ∧ e.2.2.2.2.2.2.2 1 = tr.2.2.2.2.2.2))))
def kr (t : Nat) (mm : kt_M) (ops : Nat → kt_Op) (fl : kt_Ln) (tl : kt_Ln) (dk : kt_Dr) (co : kt_Dr) (fr : kt_Rq) (tr : kt_Rq) (ca : kt_Ca) (dv : Nat → Int32) (po : Nat → Int32) (mi : kt_I) (w : kt_W) (e : kt_E) (y : kt_Ca) (dw : Nat → Int32) (pw : Nat → Int32) : Prop :=
  kr_i t mm mi w ∧ (∀ u, u < 4 → kr_o (ops u) w u) ∧ kr_l fl w false ∧ kr_l tl w true ∧ kr_d dk e 0 ∧ kr_d co e 1 ∧ kr_f fr dk ca mi e ∧ kr_t tr co ops tl e ∧ kr_c t mm mi ca y ∧ dv = dw ∧ po = pw
theorem kr_i.up {t : Nat} {mm : kt_M} {mi : kt_I} {w : kt_W} (h : kr_i t mm mi w) : kr_i (t + 1) mm mi w := by
  obtain ⟨h1, h2, h3, h4, h5, h6, ⟨a, ha, ea⟩, ⟨g, hg, eg⟩⟩ := h
  exact ⟨h1, h2, h3, h4, h5, h6, ⟨a, by omega, ea⟩, ⟨g, by omega, eg⟩⟩
theorem kr_c.up {t : Nat} {mm : kt_M} {mi : kt_I} {ca y : kt_Ca} (h : kr_c t mm mi ca y) : kr_c (t + 1) mm mi ca y := by
  obtain ⟨⟨a, c, ha, hc, hr⟩, h2⟩ := h
  exact ⟨⟨a, c, by omega, by omega, hr⟩, h2⟩
/-- no more than n different numbers under n -/
theorem kr_len (n : Nat) : ∀ q : List Nat, q.Nodup → (∀ x ∈ q, x < n) → q.length ≤ n := by
  induction n with
  | zero =>
    intro q _ h
    cases q with
    | nil => exact Nat.le_refl _
    | cons x q => exact absurd (h x List.mem_cons_self) (Nat.not_lt_zero x)
  | succ n ih =>
    intro q hd h
    by_cases hn : n ∈ q
    · have h1 := ih (q.erase n) (hd.erase n) (fun x hx => by
        have h2 := (hd.mem_erase_iff).mp hx
        have h3 := h x h2.2
        have h4 := h2.1
        omega)
      rw [List.length_erase_of_mem hn] at h1
      omega
    · have h1 := ih q hd (fun x hx => by
        have h3 := h x hx
        have h4 : x ≠ n := fun e => hn (e ▸ hx)
        omega)
      omega
theorem kr_nd {w : kt_W} {q : List Nat} (h : q.Pairwise (fun a b => (w.2.2.2.1 a).toInt < (w.2.2.2.1 b).toInt)) : q.Nodup := by
  refine List.Pairwise.imp ?_ h
  intro a b hab e
  rw [e] at hab
  omega
theorem kr_l.ln {n : kt_Ln} {w : kt_W} {pr : Bool} (h : kr_l n w pr) : kv_ln n := by
  obtain ⟨q, h1, h2, h3, h4⟩ := h
  have h5 := kr_len 4 q (kr_nd h4) (fun x hx => ((h3 x).mp hx).1)
  refine ⟨q.length, h5, h1, fun i hi => ?_⟩
  rw [h2 i hi]
  have h6 : q.getD i 0 ∈ q := by
    rw [List.getD_eq_getElem?_getD, List.getElem?_eq_getElem hi]
    exact List.getElem_mem hi
  exact vp_in_nI ((h3 _).mp h6).1 (by decide)
