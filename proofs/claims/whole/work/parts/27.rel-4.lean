/-! how many stand in a line -/
def kr_S : Nat → List Nat → Nat
  | 0, _ => 0
  | n + 1, q => kr_S n q + (if n ∈ q then 1 else 0)
theorem kr_S_congr (n : Nat) (a b : List Nat) (h : ∀ x, x < n → (x ∈ a ↔ x ∈ b)) : kr_S n a = kr_S n b := by
  induction n with
  | zero => rfl
  | succ n ih =>
    unfold kr_S
    rw [ih (fun x hx => h x (by omega))]
    by_cases hn : n ∈ a
    · rw [if_pos hn, if_pos ((h n (by omega)).mp hn)]
    · rw [if_neg hn, if_neg (fun q => hn ((h n (by omega)).mpr q))]
theorem kr_S_len (n : Nat) : ∀ q : List Nat, q.Nodup → (∀ x ∈ q, x < n) → q.length = kr_S n q := by
  induction n with
  | zero =>
    intro q _ h
    cases q with
    | nil => rfl
    | cons x q => exact absurd (h x List.mem_cons_self) (Nat.not_lt_zero x)
  | succ n ih =>
    intro q hd h
    unfold kr_S
    by_cases hn : n ∈ q
    · have h1 := ih (q.erase n) (hd.erase n) (fun x hx => by
        have h2 := (hd.mem_erase_iff).mp hx
        have h3 := h x h2.2
        have h4 := h2.1
        omega)
      rw [List.length_erase_of_mem hn, kr_S_congr n (q.erase n) q (fun x hx => ⟨fun k => ((hd.mem_erase_iff).mp k).2, fun k => (hd.mem_erase_iff).mpr ⟨by omega, k⟩⟩)] at h1
      have h2 : 0 < q.length := List.length_pos_of_mem hn
      rw [if_pos hn]
      omega
    · rw [if_neg hn, ← ih q hd (fun x hx => by
        have h3 := h x hx
        have h4 : x ≠ n := fun e => hn (e ▸ hx)
        omega)]
      rfl
/-- stands, as the reference says it -/
theorem kr_st0 {mi : kt_I} {w : kt_W} {x : Int32} {u : Nat} (hx : x.toNatClampNeg = u) (hu : u < 4) : f_Md_stands mi w x 0 = 0 ↔ ¬ kr_s w false u := by
  unfold f_Md_stands kr_s
  rw [hx]
  by_cases a : w.2.2.2.2.1 u = 1
  · rw [if_pos a]
    by_cases b : w.1 u = 4
    · rw [if_pos b, if_neg (show ¬ (1 : Int32) = 0 by decide)]
      simp [a, b]
    · rw [if_neg b, if_pos rfl]
      simp [a, b, hu]
  · rw [if_neg a]
    simp [a]
theorem kr_st1 {mi : kt_I} {w : kt_W} {x : Int32} {u : Nat} (hx : x.toNatClampNeg = u) (hu : u < 4) : f_Md_stands mi w x 1 = 0 ↔ ¬ kr_s w true u := by
  unfold f_Md_stands kr_s
  rw [hx]
  by_cases a : w.2.2.2.2.1 u = 1
  · rw [if_pos a]
    by_cases b : w.1 u = 4
    · rw [if_pos b, if_pos rfl]
      simp [a, b, hu]
    · rw [if_neg b, if_neg (show ¬ (0 : Int32) = 1 by decide)]
      simp [a, b]
  · rw [if_neg a]
    simp [a]
theorem kr_cnt {mi : kt_I} {w : kt_W} {s : Int32} {q : List Nat} (hs : ¬ s < 0 ∧ s ≤ 1) (h0 : f_Md_stands mi w 0 s = 0 ↔ ¬ 0 ∈ q) (h1 : f_Md_stands mi w 1 s = 0 ↔ ¬ 1 ∈ q) (h2 : f_Md_stands mi w 2 s = 0 ↔ ¬ 2 ∈ q) (h3 : f_Md_stands mi w 3 s = 0 ↔ ¬ 3 ∈ q) : f_Md_line mi w s = nI (kr_S 4 q) := by
  unfold f_Md_line
  rw [if_neg hs.1, if_pos hs.2]
  dsimp only [kr_S]
  simp only [h0, h1, h2, h3]
  by_cases a0 : 0 ∈ q <;> by_cases a1 : 1 ∈ q <;> by_cases a2 : 2 ∈ q <;> by_cases a3 : 3 ∈ q <;> simp [a0, a1, a2, a3] <;> decide
theorem rl_line {t : Nat} {mm : kt_M} {ops : Nat → kt_Op} {fl : kt_Ln} {tl : kt_Ln} {dk : kt_Dr} {co : kt_Dr} {fr : kt_Rq} {tr : kt_Rq} {ca : kt_Ca} {dv : Nat → Int32} {po : Nat → Int32} {mi : kt_I} {w : kt_W} {e : kt_E} {y : kt_Ca} {dw : Nat → Int32} {pw : Nat → Int32} {u : Int32} {r1 r2 : Int32}  (h : kr t mm ops fl tl dk co fr tr ca dv po mi w e y dw pw) (ht : t < 512) (h1 : r1 = f_RD_line mm fl tl u) (h2 : r2 = f_Md_line mi w u) : r1 = r2 ∧ kr (t + 1) mm ops fl tl dk co fr tr ca dv po mi w e y dw pw := by
  refine ⟨?_, rl_skip h⟩
  rw [h1, h2]
  obtain ⟨-, -, hf, hg, -⟩ := h
  rcases kr_01 u with rfl | rfl | a1 | ⟨a1, a2⟩
  · obtain ⟨q, x1, -, x3, x4⟩ := hf
    rw [kr_cnt (q := q) ⟨by decide, by decide⟩ ((kr_st0 rfl (by decide)).trans (not_congr (x3 0).symm)) ((kr_st0 rfl (by decide)).trans (not_congr (x3 1).symm)) ((kr_st0 rfl (by decide)).trans (not_congr (x3 2).symm)) ((kr_st0 rfl (by decide)).trans (not_congr (x3 3).symm)), ← kr_S_len 4 q (kr_nd x4) (fun x hx => ((x3 x).mp hx).1), ← x1]
    rfl
  · obtain ⟨q, x1, -, x3, x4⟩ := hg
    rw [kr_cnt (q := q) ⟨by decide, by decide⟩ ((kr_st1 rfl (by decide)).trans (not_congr (x3 0).symm)) ((kr_st1 rfl (by decide)).trans (not_congr (x3 1).symm)) ((kr_st1 rfl (by decide)).trans (not_congr (x3 2).symm)) ((kr_st1 rfl (by decide)).trans (not_congr (x3 3).symm)), ← kr_S_len 4 q (kr_nd x4) (fun x hx => ((x3 x).mp hx).1), ← x1]
    rfl
  · unfold f_RD_line f_Md_line
    rw [if_neg (kr_n0 a1).1, if_neg (kr_n0 a1).2, if_pos a1]
  · unfold f_RD_line f_Md_line
    rw [if_neg (kr_n1 a2).1, if_neg (kr_n1 a2).2, if_neg a1, if_neg a2]
theorem rl_init {n : Int32} {mm2 : kt_M} {mi4 : kt_I} (h1 : mm2 = f_RD_init n) (h2 : mi4 = f_Md_init n) : kr 0 mm2 (fun _ => (0, 0, 0, 0, 0, 0)) (fun _ => 0, 0) (fun _ => 0, 0) (0, 0, -1, 1, 0, 0) (0, 0, -1, 1, 0, 0) (0, 0, 0, 0, 0, 0, 0) (0, 0, 0, 0, 0, 0, 0) ((f_Ar_fill (fun _ => 0) (-1)), fun _ => 0, fun _ => 0, fun _ => 0) (fun _ => 0) (fun _ => 0) mi4 (fun _ => 0, fun _ => 0, fun _ => 0, fun _ => 0, fun _ => 0, fun _ => 0, fun _ => 0) (fun _ => 0, fun _ => 0, fun _ => 0, upd (upd (fun _ => 0) 0 (-1)) 1 (-1), fun _ => 0, fun _ => 0, fun _ => 0, fun _ => 0) (upd (upd (upd (fun _ => 0) 0 (-1)) 1 (-1)) 2 (-1), fun _ => 0, fun _ => 0, fun _ => 0) (fun _ => 0) (fun _ => 0) := by
  have hx : ∃ v : Int32, ¬ v = 0 ∧ mm2 = (v, 0, 0, 0) ∧ mi4 = (v, 0, 0, 0, 0, 0, 0, 0, 0) := by
    rw [h1, h2]
    unfold f_RD_init f_Md_init
    by_cases a1 : n < 2
    · exact ⟨5, by decide, by rw [if_pos a1], by rw [if_pos a1]⟩
    · by_cases a2 : 20 < n
      · exact ⟨5, by decide, by rw [if_neg a1, if_pos a2], by rw [if_neg a1, if_pos a2]⟩
      · exact ⟨n, fun e => a1 (by rw [e]; decide), by rw [if_neg a1, if_neg a2], by rw [if_neg a1, if_neg a2]⟩
  obtain ⟨v, hv, rfl, rfl⟩ := hx
  have hl : ∀ pr, kr_l (fun _ => 0, 0) (fun _ => 0, fun _ => 0, fun _ => 0, fun _ => 0, fun _ => 0, fun _ => 0, fun _ => 0) pr := fun pr => ⟨[], rfl, fun i h => absurd h (Nat.not_lt_zero i), fun u => ⟨fun h => absurd h List.not_mem_nil, fun h => absurd (show (0 : Int32) = 1 from h.2.1) (by decide)⟩, List.Pairwise.nil⟩
  refine ⟨⟨rfl, hv, rfl, ⟨show (0 : Int32) ≤ 0 by decide, show ¬ (200 : Int32) < 0 by decide⟩, rfl, rfl, ⟨0, Nat.le_refl _, rfl⟩, ⟨0, Nat.le_refl _, rfl, fun u hu h => absurd (show (0 : Int32) = 1 from h) (by decide)⟩⟩, fun u hu => ⟨rfl, rfl, fun h => absurd (show (0 : Int32) = 1 from h) (by decide)⟩, hl false, hl true, ⟨rfl, rfl, Or.inl rfl, Or.inr rfl, by decide, Or.inl rfl, fun h => absurd h (by decide), rfl, Or.inr ⟨rfl, rfl⟩⟩, ⟨rfl, rfl, Or.inl rfl, Or.inr rfl, by decide, Or.inl rfl, fun h => absurd h (by decide), rfl, Or.inr ⟨rfl, rfl⟩⟩, ⟨⟨show vp_in 0 16 by unfold vp_in; decide, show vp_in 0 3 by unfold vp_in; decide⟩, show vp_in 0 3 by unfold vp_in; decide, fun h => absurd rfl h, Or.inl ⟨rfl, rfl⟩⟩, ⟨fun h => absurd rfl h, Or.inl ⟨rfl, rfl⟩⟩, ⟨⟨0, 0, Nat.le_refl _, Nat.le_refl _, rfl, rfl, fun i hi => ⟨⟨0, Nat.le_refl _, rfl⟩, ⟨0, Nat.le_refl _, rfl⟩⟩⟩, fun i hi => ?_, fun i j hi hj hij he => ?_, fun i j hi hj => Iff.rfl⟩, rfl, rfl⟩
  · rcases (show i = 0 ∨ i = 1 ∨ i = 2 by omega) with rfl | rfl | rfl
    · exact ⟨by decide, Or.inl (by decide), fun h => absurd (by decide) h, rfl, Or.inl rfl, fun _ => rfl⟩
    · exact ⟨by decide, Or.inl (by decide), fun h => absurd (by decide) h, rfl, Or.inl rfl, fun _ => rfl⟩
    · exact ⟨by decide, Or.inl (by decide), fun h => absurd (by decide) h, rfl, Or.inl rfl, fun _ => rfl⟩
  · rcases (show i = 0 ∨ i = 1 ∨ i = 2 by omega) with rfl | rfl | rfl <;> decide
