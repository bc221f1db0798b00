/-! beginning: the whole -/
theorem kr_bi {t : Nat} {mm : kt_M} {mi : kt_I} {w : kt_W} {j : Nat} {k b' v : Int32} (h : kr_i t mm mi w) : kr_i (t + 1) mm (mi.1, mi.2.1, mi.2.2.1 + 1, mi.2.2.2.1, mi.2.2.2.2.1, mi.2.2.2.2.2.1, mi.2.2.2.2.2.2.1, mi.2.2.2.2.2.2.2.1, mi.2.2.2.2.2.2.2.2) (upd w.1 j (k + 1), upd w.2.1 j b', upd w.2.2.1 j v, upd w.2.2.2.1 j (mi.2.2.1 + 1), upd w.2.2.2.2.1 j 1, upd w.2.2.2.2.2.1 j 0, upd w.2.2.2.2.2.2 j 0) := by
  obtain ⟨h1, h2, h3, h4, h5, h6, ⟨a, ha, ea⟩, ⟨g, hg, eg, hu⟩⟩ := h
  refine ⟨h1, h2, h3, h4, h5, h6, ⟨a, by omega, ea⟩, ⟨g + 1, by omega, ?_, fun u hu4 hs => ?_⟩⟩
  · show mi.2.2.1 + 1 = _
    rw [eg, nI_1]
  · by_cases e : u = j
    · subst e
      refine ⟨g + 1, Nat.le_refl _, ?_⟩
      show upd w.2.2.2.1 u (mi.2.2.1 + 1) u = _
      rw [pk_us, eg, nI_1]
    · have hs : upd w.2.2.2.2.1 j 1 u = 1 := hs
      rw [pk_un e] at hs
      obtain ⟨a2, x1, x2⟩ := hu u hu4 hs
      refine ⟨a2, by omega, ?_⟩
      show upd w.2.2.2.1 j (mi.2.2.1 + 1) u = _
      rw [pk_un e, x2]
theorem kr_bg {t : Nat} {mm : kt_M} {mi : kt_I} {w : kt_W} {j : Nat} (ht : t < 512) (h : kr_i t mm mi w) (u : Nat) (hu : u < 4) (hs : w.2.2.2.2.1 u = 1) : (w.2.2.2.1 u).toInt < (upd w.2.2.2.1 j (mi.2.2.1 + 1) j).toInt := by
  obtain ⟨-, -, -, -, -, -, -, ⟨g, hg, eg, hh⟩⟩ := h
  obtain ⟨a, x1, x2⟩ := hh u hu hs
  rw [pk_us, eg, nI_1, x2, nI_toInt (by omega), nI_toInt (by omega)]
  omega
theorem kr_bo {ops : Nat → kt_Op} {mi : kt_I} {w : kt_W} {j : Nat} {k b b' v : Int32} (h : ∀ u, u < 4 → kr_o (ops u) w u) (hk : k = 0 ∨ k = 1 ∨ k = 2 ∨ k = 3) (hb : (k = 0 ∨ k = 1) → b' = b ∧ vp_in b 16) : ∀ u, u < 4 → kr_o (va_up ops j (k, b, v, 0, 1, 0) u) (upd w.1 j (k + 1), upd w.2.1 j b', upd w.2.2.1 j v, upd w.2.2.2.1 j (mi.2.2.1 + 1), upd w.2.2.2.2.1 j 1, upd w.2.2.2.2.2.1 j 0, upd w.2.2.2.2.2.2 j 0) u := by
  intro u hu
  by_cases e : u = j
  · subst e
    rw [va_up_self]
    exact ⟨pk_us, pk_us, fun _ => ⟨pk_us, hk, fun q => ⟨pk_us.trans (hb q).1, (hb q).2⟩, pk_us, pk_us⟩⟩
  · rw [va_up_ne _ _ e]
    have h1 := h u hu
    unfold kr_o at h1 ⊢
    dsimp only
    rw [pk_un e, pk_un e, pk_un e, pk_un e, pk_un e, pk_un e]
    exact h1
theorem kr_bf {t : Nat} {mm : kt_M} {ops : Nat → kt_Op} {fl : kt_Ln} {tl : kt_Ln} {dk : kt_Dr} {co : kt_Dr} {fr : kt_Rq} {tr : kt_Rq} {ca : kt_Ca} {dv : Nat → Int32} {po : Nat → Int32} {mi : kt_I} {w : kt_W} {e : kt_E} {y : kt_Ca} {dw : Nat → Int32} {pw : Nat → Int32} {j : Nat} {k b b' v : Int32} (h : kr t mm ops fl tl dk co fr tr ca dv po mi w e y dw pw) (ht : t < 512) (hj : j < 4) (hs : ¬ (ops j).2.2.2.2.1 = 1) (hk : k = 0 ∨ k = 1 ∨ k = 2) (hb : (k = 0 ∨ k = 1) → b' = b ∧ vp_in b 16) : kr (t + 1) mm (va_up ops j (k, b, v, 0, 1, 0)) (f_Ln_join fl (nI j)) tl dk co fr tr ca dv po (mi.1, mi.2.1, mi.2.2.1 + 1, mi.2.2.2.1, mi.2.2.2.2.1, mi.2.2.2.2.2.1, mi.2.2.2.2.2.2.1, mi.2.2.2.2.2.2.2.1, mi.2.2.2.2.2.2.2.2) (upd w.1 j (k + 1), upd w.2.1 j b', upd w.2.2.1 j v, upd w.2.2.2.1 j (mi.2.2.1 + 1), upd w.2.2.2.2.1 j 1, upd w.2.2.2.2.2.1 j 0, upd w.2.2.2.2.2.2 j 0) e y dw pw := by
  obtain ⟨hi, ho, hf, hg, hd, hc, hq, hr, hy, e12⟩ := h
  have hn : ¬ w.2.2.2.2.1 j = 1 := by rw [(ho j hj).1]; exact hs
  have hk4 : ¬ k + 1 = 4 := by rcases hk with rfl | rfl | rfl <;> decide
  have hoth : ∀ u, u ≠ j → upd w.1 j (k + 1) u = w.1 u ∧ upd w.2.2.2.2.1 j 1 u = w.2.2.2.2.1 u ∧ upd w.2.2.2.1 j (mi.2.2.1 + 1) u = w.2.2.2.1 u := fun u hu => ⟨pk_un hu, pk_un hu, pk_un hu⟩
  refine ⟨kr_bi hi, kr_bo (mi := mi) ho (by rcases hk with q | q | q; exact Or.inl q; exact Or.inr (Or.inl q); exact Or.inr (Or.inr (Or.inl q))) hb, kr_lj hf hj hn ⟨hj, pk_us, ?_⟩ hoth (kr_bg ht hi), kr_lo hg hn (fun q => ?_) hoth, hd, hc, hq, ?_, hy.up, e12⟩
  · show upd w.1 j (k + 1) j = 4 ↔ _
    rw [pk_us]
    exact ⟨fun q => absurd q hk4, fun q => absurd q (by decide)⟩
  · have q3 : upd w.1 j (k + 1) j = 4 ↔ true = true := q.2.2
    rw [pk_us] at q3
    exact hk4 (q3.mpr rfl)
  · refine ⟨hr.1, hr.2.imp id (fun ⟨x1, x2, x3, x4, x5⟩ => ⟨x1, x2, x3, ?_, x5⟩)⟩
    obtain ⟨u, y1, y2⟩ := kr_hd hg x3
    rw [y1, nI_clamp (by have := y2.1; omega)] at x4 ⊢
    have huj : u ≠ j := fun e9 => hn (by rw [← e9]; exact y2.2.1)
    rw [va_up_ne _ _ huj]
    exact x4
theorem kr_bp {t : Nat} {mm : kt_M} {ops : Nat → kt_Op} {fl : kt_Ln} {tl : kt_Ln} {dk : kt_Dr} {co : kt_Dr} {fr : kt_Rq} {tr : kt_Rq} {ca : kt_Ca} {dv : Nat → Int32} {po : Nat → Int32} {mi : kt_I} {w : kt_W} {e : kt_E} {y : kt_Ca} {dw : Nat → Int32} {pw : Nat → Int32} {j : Nat} {b b' v : Int32} (h : kr t mm ops fl tl dk co fr tr ca dv po mi w e y dw pw) (ht : t < 512) (hj : j < 4) (hs : ¬ (ops j).2.2.2.2.1 = 1) : kr (t + 1) mm (va_up ops j (3, b, v, 0, 1, 0)) fl (f_Ln_join tl (nI j)) dk co fr tr ca dv po (mi.1, mi.2.1, mi.2.2.1 + 1, mi.2.2.2.1, mi.2.2.2.2.1, mi.2.2.2.2.2.1, mi.2.2.2.2.2.2.1, mi.2.2.2.2.2.2.2.1, mi.2.2.2.2.2.2.2.2) (upd w.1 j (3 + 1), upd w.2.1 j b', upd w.2.2.1 j v, upd w.2.2.2.1 j (mi.2.2.1 + 1), upd w.2.2.2.2.1 j 1, upd w.2.2.2.2.2.1 j 0, upd w.2.2.2.2.2.2 j 0) e y dw pw := by
  obtain ⟨hi, ho, hf, hg, hd, hc, hq, hr, hy, e12⟩ := h
  have hn : ¬ w.2.2.2.2.1 j = 1 := by rw [(ho j hj).1]; exact hs
  have hoth : ∀ u, u ≠ j → upd w.1 j (3 + 1) u = w.1 u ∧ upd w.2.2.2.2.1 j 1 u = w.2.2.2.2.1 u ∧ upd w.2.2.2.1 j (mi.2.2.1 + 1) u = w.2.2.2.1 u := fun u hu => ⟨pk_un hu, pk_un hu, pk_un hu⟩
  refine ⟨kr_bi hi, kr_bo (mi := mi) ho (Or.inr (Or.inr (Or.inr rfl))) (fun q => by rcases q with q | q <;> exact absurd q (by decide)), kr_lo hf hn (fun q => ?_) hoth, kr_lj hg hj hn ⟨hj, pk_us, ?_⟩ hoth (kr_bg ht hi), hd, hc, hq, ?_, hy.up, e12⟩
  · have q3 : upd w.1 j (3 + 1) j = 4 ↔ false = true := q.2.2
    rw [pk_us] at q3
    exact absurd (q3.mp (by decide)) (by decide)
  · show upd w.1 j (3 + 1) j = 4 ↔ _
    rw [pk_us]
    exact ⟨fun _ => rfl, fun _ => by decide⟩
  · refine ⟨hr.1, hr.2.imp id (fun ⟨x1, x2, x3, x4, x5⟩ => ⟨x1, x2, (kr_jhd hg x3).2, ?_, x5⟩)⟩
    rw [(kr_jhd hg x3).1]
    obtain ⟨u, y1, y2⟩ := kr_hd hg x3
    rw [y1, nI_clamp (by have := y2.1; omega)] at x4 ⊢
    have huj : u ≠ j := fun e9 => hn (by rw [← e9]; exact y2.2.1)
    rw [va_up_ne _ _ huj]
    exact x4
