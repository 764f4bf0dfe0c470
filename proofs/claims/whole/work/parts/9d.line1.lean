/-! READING, the class: the other lines -/
section qAK
variable {l : Launch} {d : Nat} {D : Nat → Bool} {x y : aS} {n t : Nat} {B : Nat → Nat} {r r' : zP} {T : zT}
theorem rT_man {k : Nat} {a0 a2 a4 : Int32} {a1 a3 : Nat} (h : rT T x t) (bd : tBd T) (hk : k = T.1 1) (hk8 : k < 8) (fr : ∀ m j, t ≤ m → m < t + 130 → ¬ ((t + 6 ≤ m ∧ m ≤ t + 10 ∧ j = k) ∨ (m = t ∧ j = 4)) → y.1 m j = x.1 m j) (v0 : y.1 (t + 6) k = a0) (v1 : y.1 (t + 7) k = nI a1) (v2 : y.1 (t + 8) k = a2) (v3 : y.1 (t + 9) k = nI a3) (v4 : y.1 (t + 10) k = a4) (hc : y.1 t 4 = nI (k + 1)) : rT (tu1 (tui (tun (tui (tun (tui T 2 k a0) 0 k a1) 3 k a2) 1 k a3) 4 k a4) 1 (k + 1)) y t := by
  obtain ⟨b0, b1, b2, b3, b4⟩ := bd
  obtain ⟨h1, h2, h3, h4, h5, h6, h7, h8, h9, h10, h11, h12, h13, h14⟩ := h
  refine ⟨by rw [fr _ _ (by omega) (by omega) (by omega)]; exact h1, hc, by rw [fr _ _ (by omega) (by omega) (by omega)]; exact h3, by rw [fr _ _ (by omega) (by omega) (by omega)]; exact h4, by rw [fr _ _ (by omega) (by omega) (by omega)]; exact h5, by rw [fr _ _ (by omega) (by omega) (by omega)]; exact h6, by rw [fr _ _ (by omega) (by omega) (by omega)]; exact h7, by rw [fr _ _ (by omega) (by omega) (by omega)]; exact h8, by rw [fr _ _ (by omega) (by omega) (by omega)]; exact h9, fun i hi => ?_, fun i hi => ?_, fun i hi => ?_, fun i hi => ?_, fun i hi => ?_⟩
  · have hi : i < T.1 0 := hi
    rw [fr _ _ (by omega) (by omega) (by omega), fr _ _ (by omega) (by omega) (by omega)]; exact h10 i hi
  · have hi : i < k + 1 := hi
    by_cases e : i = k
    · subst e; simp [tu1, tui, tun, v0, v1, v2, v3, v4]
    · have := h11 i (by omega)
      simp only [tu1, tui, tun, e, and_false, if_false]
      rw [fr _ _ (by omega) (by omega) (by omega), fr _ _ (by omega) (by omega) (by omega), fr _ _ (by omega) (by omega) (by omega), fr _ _ (by omega) (by omega) (by omega), fr _ _ (by omega) (by omega) (by omega)]
      exact this
  · have hi : i < T.1 2 := hi
    rw [fr _ _ (by omega) (by omega) (by omega), fr _ _ (by omega) (by omega) (by omega), fr _ _ (by omega) (by omega) (by omega), fr _ _ (by omega) (by omega) (by omega), fr _ _ (by omega) (by omega) (by omega)]; exact h12 i hi
  · have hi : i < T.1 3 := hi
    rw [fr _ _ (by omega) (by omega) (by omega), fr _ _ (by omega) (by omega) (by omega), fr _ _ (by omega) (by omega) (by omega)]; exact h13 i hi
  · have hi : i < T.1 4 := hi
    rw [fr _ _ (by omega) (by omega) (by omega)]; exact h14 i hi
theorem rT_deed {k : Nat} {a2 a3 : Int32} {a0 a1 a4 : Nat} (h : rT T x t) (bd : tBd T) (hk : k = T.1 2) (hk8 : k < 14) (fr : ∀ m j, t ≤ m → m < t + 130 → ¬ (m = t + 12 + 88 + k ∨ (m = t ∧ j = 10)) → y.1 m j = x.1 m j) (v0 : y.1 (t + 12 + 88 + k) 0 = nI a0) (v1 : y.1 (t + 12 + 88 + k) 1 = nI a1) (v2 : y.1 (t + 12 + 88 + k) 2 = a2) (v3 : y.1 (t + 12 + 88 + k) 3 = a3) (v4 : y.1 (t + 12 + 88 + k) 4 = nI a4) (hc : y.1 t 10 = nI (k + 1)) : rT (tu1 (tui (tui (tun (tun (tun T 4 k a4) 2 k a0) 3 k a1) 5 k a2) 6 k a3) 2 (k + 1)) y t := by
  obtain ⟨b0, b1, b2, b3, b4⟩ := bd
  obtain ⟨h1, h2, h3, h4, h5, h6, h7, h8, h9, h10, h11, h12, h13, h14⟩ := h
  refine ⟨by rw [fr _ _ (by omega) (by omega) (by omega)]; exact h1, by rw [fr _ _ (by omega) (by omega) (by omega)]; exact h2, hc, by rw [fr _ _ (by omega) (by omega) (by omega)]; exact h4, by rw [fr _ _ (by omega) (by omega) (by omega)]; exact h5, by rw [fr _ _ (by omega) (by omega) (by omega)]; exact h6, by rw [fr _ _ (by omega) (by omega) (by omega)]; exact h7, by rw [fr _ _ (by omega) (by omega) (by omega)]; exact h8, by rw [fr _ _ (by omega) (by omega) (by omega)]; exact h9, fun i hi => ?_, fun i hi => ?_, fun i hi => ?_, fun i hi => ?_, fun i hi => ?_⟩
  · have hi : i < T.1 0 := hi
    rw [fr _ _ (by omega) (by omega) (by omega), fr _ _ (by omega) (by omega) (by omega)]; exact h10 i hi
  · have hi : i < T.1 1 := hi
    rw [fr _ _ (by omega) (by omega) (by omega), fr _ _ (by omega) (by omega) (by omega), fr _ _ (by omega) (by omega) (by omega), fr _ _ (by omega) (by omega) (by omega), fr _ _ (by omega) (by omega) (by omega)]; exact h11 i hi
  · have hi : i < k + 1 := hi
    by_cases e : i = k
    · subst e; simp [tu1, tui, tun, v0, v1, v2, v3, v4]
    · have := h12 i (by omega)
      simp only [tu1, tui, tun, e, and_false, if_false]
      rw [fr _ _ (by omega) (by omega) (by omega), fr _ _ (by omega) (by omega) (by omega), fr _ _ (by omega) (by omega) (by omega), fr _ _ (by omega) (by omega) (by omega), fr _ _ (by omega) (by omega) (by omega)]
      exact this
  · have hi : i < T.1 3 := hi
    rw [fr _ _ (by omega) (by omega) (by omega), fr _ _ (by omega) (by omega) (by omega), fr _ _ (by omega) (by omega) (by omega)]; exact h13 i hi
  · have hi : i < T.1 4 := hi
    rw [fr _ _ (by omega) (by omega) (by omega)]; exact h14 i hi
theorem rT_wed {k : Nat} {a2 : Int32} {a0 a1 : Nat} (h : rT T x t) (bd : tBd T) (hk : k = T.1 3) (hk8 : k < 6) (fr : ∀ m j, t ≤ m → m < t + 130 → ¬ (m = t + 14 + 106 + k ∨ (m = t ∧ j = 12)) → y.1 m j = x.1 m j) (v0 : y.1 (t + 14 + 106 + k) 0 = nI a0) (v1 : y.1 (t + 14 + 106 + k) 1 = nI a1) (v2 : y.1 (t + 14 + 106 + k) 2 = a2) (hc : y.1 t 12 = nI (k + 1)) : rT (tu1 (tui (tun (tun T 5 k a0) 6 k a1) 7 k a2) 3 (k + 1)) y t := by
  obtain ⟨b0, b1, b2, b3, b4⟩ := bd
  obtain ⟨h1, h2, h3, h4, h5, h6, h7, h8, h9, h10, h11, h12, h13, h14⟩ := h
  refine ⟨by rw [fr _ _ (by omega) (by omega) (by omega)]; exact h1, by rw [fr _ _ (by omega) (by omega) (by omega)]; exact h2, by rw [fr _ _ (by omega) (by omega) (by omega)]; exact h3, hc, by rw [fr _ _ (by omega) (by omega) (by omega)]; exact h5, by rw [fr _ _ (by omega) (by omega) (by omega)]; exact h6, by rw [fr _ _ (by omega) (by omega) (by omega)]; exact h7, by rw [fr _ _ (by omega) (by omega) (by omega)]; exact h8, by rw [fr _ _ (by omega) (by omega) (by omega)]; exact h9, fun i hi => ?_, fun i hi => ?_, fun i hi => ?_, fun i hi => ?_, fun i hi => ?_⟩
  · have hi : i < T.1 0 := hi
    rw [fr _ _ (by omega) (by omega) (by omega), fr _ _ (by omega) (by omega) (by omega)]; exact h10 i hi
  · have hi : i < T.1 1 := hi
    rw [fr _ _ (by omega) (by omega) (by omega), fr _ _ (by omega) (by omega) (by omega), fr _ _ (by omega) (by omega) (by omega), fr _ _ (by omega) (by omega) (by omega), fr _ _ (by omega) (by omega) (by omega)]; exact h11 i hi
  · have hi : i < T.1 2 := hi
    rw [fr _ _ (by omega) (by omega) (by omega), fr _ _ (by omega) (by omega) (by omega), fr _ _ (by omega) (by omega) (by omega), fr _ _ (by omega) (by omega) (by omega), fr _ _ (by omega) (by omega) (by omega)]; exact h12 i hi
  · have hi : i < k + 1 := hi
    by_cases e : i = k
    · subst e; simp [tu1, tui, tun, v0, v1, v2]
    · have := h13 i (by omega)
      simp only [tu1, tui, tun, e, and_false, if_false]
      rw [fr _ _ (by omega) (by omega) (by omega), fr _ _ (by omega) (by omega) (by omega), fr _ _ (by omega) (by omega) (by omega)]
      exact this
  · have hi : i < T.1 4 := hi
    rw [fr _ _ (by omega) (by omega) (by omega)]; exact h14 i hi
theorem rT_strip {k : Nat} {a0 : Int32} (h : rT T x t) (bd : tBd T) (hk : k = T.1 4) (hk8 : k < 4) (fr : ∀ m j, t ≤ m → m < t + 130 → ¬ ((m = t + 16 ∧ j = k) ∨ (m = t ∧ j = 14)) → y.1 m j = x.1 m j) (v0 : y.1 (t + 16) k = a0) (hc : y.1 t 14 = nI (k + 1)) : rT (tu1 (tui T 8 k a0) 4 (k + 1)) y t := by
  obtain ⟨b0, b1, b2, b3, b4⟩ := bd
  obtain ⟨h1, h2, h3, h4, h5, h6, h7, h8, h9, h10, h11, h12, h13, h14⟩ := h
  refine ⟨by rw [fr _ _ (by omega) (by omega) (by omega)]; exact h1, by rw [fr _ _ (by omega) (by omega) (by omega)]; exact h2, by rw [fr _ _ (by omega) (by omega) (by omega)]; exact h3, by rw [fr _ _ (by omega) (by omega) (by omega)]; exact h4, hc, by rw [fr _ _ (by omega) (by omega) (by omega)]; exact h6, by rw [fr _ _ (by omega) (by omega) (by omega)]; exact h7, by rw [fr _ _ (by omega) (by omega) (by omega)]; exact h8, by rw [fr _ _ (by omega) (by omega) (by omega)]; exact h9, fun i hi => ?_, fun i hi => ?_, fun i hi => ?_, fun i hi => ?_, fun i hi => ?_⟩
  · have hi : i < T.1 0 := hi
    rw [fr _ _ (by omega) (by omega) (by omega), fr _ _ (by omega) (by omega) (by omega)]; exact h10 i hi
  · have hi : i < T.1 1 := hi
    rw [fr _ _ (by omega) (by omega) (by omega), fr _ _ (by omega) (by omega) (by omega), fr _ _ (by omega) (by omega) (by omega), fr _ _ (by omega) (by omega) (by omega), fr _ _ (by omega) (by omega) (by omega)]; exact h11 i hi
  · have hi : i < T.1 2 := hi
    rw [fr _ _ (by omega) (by omega) (by omega), fr _ _ (by omega) (by omega) (by omega), fr _ _ (by omega) (by omega) (by omega), fr _ _ (by omega) (by omega) (by omega), fr _ _ (by omega) (by omega) (by omega)]; exact h12 i hi
  · have hi : i < T.1 3 := hi
    rw [fr _ _ (by omega) (by omega) (by omega), fr _ _ (by omega) (by omega) (by omega), fr _ _ (by omega) (by omega) (by omega)]; exact h13 i hi
  · have hi : i < k + 1 := hi
    by_cases e : i = k
    · subst e; simp [tu1, tui, tun, v0]
    · have := h14 i (by omega)
      simp only [tu1, tui, tun, e, and_false, if_false]
      rw [fr _ _ (by omega) (by omega) (by omega)]
      exact this
theorem rT_damp {k : Nat}  (h : rT T x t) (bd : tBd T)  (fr : ∀ m j, t ≤ m → m < t + 130 → ¬ (m = t ∧ j = 16) → y.1 m j = x.1 m j) (hc : y.1 t 16 = nI k) : rT (tu1 T 5 k) y t := by
  obtain ⟨b0, b1, b2, b3, b4⟩ := bd
  obtain ⟨h1, h2, h3, h4, h5, h6, h7, h8, h9, h10, h11, h12, h13, h14⟩ := h
  refine ⟨by rw [fr _ _ (by omega) (by omega) (by omega)]; exact h1, by rw [fr _ _ (by omega) (by omega) (by omega)]; exact h2, by rw [fr _ _ (by omega) (by omega) (by omega)]; exact h3, by rw [fr _ _ (by omega) (by omega) (by omega)]; exact h4, by rw [fr _ _ (by omega) (by omega) (by omega)]; exact h5, hc, by rw [fr _ _ (by omega) (by omega) (by omega)]; exact h7, by rw [fr _ _ (by omega) (by omega) (by omega)]; exact h8, by rw [fr _ _ (by omega) (by omega) (by omega)]; exact h9, fun i hi => ?_, fun i hi => ?_, fun i hi => ?_, fun i hi => ?_, fun i hi => ?_⟩
  · have hi : i < T.1 0 := hi
    rw [fr _ _ (by omega) (by omega) (by omega), fr _ _ (by omega) (by omega) (by omega)]; exact h10 i hi
  · have hi : i < T.1 1 := hi
    rw [fr _ _ (by omega) (by omega) (by omega), fr _ _ (by omega) (by omega) (by omega), fr _ _ (by omega) (by omega) (by omega), fr _ _ (by omega) (by omega) (by omega), fr _ _ (by omega) (by omega) (by omega)]; exact h11 i hi
  · have hi : i < T.1 2 := hi
    rw [fr _ _ (by omega) (by omega) (by omega), fr _ _ (by omega) (by omega) (by omega), fr _ _ (by omega) (by omega) (by omega), fr _ _ (by omega) (by omega) (by omega), fr _ _ (by omega) (by omega) (by omega)]; exact h12 i hi
  · have hi : i < T.1 3 := hi
    rw [fr _ _ (by omega) (by omega) (by omega), fr _ _ (by omega) (by omega) (by omega), fr _ _ (by omega) (by omega) (by omega)]; exact h13 i hi
  · have hi : i < T.1 4 := hi
    rw [fr _ _ (by omega) (by omega) (by omega)]; exact h14 i hi
theorem rT_seed {k : Nat}  (h : rT T x t) (bd : tBd T)  (fr : ∀ m j, t ≤ m → m < t + 130 → ¬ (m = t ∧ j = 17) → y.1 m j = x.1 m j) (hc : y.1 t 17 = nI k) : rT (tu1 T 6 k) y t := by
  obtain ⟨b0, b1, b2, b3, b4⟩ := bd
  obtain ⟨h1, h2, h3, h4, h5, h6, h7, h8, h9, h10, h11, h12, h13, h14⟩ := h
  refine ⟨by rw [fr _ _ (by omega) (by omega) (by omega)]; exact h1, by rw [fr _ _ (by omega) (by omega) (by omega)]; exact h2, by rw [fr _ _ (by omega) (by omega) (by omega)]; exact h3, by rw [fr _ _ (by omega) (by omega) (by omega)]; exact h4, by rw [fr _ _ (by omega) (by omega) (by omega)]; exact h5, by rw [fr _ _ (by omega) (by omega) (by omega)]; exact h6, hc, by rw [fr _ _ (by omega) (by omega) (by omega)]; exact h8, by rw [fr _ _ (by omega) (by omega) (by omega)]; exact h9, fun i hi => ?_, fun i hi => ?_, fun i hi => ?_, fun i hi => ?_, fun i hi => ?_⟩
  · have hi : i < T.1 0 := hi
    rw [fr _ _ (by omega) (by omega) (by omega), fr _ _ (by omega) (by omega) (by omega)]; exact h10 i hi
  · have hi : i < T.1 1 := hi
    rw [fr _ _ (by omega) (by omega) (by omega), fr _ _ (by omega) (by omega) (by omega), fr _ _ (by omega) (by omega) (by omega), fr _ _ (by omega) (by omega) (by omega), fr _ _ (by omega) (by omega) (by omega)]; exact h11 i hi
  · have hi : i < T.1 2 := hi
    rw [fr _ _ (by omega) (by omega) (by omega), fr _ _ (by omega) (by omega) (by omega), fr _ _ (by omega) (by omega) (by omega), fr _ _ (by omega) (by omega) (by omega), fr _ _ (by omega) (by omega) (by omega)]; exact h12 i hi
  · have hi : i < T.1 3 := hi
    rw [fr _ _ (by omega) (by omega) (by omega), fr _ _ (by omega) (by omega) (by omega), fr _ _ (by omega) (by omega) (by omega)]; exact h13 i hi
  · have hi : i < T.1 4 := hi
    rw [fr _ _ (by omega) (by omega) (by omega)]; exact h14 i hi
theorem rT_knots {k : Nat}  (h : rT T x t) (bd : tBd T)  (fr : ∀ m j, t ≤ m → m < t + 130 → ¬ (m = t ∧ j = 18) → y.1 m j = x.1 m j) (hc : y.1 t 18 = nI k) : rT (tu1 T 7 k) y t := by
  obtain ⟨b0, b1, b2, b3, b4⟩ := bd
  obtain ⟨h1, h2, h3, h4, h5, h6, h7, h8, h9, h10, h11, h12, h13, h14⟩ := h
  refine ⟨by rw [fr _ _ (by omega) (by omega) (by omega)]; exact h1, by rw [fr _ _ (by omega) (by omega) (by omega)]; exact h2, by rw [fr _ _ (by omega) (by omega) (by omega)]; exact h3, by rw [fr _ _ (by omega) (by omega) (by omega)]; exact h4, by rw [fr _ _ (by omega) (by omega) (by omega)]; exact h5, by rw [fr _ _ (by omega) (by omega) (by omega)]; exact h6, by rw [fr _ _ (by omega) (by omega) (by omega)]; exact h7, hc, by rw [fr _ _ (by omega) (by omega) (by omega)]; exact h9, fun i hi => ?_, fun i hi => ?_, fun i hi => ?_, fun i hi => ?_, fun i hi => ?_⟩
  · have hi : i < T.1 0 := hi
    rw [fr _ _ (by omega) (by omega) (by omega), fr _ _ (by omega) (by omega) (by omega)]; exact h10 i hi
  · have hi : i < T.1 1 := hi
    rw [fr _ _ (by omega) (by omega) (by omega), fr _ _ (by omega) (by omega) (by omega), fr _ _ (by omega) (by omega) (by omega), fr _ _ (by omega) (by omega) (by omega), fr _ _ (by omega) (by omega) (by omega)]; exact h11 i hi
  · have hi : i < T.1 2 := hi
    rw [fr _ _ (by omega) (by omega) (by omega), fr _ _ (by omega) (by omega) (by omega), fr _ _ (by omega) (by omega) (by omega), fr _ _ (by omega) (by omega) (by omega), fr _ _ (by omega) (by omega) (by omega)]; exact h12 i hi
  · have hi : i < T.1 3 := hi
    rw [fr _ _ (by omega) (by omega) (by omega), fr _ _ (by omega) (by omega) (by omega), fr _ _ (by omega) (by omega) (by omega)]; exact h13 i hi
  · have hi : i < T.1 4 := hi
    rw [fr _ _ (by omega) (by omega) (by omega)]; exact h14 i hi
theorem rT_lines {k : Nat}  (h : rT T x t) (bd : tBd T)  (fr : ∀ m j, t ≤ m → m < t + 130 → ¬ (m = t ∧ j = 0) → y.1 m j = x.1 m j) (hc : y.1 t 0 = nI k) : rT (tu1 T 8 k) y t := by
  obtain ⟨b0, b1, b2, b3, b4⟩ := bd
  obtain ⟨h1, h2, h3, h4, h5, h6, h7, h8, h9, h10, h11, h12, h13, h14⟩ := h
  refine ⟨by rw [fr _ _ (by omega) (by omega) (by omega)]; exact h1, by rw [fr _ _ (by omega) (by omega) (by omega)]; exact h2, by rw [fr _ _ (by omega) (by omega) (by omega)]; exact h3, by rw [fr _ _ (by omega) (by omega) (by omega)]; exact h4, by rw [fr _ _ (by omega) (by omega) (by omega)]; exact h5, by rw [fr _ _ (by omega) (by omega) (by omega)]; exact h6, by rw [fr _ _ (by omega) (by omega) (by omega)]; exact h7, by rw [fr _ _ (by omega) (by omega) (by omega)]; exact h8, hc, fun i hi => ?_, fun i hi => ?_, fun i hi => ?_, fun i hi => ?_, fun i hi => ?_⟩
  · have hi : i < T.1 0 := hi
    rw [fr _ _ (by omega) (by omega) (by omega), fr _ _ (by omega) (by omega) (by omega)]; exact h10 i hi
  · have hi : i < T.1 1 := hi
    rw [fr _ _ (by omega) (by omega) (by omega), fr _ _ (by omega) (by omega) (by omega), fr _ _ (by omega) (by omega) (by omega), fr _ _ (by omega) (by omega) (by omega), fr _ _ (by omega) (by omega) (by omega)]; exact h11 i hi
  · have hi : i < T.1 2 := hi
    rw [fr _ _ (by omega) (by omega) (by omega), fr _ _ (by omega) (by omega) (by omega), fr _ _ (by omega) (by omega) (by omega), fr _ _ (by omega) (by omega) (by omega), fr _ _ (by omega) (by omega) (by omega)]; exact h12 i hi
  · have hi : i < T.1 3 := hi
    rw [fr _ _ (by omega) (by omega) (by omega), fr _ _ (by omega) (by omega) (by omega), fr _ _ (by omega) (by omega) (by omega)]; exact h13 i hi
  · have hi : i < T.1 4 := hi
    rw [fr _ _ (by omega) (by omega) (by omega)]; exact h14 i hi
end qAK
