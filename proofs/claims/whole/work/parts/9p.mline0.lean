/-! READING, the model: the halves that are read into, as a memory of their own -/
def hlf (f : Nat) : Nat := if f = 26 then 2 else if f = 27 ∨ f = 28 then 6 else if 29 ≤ f ∧ f ≤ 33 then 8 else if 34 ≤ f ∧ f ≤ 38 then 14 else if 39 ≤ f ∧ f ≤ 41 then 6 else if f = 42 then 4 else if 43 ≤ f ∧ f ≤ 45 then 3 else if 46 ≤ f ∧ f ≤ 48 then 64 else 0
def shr (x : aS) : aS := (fun m j => if m = bM then x.1 bM (j + 6) else x.1 m (hlf (m - bM) + j), x.2)
theorem shr_0 (x : aS) (j : Nat) : (shr x).1 bM j = x.1 bM (j + 6) := by unfold shr; simp
theorem shr_r (x : aS) {c j h : Nat} (hc : 0 < c) (e : hlf c = h) : (shr x).1 (bM + c) j = x.1 (bM + c) (h + j) := by
  unfold shr
  simp only [show ¬ bM + c = bM by omega, if_false, show bM + c - bM = c by omega, e]
/-- cells of a line: a count, and a place in some rows -/
def lnC (a lo hi i m j : Nat) : Prop := (m = bM ∧ j = a) ∨ (bM + lo ≤ m ∧ m ≤ bM + hi ∧ j = i)
section qAW
variable {l : Launch} {d : Nat} {D : Nat → Bool} {x y : aS} {n : Nat} {B : Nat → Nat} {r r' : zP} {T : zT}
theorem shr_fr {a lo hi h k : Nat} (ha : 18 ≤ a) (hh : ∀ c, lo ≤ c → c ≤ hi → hlf c = h) (hlo : 0 < lo) (F : mW (lnC a lo hi (h + k)) x y) : ∀ m j, bM ≤ m → (m = bM → 12 ≤ j) → ¬ ((bM + lo ≤ m ∧ m ≤ bM + hi ∧ j = k) ∨ (m = bM ∧ j = a - 6)) → (shr y).1 m j = (shr x).1 m j := by
  intro m j h1 h2 h3
  by_cases e : m = bM
  · subst e
    rw [shr_0, shr_0]
    exact F.1 _ _ (fun g => by unfold mUc at g; omega) (fun g => by unfold lnC at g; omega)
  · obtain ⟨c, rfl⟩ : ∃ c, m = bM + c := ⟨m - bM, by omega⟩
    rw [shr_r x (by omega) rfl, shr_r y (by omega) rfl]
    refine F.1 _ _ (fun g => by unfold mUc at g; omega) (fun g => ?_)
    rcases g with g | ⟨g1, g2, g3⟩
    · omega
    · rw [hh c (by omega) (by omega)] at g3
      exact h3 (Or.inl ⟨g1, g2, by omega⟩)
theorem rTM_house {k : Nat} {a0 a1 : Int32} (h : rTM T x) (bd : tBd T) (hk : k = T.1 0) (hk8 : k < 6) (fr : ∀ m j, bM ≤ m → (m = bM → 12 ≤ j) → ¬ ((bM + 27 ≤ m ∧ m ≤ bM + 28 ∧ j = k) ∨ (m = bM ∧ j = 12)) → y.1 m j = x.1 m j) (v0 : y.1 (bM + 27) k = a0) (v1 : y.1 (bM + 28) k = a1) (hc : y.1 bM 12 = nI (k + 1)) : rTM (tu1 (tui (tui T 0 k a0) 1 k a1) 0 (k + 1)) y := by
  obtain ⟨b0, b1, b2, b3, b4⟩ := bd
  obtain ⟨h1, h2, h3, h4, h5, h6, h7, h8, h9, h10, h11, h12, h13⟩ := h
  refine ⟨hc, by rw [fr _ _ (by omega) (by omega) (by omega)]; exact h2, by rw [fr _ _ (by omega) (by omega) (by omega)]; exact h3, by rw [fr _ _ (by omega) (by omega) (by omega)]; exact h4, by rw [fr _ _ (by omega) (by omega) (by omega)]; exact h5, by rw [fr _ _ (by omega) (by omega) (by omega)]; exact h6, by rw [fr _ _ (by omega) (by omega) (by omega)]; exact h7, by rw [fr _ _ (by omega) (by omega) (by omega)]; exact h8, fun i hi => ?_, fun i hi => ?_, fun i hi => ?_, fun i hi => ?_, fun i hi => ?_⟩
  · have hi : i < k + 1 := hi
    by_cases e : i = k
    · subst e; simp [tu1, tui, tun, v0, v1]
    · have := h9 i (by omega)
      simp only [tu1, tui, tun, e, and_false, if_false]
      rw [fr _ _ (by omega) (by omega) (by omega), fr _ _ (by omega) (by omega) (by omega)]
      exact this
  · have hi : i < T.1 1 := hi
    rw [fr _ _ (by omega) (by omega) (by omega), fr _ _ (by omega) (by omega) (by omega), fr _ _ (by omega) (by omega) (by omega), fr _ _ (by omega) (by omega) (by omega), fr _ _ (by omega) (by omega) (by omega)]; exact h10 i hi
  · have hi : i < T.1 2 := hi
    rw [fr _ _ (by omega) (by omega) (by omega), fr _ _ (by omega) (by omega) (by omega), fr _ _ (by omega) (by omega) (by omega), fr _ _ (by omega) (by omega) (by omega), fr _ _ (by omega) (by omega) (by omega)]; exact h11 i hi
  · have hi : i < T.1 3 := hi
    rw [fr _ _ (by omega) (by omega) (by omega), fr _ _ (by omega) (by omega) (by omega), fr _ _ (by omega) (by omega) (by omega)]; exact h12 i hi
  · have hi : i < T.1 4 := hi
    rw [fr _ _ (by omega) (by omega) (by omega)]; exact h13 i hi
theorem rTM_man {k : Nat} {a0 a2 a4 : Int32} {a1 a3 : Nat} (h : rTM T x) (bd : tBd T) (hk : k = T.1 1) (hk8 : k < 8) (fr : ∀ m j, bM ≤ m → (m = bM → 12 ≤ j) → ¬ ((bM + 29 ≤ m ∧ m ≤ bM + 33 ∧ j = k) ∨ (m = bM ∧ j = 13)) → y.1 m j = x.1 m j) (v0 : y.1 (bM + 29) k = a0) (v1 : y.1 (bM + 30) k = nI a1) (v2 : y.1 (bM + 31) k = a2) (v3 : y.1 (bM + 32) k = nI a3) (v4 : y.1 (bM + 33) k = a4) (hc : y.1 bM 13 = nI (k + 1)) : rTM (tu1 (tui (tun (tui (tun (tui T 2 k a0) 0 k a1) 3 k a2) 1 k a3) 4 k a4) 1 (k + 1)) y := by
  obtain ⟨b0, b1, b2, b3, b4⟩ := bd
  obtain ⟨h1, h2, h3, h4, h5, h6, h7, h8, h9, h10, h11, h12, h13⟩ := h
  refine ⟨by rw [fr _ _ (by omega) (by omega) (by omega)]; exact h1, hc, by rw [fr _ _ (by omega) (by omega) (by omega)]; exact h3, by rw [fr _ _ (by omega) (by omega) (by omega)]; exact h4, by rw [fr _ _ (by omega) (by omega) (by omega)]; exact h5, by rw [fr _ _ (by omega) (by omega) (by omega)]; exact h6, by rw [fr _ _ (by omega) (by omega) (by omega)]; exact h7, by rw [fr _ _ (by omega) (by omega) (by omega)]; exact h8, fun i hi => ?_, fun i hi => ?_, fun i hi => ?_, fun i hi => ?_, fun i hi => ?_⟩
  · have hi : i < T.1 0 := hi
    rw [fr _ _ (by omega) (by omega) (by omega), fr _ _ (by omega) (by omega) (by omega)]; exact h9 i hi
  · have hi : i < k + 1 := hi
    by_cases e : i = k
    · subst e; simp [tu1, tui, tun, v0, v1, v2, v3, v4]
    · have := h10 i (by omega)
      simp only [tu1, tui, tun, e, and_false, if_false]
      rw [fr _ _ (by omega) (by omega) (by omega), fr _ _ (by omega) (by omega) (by omega), fr _ _ (by omega) (by omega) (by omega), fr _ _ (by omega) (by omega) (by omega), fr _ _ (by omega) (by omega) (by omega)]
      exact this
  · have hi : i < T.1 2 := hi
    rw [fr _ _ (by omega) (by omega) (by omega), fr _ _ (by omega) (by omega) (by omega), fr _ _ (by omega) (by omega) (by omega), fr _ _ (by omega) (by omega) (by omega), fr _ _ (by omega) (by omega) (by omega)]; exact h11 i hi
  · have hi : i < T.1 3 := hi
    rw [fr _ _ (by omega) (by omega) (by omega), fr _ _ (by omega) (by omega) (by omega), fr _ _ (by omega) (by omega) (by omega)]; exact h12 i hi
  · have hi : i < T.1 4 := hi
    rw [fr _ _ (by omega) (by omega) (by omega)]; exact h13 i hi
theorem rTM_deed {k : Nat} {a2 a4 : Int32} {a0 a1 a3 : Nat} (h : rTM T x) (bd : tBd T) (hk : k = T.1 2) (hk8 : k < 14) (fr : ∀ m j, bM ≤ m → (m = bM → 12 ≤ j) → ¬ ((bM + 34 ≤ m ∧ m ≤ bM + 38 ∧ j = k) ∨ (m = bM ∧ j = 14)) → y.1 m j = x.1 m j) (v0 : y.1 (bM + 34) k = nI a0) (v1 : y.1 (bM + 35) k = nI a1) (v2 : y.1 (bM + 36) k = a2) (v3 : y.1 (bM + 37) k = (if a3 = 0 then 1 else -1)) (v4 : y.1 (bM + 38) k = a4) (hc : y.1 bM 14 = nI (k + 1)) : rTM (tu1 (tui (tui (tun (tun (tun T 4 k a3) 2 k a0) 3 k a1) 5 k a2) 6 k a4) 2 (k + 1)) y := by
  obtain ⟨b0, b1, b2, b3, b4⟩ := bd
  obtain ⟨h1, h2, h3, h4, h5, h6, h7, h8, h9, h10, h11, h12, h13⟩ := h
  refine ⟨by rw [fr _ _ (by omega) (by omega) (by omega)]; exact h1, by rw [fr _ _ (by omega) (by omega) (by omega)]; exact h2, hc, by rw [fr _ _ (by omega) (by omega) (by omega)]; exact h4, by rw [fr _ _ (by omega) (by omega) (by omega)]; exact h5, by rw [fr _ _ (by omega) (by omega) (by omega)]; exact h6, by rw [fr _ _ (by omega) (by omega) (by omega)]; exact h7, by rw [fr _ _ (by omega) (by omega) (by omega)]; exact h8, fun i hi => ?_, fun i hi => ?_, fun i hi => ?_, fun i hi => ?_, fun i hi => ?_⟩
  · have hi : i < T.1 0 := hi
    rw [fr _ _ (by omega) (by omega) (by omega), fr _ _ (by omega) (by omega) (by omega)]; exact h9 i hi
  · have hi : i < T.1 1 := hi
    rw [fr _ _ (by omega) (by omega) (by omega), fr _ _ (by omega) (by omega) (by omega), fr _ _ (by omega) (by omega) (by omega), fr _ _ (by omega) (by omega) (by omega), fr _ _ (by omega) (by omega) (by omega)]; exact h10 i hi
  · have hi : i < k + 1 := hi
    by_cases e : i = k
    · subst e; simp [tu1, tui, tun, v0, v1, v2, v3, v4]
    · have := h11 i (by omega)
      simp only [tu1, tui, tun, e, and_false, if_false]
      rw [fr _ _ (by omega) (by omega) (by omega), fr _ _ (by omega) (by omega) (by omega), fr _ _ (by omega) (by omega) (by omega), fr _ _ (by omega) (by omega) (by omega), fr _ _ (by omega) (by omega) (by omega)]
      exact this
  · have hi : i < T.1 3 := hi
    rw [fr _ _ (by omega) (by omega) (by omega), fr _ _ (by omega) (by omega) (by omega), fr _ _ (by omega) (by omega) (by omega)]; exact h12 i hi
  · have hi : i < T.1 4 := hi
    rw [fr _ _ (by omega) (by omega) (by omega)]; exact h13 i hi
theorem rTM_wed {k : Nat} {a2 : Int32} {a0 a1 : Nat} (h : rTM T x) (bd : tBd T) (hk : k = T.1 3) (hk8 : k < 6) (fr : ∀ m j, bM ≤ m → (m = bM → 12 ≤ j) → ¬ ((bM + 39 ≤ m ∧ m ≤ bM + 41 ∧ j = k) ∨ (m = bM ∧ j = 15)) → y.1 m j = x.1 m j) (v0 : y.1 (bM + 39) k = nI a0) (v1 : y.1 (bM + 40) k = nI a1) (v2 : y.1 (bM + 41) k = a2) (hc : y.1 bM 15 = nI (k + 1)) : rTM (tu1 (tui (tun (tun T 5 k a0) 6 k a1) 7 k a2) 3 (k + 1)) y := by
  obtain ⟨b0, b1, b2, b3, b4⟩ := bd
  obtain ⟨h1, h2, h3, h4, h5, h6, h7, h8, h9, h10, h11, h12, h13⟩ := h
  refine ⟨by rw [fr _ _ (by omega) (by omega) (by omega)]; exact h1, by rw [fr _ _ (by omega) (by omega) (by omega)]; exact h2, by rw [fr _ _ (by omega) (by omega) (by omega)]; exact h3, hc, by rw [fr _ _ (by omega) (by omega) (by omega)]; exact h5, by rw [fr _ _ (by omega) (by omega) (by omega)]; exact h6, by rw [fr _ _ (by omega) (by omega) (by omega)]; exact h7, by rw [fr _ _ (by omega) (by omega) (by omega)]; exact h8, fun i hi => ?_, fun i hi => ?_, fun i hi => ?_, fun i hi => ?_, fun i hi => ?_⟩
  · have hi : i < T.1 0 := hi
    rw [fr _ _ (by omega) (by omega) (by omega), fr _ _ (by omega) (by omega) (by omega)]; exact h9 i hi
  · have hi : i < T.1 1 := hi
    rw [fr _ _ (by omega) (by omega) (by omega), fr _ _ (by omega) (by omega) (by omega), fr _ _ (by omega) (by omega) (by omega), fr _ _ (by omega) (by omega) (by omega), fr _ _ (by omega) (by omega) (by omega)]; exact h10 i hi
  · have hi : i < T.1 2 := hi
    rw [fr _ _ (by omega) (by omega) (by omega), fr _ _ (by omega) (by omega) (by omega), fr _ _ (by omega) (by omega) (by omega), fr _ _ (by omega) (by omega) (by omega), fr _ _ (by omega) (by omega) (by omega)]; exact h11 i hi
  · have hi : i < k + 1 := hi
    by_cases e : i = k
    · subst e; simp [tu1, tui, tun, v0, v1, v2]
    · have := h12 i (by omega)
      simp only [tu1, tui, tun, e, and_false, if_false]
      rw [fr _ _ (by omega) (by omega) (by omega), fr _ _ (by omega) (by omega) (by omega), fr _ _ (by omega) (by omega) (by omega)]
      exact this
  · have hi : i < T.1 4 := hi
    rw [fr _ _ (by omega) (by omega) (by omega)]; exact h13 i hi
theorem rTM_strip {k : Nat} {a0 : Int32} (h : rTM T x) (bd : tBd T) (hk : k = T.1 4) (hk8 : k < 4) (fr : ∀ m j, bM ≤ m → (m = bM → 12 ≤ j) → ¬ ((bM + 42 ≤ m ∧ m ≤ bM + 42 ∧ j = k) ∨ (m = bM ∧ j = 16)) → y.1 m j = x.1 m j) (v0 : y.1 (bM + 42) k = a0) (hc : y.1 bM 16 = nI (k + 1)) : rTM (tu1 (tui T 8 k a0) 4 (k + 1)) y := by
  obtain ⟨b0, b1, b2, b3, b4⟩ := bd
  obtain ⟨h1, h2, h3, h4, h5, h6, h7, h8, h9, h10, h11, h12, h13⟩ := h
  refine ⟨by rw [fr _ _ (by omega) (by omega) (by omega)]; exact h1, by rw [fr _ _ (by omega) (by omega) (by omega)]; exact h2, by rw [fr _ _ (by omega) (by omega) (by omega)]; exact h3, by rw [fr _ _ (by omega) (by omega) (by omega)]; exact h4, hc, by rw [fr _ _ (by omega) (by omega) (by omega)]; exact h6, by rw [fr _ _ (by omega) (by omega) (by omega)]; exact h7, by rw [fr _ _ (by omega) (by omega) (by omega)]; exact h8, fun i hi => ?_, fun i hi => ?_, fun i hi => ?_, fun i hi => ?_, fun i hi => ?_⟩
  · have hi : i < T.1 0 := hi
    rw [fr _ _ (by omega) (by omega) (by omega), fr _ _ (by omega) (by omega) (by omega)]; exact h9 i hi
  · have hi : i < T.1 1 := hi
    rw [fr _ _ (by omega) (by omega) (by omega), fr _ _ (by omega) (by omega) (by omega), fr _ _ (by omega) (by omega) (by omega), fr _ _ (by omega) (by omega) (by omega), fr _ _ (by omega) (by omega) (by omega)]; exact h10 i hi
  · have hi : i < T.1 2 := hi
    rw [fr _ _ (by omega) (by omega) (by omega), fr _ _ (by omega) (by omega) (by omega), fr _ _ (by omega) (by omega) (by omega), fr _ _ (by omega) (by omega) (by omega), fr _ _ (by omega) (by omega) (by omega)]; exact h11 i hi
  · have hi : i < T.1 3 := hi
    rw [fr _ _ (by omega) (by omega) (by omega), fr _ _ (by omega) (by omega) (by omega), fr _ _ (by omega) (by omega) (by omega)]; exact h12 i hi
  · have hi : i < k + 1 := hi
    by_cases e : i = k
    · subst e; simp [tu1, tui, tun, v0]
    · have := h13 i (by omega)
      simp only [tu1, tui, tun, e, and_false, if_false]
      rw [fr _ _ (by omega) (by omega) (by omega)]
      exact this
theorem rTM_damp {k : Nat} (h : rTM T x) (bd : tBd T) (fr : ∀ m j, bM ≤ m → (m = bM → 12 ≤ j) → ¬ ((m = bM + 26 ∧ j = 0) ∨ m = bM + 25) → y.1 m j = x.1 m j) (hc : y.1 (bM + 26) 0 = nI k) : rTM (tu1 T 5 k) y := by
  obtain ⟨b0, b1, b2, b3, b4⟩ := bd
  obtain ⟨h1, h2, h3, h4, h5, h6, h7, h8, h9, h10, h11, h12, h13⟩ := h
  refine ⟨by rw [fr _ _ (by omega) (by omega) (by omega)]; exact h1, by rw [fr _ _ (by omega) (by omega) (by omega)]; exact h2, by rw [fr _ _ (by omega) (by omega) (by omega)]; exact h3, by rw [fr _ _ (by omega) (by omega) (by omega)]; exact h4, by rw [fr _ _ (by omega) (by omega) (by omega)]; exact h5, by rw [fr _ _ (by omega) (by omega) (by omega)]; exact h6, hc, by rw [fr _ _ (by omega) (by omega) (by omega)]; exact h8, fun i hi => ?_, fun i hi => ?_, fun i hi => ?_, fun i hi => ?_, fun i hi => ?_⟩
  · have hi : i < T.1 0 := hi
    rw [fr _ _ (by omega) (by omega) (by omega), fr _ _ (by omega) (by omega) (by omega)]; exact h9 i hi
  · have hi : i < T.1 1 := hi
    rw [fr _ _ (by omega) (by omega) (by omega), fr _ _ (by omega) (by omega) (by omega), fr _ _ (by omega) (by omega) (by omega), fr _ _ (by omega) (by omega) (by omega), fr _ _ (by omega) (by omega) (by omega)]; exact h10 i hi
  · have hi : i < T.1 2 := hi
    rw [fr _ _ (by omega) (by omega) (by omega), fr _ _ (by omega) (by omega) (by omega), fr _ _ (by omega) (by omega) (by omega), fr _ _ (by omega) (by omega) (by omega), fr _ _ (by omega) (by omega) (by omega)]; exact h11 i hi
  · have hi : i < T.1 3 := hi
    rw [fr _ _ (by omega) (by omega) (by omega), fr _ _ (by omega) (by omega) (by omega), fr _ _ (by omega) (by omega) (by omega)]; exact h12 i hi
  · have hi : i < T.1 4 := hi
    rw [fr _ _ (by omega) (by omega) (by omega)]; exact h13 i hi
theorem rTM_seed {k : Nat} (h : rTM T x) (bd : tBd T) (fr : ∀ m j, bM ≤ m → (m = bM → 12 ≤ j) → ¬ ((m = bM + 26 ∧ j = 1) ∨ m = bM + 25) → y.1 m j = x.1 m j) (hc : y.1 (bM + 26) 1 = nI k) : rTM (tu1 T 6 k) y := by
  obtain ⟨b0, b1, b2, b3, b4⟩ := bd
  obtain ⟨h1, h2, h3, h4, h5, h6, h7, h8, h9, h10, h11, h12, h13⟩ := h
  refine ⟨by rw [fr _ _ (by omega) (by omega) (by omega)]; exact h1, by rw [fr _ _ (by omega) (by omega) (by omega)]; exact h2, by rw [fr _ _ (by omega) (by omega) (by omega)]; exact h3, by rw [fr _ _ (by omega) (by omega) (by omega)]; exact h4, by rw [fr _ _ (by omega) (by omega) (by omega)]; exact h5, by rw [fr _ _ (by omega) (by omega) (by omega)]; exact h6, by rw [fr _ _ (by omega) (by omega) (by omega)]; exact h7, hc, fun i hi => ?_, fun i hi => ?_, fun i hi => ?_, fun i hi => ?_, fun i hi => ?_⟩
  · have hi : i < T.1 0 := hi
    rw [fr _ _ (by omega) (by omega) (by omega), fr _ _ (by omega) (by omega) (by omega)]; exact h9 i hi
  · have hi : i < T.1 1 := hi
    rw [fr _ _ (by omega) (by omega) (by omega), fr _ _ (by omega) (by omega) (by omega), fr _ _ (by omega) (by omega) (by omega), fr _ _ (by omega) (by omega) (by omega), fr _ _ (by omega) (by omega) (by omega)]; exact h10 i hi
  · have hi : i < T.1 2 := hi
    rw [fr _ _ (by omega) (by omega) (by omega), fr _ _ (by omega) (by omega) (by omega), fr _ _ (by omega) (by omega) (by omega), fr _ _ (by omega) (by omega) (by omega), fr _ _ (by omega) (by omega) (by omega)]; exact h11 i hi
  · have hi : i < T.1 3 := hi
    rw [fr _ _ (by omega) (by omega) (by omega), fr _ _ (by omega) (by omega) (by omega), fr _ _ (by omega) (by omega) (by omega)]; exact h12 i hi
  · have hi : i < T.1 4 := hi
    rw [fr _ _ (by omega) (by omega) (by omega)]; exact h13 i hi
/-- bounds go on -/
theorem tBd_house (h : tBd T) : tBd (lnHouse B n T r).1 := by
  obtain ⟨h0, h1, h2, h3, h4⟩ := h
  unfold lnHouse
  split
  · exact ⟨h0, h1, h2, h3, h4⟩
  · split
    · exact ⟨h0, h1, h2, h3, h4⟩
    · exact ⟨by show T.1 0 + 1 ≤ 6; omega, h1, h2, h3, h4⟩
theorem tBd_man (h : tBd T) : tBd (lnMan B n T r).1 := by
  obtain ⟨h0, h1, h2, h3, h4⟩ := h
  unfold lnMan
  split
  · exact ⟨h0, h1, h2, h3, h4⟩
  · split
    · exact ⟨h0, h1, h2, h3, h4⟩
    · exact ⟨h0, by show T.1 1 + 1 ≤ 8; omega, h2, h3, h4⟩
theorem tBd_deed {s : Nat} (h : tBd T) : tBd (lnDeed B n s T r).1 := by
  obtain ⟨h0, h1, h2, h3, h4⟩ := h
  unfold lnDeed
  split
  · exact ⟨h0, h1, h2, h3, h4⟩
  · exact ⟨h0, h1, by show T.1 2 + 1 ≤ 14; omega, h3, h4⟩
theorem tBd_wed (h : tBd T) : tBd (lnWed B n T r).1 := by
  obtain ⟨h0, h1, h2, h3, h4⟩ := h
  unfold lnWed
  split
  · exact ⟨h0, h1, h2, h3, h4⟩
  · split
    · exact ⟨h0, h1, h2, h3, h4⟩
    · exact ⟨h0, h1, h2, by show T.1 3 + 1 ≤ 6; omega, h4⟩
theorem tBd_strip (h : tBd T) : tBd (lnStrip B n T r).1 := by
  obtain ⟨h0, h1, h2, h3, h4⟩ := h
  unfold lnStrip
  split
  · exact ⟨h0, h1, h2, h3, h4⟩
  · exact ⟨h0, h1, h2, h3, by show T.1 4 + 1 ≤ 4; omega⟩
theorem tBd_damp {g : Bool} (h : tBd T) : tBd (lnDamp B n g T r).1 := by unfold lnDamp; split <;> exact h
theorem tBd_seed {g : Bool} (h : tBd T) : tBd (lnSeed B n g T r).1 := by unfold lnSeed; split <;> exact h
theorem tBd_end (h : tBd T) : tBd (lnEnd B n T r).1 := by unfold lnEnd; split; exact h; split <;> exact h
end qAW
