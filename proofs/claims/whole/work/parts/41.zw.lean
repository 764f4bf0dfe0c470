/-! the class's State: writes, by Z -/
theorem lp_fill {n c K : Nat} {f : Nat → aS → Int32} {x : aS} (F : Nat → Int32) (hf : ∀ z y, z < K → (∀ a, a ≠ n → y.1 a = x.1 a) → (∀ j, (j < c ∨ c + z ≤ j) → y.1 n j = x.1 n j) → f z y = F z) :
    ∀ (k i : Nat), i + k = K → ∀ y : aS, (∀ a, a ≠ n → y.1 a = x.1 a) → (∀ j, y.1 n j = if c ≤ j ∧ j < c + i then F (j - c) else x.1 n j) →
      (∀ a, a ≠ n → (lp (fun z y => aWr y n (c + z) (f z y)) i k y).1 a = x.1 a) ∧ ∀ j, (lp (fun z y => aWr y n (c + z) (f z y)) i k y).1 n j = if c ≤ j ∧ j < c + K then F (j - c) else x.1 n j := by
  intro k
  induction k with
  | zero =>
    intro i hi y h1 h2
    rw [Nat.add_zero] at hi
    subst hi
    exact ⟨h1, h2⟩
  | succ k ih =>
    intro i hi y h1 h2
    have e : f i y = F i := hf i y (by omega) h1 (fun j hj => by rw [h2 j, if_neg (by omega)])
    refine ih (i + 1) (by omega) _ (fun a ha => ?_) (fun j => ?_)
    · rw [aWr_n _ _ _ ha, h1 a ha]
    · by_cases hj : j = c + i
      · subst hj
        rw [aWr_s, if_pos (by omega), e, show c + i - c = i by omega]
      · rw [aWr_j _ _ _ hj, h2 j]
        by_cases g : c ≤ j ∧ j < c + i
        · rw [if_pos g, if_pos (by omega)]
        · rw [if_neg g, if_neg (by omega)]
theorem sDrop_at {x : aS} {b h : Nat} : (∀ a, a ≠ b + 6 → a ≠ b + 7 → (sDrop x b h).1 a = x.1 a) ∧ (∀ j, (sDrop x b h).1 (b + 6) j = if h * 8 ≤ j ∧ j < h * 8 + 8 then 0 else x.1 (b + 6) j) ∧ ∀ j, (sDrop x b h).1 (b + 7) j = if j = h then 0 else x.1 (b + 7) j := by
  obtain ⟨h1, h2⟩ := lp_fill (n := b + 6) (c := h * 8) (K := 8) (f := fun _ _ => 0) (x := aWr x (b + 7) h 0) (fun _ => 0) (fun _ _ _ _ _ => rfl) 8 0 rfl (aWr x (b + 7) h 0) (fun _ _ => rfl) (fun j => by rw [if_neg (by omega)])
  refine ⟨fun a ha hb => ?_, fun j => ?_, fun j => ?_⟩
  · exact (h1 a ha).trans (aWr_n _ _ _ hb)
  · refine (h2 j).trans ?_
    rw [aWr_n _ _ _ (by omega)]
  · refine (congrFun (h1 (b + 7) (by omega)) j).trans ?_
    by_cases e : j = h
    · subst e; rw [aWr_s, if_pos rfl]
    · rw [aWr_j _ _ _ e, if_neg e]
/-- the wood of a house, and no layers -/
def zSet (Z : zS) (h : Nat) (w : Nat → Int32) : zS := (fun g j => if g = 1 ∧ h * 8 ≤ j ∧ j < h * 8 + 8 then w (j - h * 8) else Z.1 g j, fun g j => if g = 1 ∧ j = h then 0 else Z.2 g j)
theorem zLsum_set {Z : zS} {h g z : Nat} {w : Nat → Int32} : zLsum (zSet Z h w) g z = if g = h then 0 else zLsum Z g z := by
  unfold zLsum
  by_cases e : g = h
  · subst e
    rw [if_pos rfl, show (zSet Z g w).2 1 g = 0 from by simp [zSet]]
    rfl
  · rw [if_neg e, show (zSet Z h w).2 1 g = Z.2 1 g from by simp [zSet, e]]
    refine lp_congr _ _ _ (fun k a _ _ => ?_)
    rw [show (zSet Z h w).2 2 (g * 12 + k) = Z.2 2 (g * 12 + k) from by simp [zSet], show (zSet Z h w).1 2 (g * 12 + k) = Z.1 2 (g * 12 + k) from by simp [zSet]]
theorem zOk_set {T : zT} {Z : zS} {h : Nat} {w : Nat → Int32} (hZ : zOk T Z) : zOk T (zSet Z h w) := by
  obtain ⟨h1, h2, h3⟩ := hZ
  refine ⟨by simpa [zSet] using h1, fun g hg => ?_, fun m hm => by simpa [zSet] using h3 m hm⟩
  obtain ⟨g1, g2⟩ := h2 g hg
  by_cases e : g = h
  · subst e
    rw [show (zSet Z g w).2 1 g = 0 from by simp [zSet]]
    exact ⟨by omega, fun k hk => absurd hk (Nat.not_lt_zero k)⟩
  · rw [show (zSet Z h w).2 1 g = Z.2 1 g from by simp [zSet, e]]
    refine ⟨g1, fun k hk => ?_⟩
    rw [show (zSet Z h w).2 2 (g * 12 + k) = Z.2 2 (g * 12 + k) from by simp [zSet]]
    exact g2 k hk
/-- memory y is x with the wood of house h as w, its layers gone -/
theorem rS_set {T : zT} {Z : zS} {x y : aS} {b h : Nat} {w : Nat → Int32} (hS : rS T Z x b) (h0 : ∀ a, a ≠ b + 5 → a ≠ b + 6 → a ≠ b + 7 → y.1 a = x.1 a) (h5 : ∀ j, y.1 (b + 5) j = if h * 8 ≤ j ∧ j < h * 8 + 8 then w (j - h * 8) else x.1 (b + 5) j) (h6 : ∀ j, y.1 (b + 6) j = if h * 8 ≤ j ∧ j < h * 8 + 8 then 0 else x.1 (b + 6) j) (h7 : ∀ j, y.1 (b + 7) j = if j = h then 0 else x.1 (b + 7) j) : rS T (zSet Z h w) y b := by
  obtain ⟨q1, q2, q3, q4⟩ := hS
  refine ⟨fun i hi => ?_, ?_, fun g hg => ⟨fun z hz => ⟨?_, ?_⟩, ?_, fun k hk => ?_⟩, fun m hm => ?_⟩
  · rw [h0 b (by omega) (by omega) (by omega), q1 i hi]
    simp [zSet]
  · rw [h0 b (by omega) (by omega) (by omega), q2]
    simp [zSet]
  · rw [h5, ((q3 g hg).1 z hz).1]
    simp only [zSet]
    by_cases e : h * 8 ≤ g * 8 + z ∧ g * 8 + z < h * 8 + 8
    · rw [if_pos e, if_pos ⟨trivial, e⟩]
    · rw [if_neg e, if_neg (fun q => e q.2)]
  · rw [h6, zLsum_set, ((q3 g hg).1 z hz).2]
    by_cases e : g = h
    · rw [if_pos (by omega), if_pos e]
    · rw [if_neg (by omega), if_neg e]
  · rw [h7, (q3 g hg).2.1]
    by_cases e : g = h
    · rw [if_pos e]; subst e; simp [zSet]; rfl
    · rw [if_neg e]; simp [zSet, e]
  · have e : g ≠ h := by
      intro e
      subst e
      simp [zSet] at hk
    rw [show (zSet Z h w).2 1 g = Z.2 1 g from by simp [zSet, e]] at hk
    rw [h0 (b + 8) (by omega) (by omega) (by omega), h0 (b + 9) (by omega) (by omega) (by omega), ((q3 g hg).2.2 k hk).1, ((q3 g hg).2.2 k hk).2]
    exact ⟨by simp [zSet], by simp [zSet]⟩
  · rw [h0 (b + 10) (by omega) (by omega) (by omega), h0 (b + 11) (by omega) (by omega) (by omega), h0 (b + 12) (by omega) (by omega) (by omega), (q4 m hm).1, (q4 m hm).2.1, (q4 m hm).2.2]
    exact ⟨by simp [zSet], by simp [zSet], by simp [zSet]⟩
theorem rS_bare {T : zT} {Z : zS} {x : aS} {t b h : Nat} (ht : aTdB t) (hb : aStB b) (hT : rT T x t) (hS : rS T Z x b) (hh : h < T.1 0) : rS T (zSet Z h (fun _ => T.2.1 1 h)) (sBare x t b h) b := by
  obtain ⟨d1, d2, d3⟩ := sDrop_at (x := sWood x t b h) (b := b) (h := h)
  obtain ⟨w1, w2⟩ := lp_fill (n := b + 5) (c := h * 8) (K := 8) (f := fun _ y => y.1 (t + 4) h) (x := x) (fun _ => T.2.1 1 h) (fun z y _ ha _ => by rw [ha (t + 4) (tb_ne ht hb (by decide) (by decide))]; exact (hT.2.2.2.2.2.2.2.2.2.1 h hh).2) 8 0 rfl x (fun _ _ => rfl) (fun j => by rw [if_neg (by omega)])
  refine rS_set hS (fun a a5 a6 a7 => ?_) (fun j => ?_) (fun j => ?_) (fun j => ?_)
  · exact (d1 a a6 a7).trans (w1 a a5)
  · exact (congrFun (d1 (b + 5) (by omega) (by omega)) j).trans (w2 j)
  · refine (d2 j).trans ?_
    rw [show (sWood x t b h).1 (b + 6) = x.1 (b + 6) from w1 (b + 6) (by omega)]
  · refine (d3 j).trans ?_
    rw [show (sWood x t b h).1 (b + 7) = x.1 (b + 7) from w1 (b + 7) (by omega)]
def zBareAll (T : zT) (Z : zS) : zS := lp (fun h Z => zSet Z h (fun _ => T.2.1 1 h)) 0 (T.1 0) Z
theorem rT_same {T : zT} {x y : aS} {t : Nat} (h : ∀ k, k < 256 → y.1 (t + k) = x.1 (t + k)) (ok : zTok T) (hT : rT T x t) : rT T y t := by
  have h0 := h 0 (by decide)
  rw [Nat.add_zero] at h0
  obtain ⟨a1, a2, a3, a4, a5, a6, a7, a8, a9, b1, b2, b3, b4, b5⟩ := hT
  obtain ⟨o1, o2, o3, o4, -⟩ := ok
  refine ⟨?_, ?_, ?_, ?_, ?_, ?_, ?_, ?_, ?_, ?_, ?_, ?_, ?_, ?_⟩
  all_goals first
    | (rw [h0]; assumption)
    | (intro i hi; rw [h 3 (by decide), h 4 (by decide)]; exact b1 i hi)
    | (intro i hi; rw [h 6 (by decide), h 7 (by decide), h 8 (by decide), h 9 (by decide), h 10 (by decide)]; exact b2 i hi)
    | (intro i hi; rw [show t + 12 + 88 + i = t + (100 + i) by omega, h (100 + i) (by omega), ← show t + 12 + 88 + i = t + (100 + i) by omega]; exact b3 i hi)
    | (intro i hi; rw [show t + 14 + 106 + i = t + (120 + i) by omega, h (120 + i) (by omega), ← show t + 14 + 106 + i = t + (120 + i) by omega]; exact b4 i hi)
    | (intro i hi; rw [h 16 (by decide)]; exact b5 i hi)
theorem rS_bareAll {T : zT} {Z : zS} {x : aS} {t b : Nat} (ht : aTdB t) (hb : aStB b) (ok : zTok T) (hT : rT T x t) (hS : rS T Z x b) : rS T (zBareAll T Z) (sBareAll x t b (T.1 0)) b := by
  have L : ∀ (k i : Nat), i + k = T.1 0 → ∀ (Z : zS) (x : aS), rT T x t → rS T Z x b → rS T (lp (fun h Z => zSet Z h (fun _ => T.2.1 1 h)) i k Z) (lp (fun h y => sBare y t b h) i k x) b := by
    intro k
    induction k with
    | zero => intro i _ Z x _ h; exact h
    | succ k ih =>
      intro i hi Z x hT hS
      refine ih (i + 1) (by omega) _ _ (rT_same (fun j hj => ?_) ok hT) (rS_bare ht hb hT hS (by omega))
      exact sBare_n (tb_ne ht hb hj (by decide)) (tb_ne ht hb hj (by decide)) (tb_ne ht hb hj (by decide))
  exact L _ 0 (Nat.zero_add _) Z x hT hS
theorem zOk_bareAll {T : zT} {Z : zS} (hZ : zOk T Z) : zOk T (zBareAll T Z) := by
  unfold zBareAll
  generalize T.1 0 = n
  have L : ∀ (k i : Nat) (Z : zS), zOk T Z → zOk T (lp (fun h Z => zSet Z h (fun _ => T.2.1 1 h)) i k Z) := by
    intro k
    induction k with
    | zero => intro i Z h; exact h
    | succ k ih => intro i Z h; exact ih _ _ (zOk_set h)
  exact L n 0 Z hZ
