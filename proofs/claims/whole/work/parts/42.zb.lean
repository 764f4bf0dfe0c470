/-! the class's State: swell, marry, begin, copyFrom, by Z -/
def jup (w : Int32) : Int32 := if 999 ≤ w then w else w + 1
def zSwell (T : zT) (Z : zS) : zS := (fun g j => if g = 1 ∧ j < T.1 0 * 8 then jup (Z.1 1 j) else Z.1 g j, Z.2)
theorem sSwell_at {b K : Nat} {x : aS} : ∀ (k i : Nat), i + k = K → ∀ y : aS, (∀ a, a ≠ b + 5 → y.1 a = x.1 a) → (∀ j, y.1 (b + 5) j = if j < i then jup (x.1 (b + 5) j) else x.1 (b + 5) j) →
    (∀ a, a ≠ b + 5 → (lp (sSwell1 b) i k y).1 a = x.1 a) ∧ ∀ j, (lp (sSwell1 b) i k y).1 (b + 5) j = if j < K then jup (x.1 (b + 5) j) else x.1 (b + 5) j := by
  intro k
  induction k with
  | zero =>
    intro i hi y h1 h2
    rw [Nat.add_zero] at hi
    subst hi
    exact ⟨h1, h2⟩
  | succ k ih =>
    intro i hi y h1 h2
    have e : y.1 (b + 5) i = x.1 (b + 5) i := by rw [h2 i, if_neg (by omega)]
    refine ih (i + 1) (by omega) _ (fun a ha => (sSwell1_n ha).trans (h1 a ha)) (fun j => ?_)
    unfold sSwell1
    rw [e]
    by_cases c : 999 ≤ x.1 (b + 5) i
    · rw [if_pos c, h2 j]
      by_cases hj : j = i
      · subst hj
        rw [if_neg (by omega), if_pos (by omega), jup, if_pos c]
      · by_cases g : j < i
        · rw [if_pos g, if_pos (by omega)]
        · rw [if_neg g, if_neg (by omega)]
    · rw [if_neg c]
      by_cases hj : j = i
      · subst hj
        rw [aWr_s, if_pos (by omega), jup, if_neg c]
      · rw [aWr_j _ _ _ hj, h2 j]
        by_cases g : j < i
        · rw [if_pos g, if_pos (by omega)]
        · rw [if_neg g, if_neg (by omega)]
theorem zLsum_same {Z Y : zS} {h z : Nat} (h1 : Y.2 1 h = Z.2 1 h) (h2 : ∀ k, k < Z.2 1 h → Y.2 2 (h * 12 + k) = Z.2 2 (h * 12 + k) ∧ Y.1 2 (h * 12 + k) = Z.1 2 (h * 12 + k)) : zLsum Y h z = zLsum Z h z := by
  unfold zLsum
  rw [h1]
  refine lp_congr _ _ _ (fun k a _ hk => ?_)
  rw [(h2 k (by omega)).1, (h2 k (by omega)).2]
theorem rS_swell {T : zT} {Z : zS} {x : aS} {b : Nat} (hS : rS T Z x b) : rS T (zSwell T Z) (sSwell x b (T.1 0)) b := by
  obtain ⟨w1, w2⟩ := sSwell_at (b := b) (x := x) (T.1 0 * 8) 0 (Nat.zero_add _) x (fun _ _ => rfl) (fun j => by rw [if_neg (by omega)])
  obtain ⟨q1, q2, q3, q4⟩ := hS
  have e : ∀ a, a ≠ b + 5 → (sSwell x b (T.1 0)).1 a = x.1 a := w1
  refine ⟨fun i hi => ?_, ?_, fun g hg => ⟨fun z hz => ⟨?_, ?_⟩, ?_, fun k hk => ?_⟩, fun m hm => ?_⟩
  · rw [e b (by omega), q1 i hi]; simp [zSwell]
  · rw [e b (by omega), q2]; simp [zSwell]
  · refine (w2 _).trans ?_
    rw [if_pos (by omega), ((q3 g hg).1 z hz).1]
    simp only [zSwell]
    rw [if_pos ⟨trivial, by omega⟩]
  · rw [e (b + 6) (by omega), ((q3 g hg).1 z hz).2]
    exact (zLsum_same rfl (fun k _ => ⟨rfl, by simp [zSwell]⟩)).symm
  · rw [e (b + 7) (by omega), (q3 g hg).2.1]; rfl
  · rw [e (b + 8) (by omega), e (b + 9) (by omega), ((q3 g hg).2.2 k hk).1, ((q3 g hg).2.2 k hk).2]
    exact ⟨rfl, by simp [zSwell]⟩
  · rw [e (b + 10) (by omega), e (b + 11) (by omega), e (b + 12) (by omega), (q4 m hm).1, (q4 m hm).2.1, (q4 m hm).2.2]
    exact ⟨rfl, by simp [zSwell], by simp [zSwell]⟩
theorem zOk_swell {T : zT} {Z : zS} (hZ : zOk T Z) : zOk T (zSwell T Z) := hZ
theorem cp_zero : ∀ k, k < 256 → ∀ m, m < 8 → ∀ n, n < 8 → ((nI k &&& sCouple m n = 0) ↔ (k.testBit m = false ∧ k.testBit n = false)) := by decide +kernel
theorem cp_or : ∀ k, k < 256 → ∀ m, m < 8 → ∀ n, n < 8 → (nI k ||| sCouple m n = nI (k ||| 2 ^ m ||| 2 ^ n) ∧ (k ||| 2 ^ m ||| 2 ^ n) < 256) := by decide +kernel
def zCan (Z : zS) (m n : Nat) : Prop := (Z.2 0 0).testBit m = false ∧ (Z.2 0 0).testBit n = false ∧ Z.2 3 m ≠ Z.2 3 n
def zMarry (Z : zS) (m n : Nat) : zS := zuk (zuk (zSet Z (Z.2 3 m) (fun z => (zLast Z (Z.2 3 m) z + zLast Z (Z.2 3 n) z) / 2)) 3 n (Z.2 3 m)) 0 0 (Z.2 0 0 ||| 2 ^ m ||| 2 ^ n)
theorem zOk_marry {T : zT} {Z : zS} {m n : Nat} (ok : zTok T) (hZ : zOk T Z) (hm : m < T.1 1) (hn : n < T.1 1) : zOk T (zMarry Z m n) := by
  have h8 := ok.2.1
  obtain ⟨h1, h2, h3⟩ := zOk_set (h := Z.2 3 m) (w := fun z => (zLast Z (Z.2 3 m) z + zLast Z (Z.2 3 n) z) / 2) hZ
  refine ⟨?_, fun g hg => ?_, fun k hk => ?_⟩
  · show (zMarry Z m n).2 0 0 < 256
    rw [show (zMarry Z m n).2 0 0 = Z.2 0 0 ||| 2 ^ m ||| 2 ^ n from by simp [zMarry, zuk]]
    exact (cp_or _ hZ.1 m (by omega) n (by omega)).2
  · rw [show (zMarry Z m n).2 1 g = (zSet Z (Z.2 3 m) (fun z => (zLast Z (Z.2 3 m) z + zLast Z (Z.2 3 n) z) / 2)).2 1 g from by simp [zMarry, zuk]]
    refine ⟨(h2 g hg).1, fun k hk => ?_⟩
    rw [show (zMarry Z m n).2 2 (g * 12 + k) = (zSet Z (Z.2 3 m) (fun z => (zLast Z (Z.2 3 m) z + zLast Z (Z.2 3 n) z) / 2)).2 2 (g * 12 + k) from by simp [zMarry, zuk]]
    exact (h2 g hg).2 k hk
  · by_cases e : k = n
    · rw [show (zMarry Z m n).2 3 k = Z.2 3 m from by simp [zMarry, zuk, e]]
      exact hZ.2.2 m hm
    · rw [show (zMarry Z m n).2 3 k = Z.2 3 k from by simp [zMarry, zuk, zSet, e]]
      exact hZ.2.2 k hk
theorem sJoin_at {T : zT} {Z : zS} {x : aS} {b k1 k2 : Nat} (hS : rS T Z x b) (g1 : k1 < T.1 0) (g2 : k2 < T.1 0) (hne : k1 ≠ k2) : (∀ a, a ≠ b + 5 → (sJoin x b k1 k2).1 a = x.1 a) ∧ ∀ j, (sJoin x b k1 k2).1 (b + 5) j = if k1 * 8 ≤ j ∧ j < k1 * 8 + 8 then (zLast Z k1 (j - k1 * 8) + zLast Z k2 (j - k1 * 8)) / 2 else x.1 (b + 5) j := by
  refine lp_fill (n := b + 5) (c := k1 * 8) (K := 8) (f := fun z y => (sLast y b k1 z + sLast y b k2 z) / 2) (x := x) (fun z => (zLast Z k1 z + zLast Z k2 z) / 2) (fun z y hz ha hj => ?_) 8 0 rfl x (fun _ _ => rfl) (fun j => by rw [if_neg (by omega)])
  have e : ∀ g, g < T.1 0 → (g = k1 ∨ g = k2) → sLast y b g z = zLast Z g z := by
    intro g hg hc
    rw [← sLast_z hS hg hz]
    unfold sLast
    rw [ha (b + 6) (by omega), hj (g * 8 + z) (by rcases hc with rfl | rfl <;> omega)]
  rw [e k1 g1 (Or.inl rfl), e k2 g2 (Or.inr rfl)]
theorem rS_marry {T : zT} {Z : zS} {x : aS} {b m n : Nat} (ok : zTok T) (hZ : zOk T Z) (hS : rS T Z x b) (hm : m < T.1 1) (hn : n < T.1 1) (hc : Z.2 3 m ≠ Z.2 3 n) : rS T (zMarry Z m n) (sMarry x b m n (Z.2 3 m) (Z.2 3 n)) b := by
  have h8 := ok.2.1
  have g1 := hZ.2.2 m hm
  have g2 := hZ.2.2 n hn
  obtain ⟨j1, j2⟩ := sJoin_at hS g1 g2 hc
  obtain ⟨d1, d2, d3⟩ := sDrop_at (x := sJoin x b (Z.2 3 m) (Z.2 3 n)) (b := b) (h := Z.2 3 m)
  have base : rS T (zSet Z (Z.2 3 m) (fun z => (zLast Z (Z.2 3 m) z + zLast Z (Z.2 3 n) z) / 2)) (sDrop (sJoin x b (Z.2 3 m) (Z.2 3 n)) b (Z.2 3 m)) b := by
    refine rS_set hS (fun a a5 a6 a7 => (d1 a a6 a7).trans (j1 a a5)) (fun j => (congrFun (d1 (b + 5) (by omega) (by omega)) j).trans (j2 j)) (fun j => ?_) (fun j => ?_)
    · refine (d2 j).trans ?_
      rw [j1 (b + 6) (by omega)]
    · refine (d3 j).trans ?_
      rw [j1 (b + 7) (by omega)]
  have hw : x.1 b 3 = nI (Z.2 0 0) := hS.2.1
  obtain ⟨q1, q2, q3, q4⟩ := base
  unfold sMarry
  refine ⟨fun i hi => ?_, ?_, fun g hg => ⟨fun z hz => ⟨?_, ?_⟩, ?_, fun k hk => ?_⟩, fun k hk => ?_⟩
  · rw [aWr_j _ _ _ (by omega), aWr_n _ _ _ (by omega), q1 i hi]; simp [zMarry, zuk]
  · rw [aWr_s, hw, (cp_or _ hZ.1 m (by omega) n (by omega)).1]; simp [zMarry, zuk]
  · rw [aWr_n _ _ _ (by omega), aWr_n _ _ _ (by omega), ((q3 g hg).1 z hz).1]; simp [zMarry, zuk]
  · rw [aWr_n _ _ _ (by omega), aWr_n _ _ _ (by omega), ((q3 g hg).1 z hz).2]
    exact (zLsum_same (by simp [zMarry, zuk]) (fun k _ => ⟨by simp [zMarry, zuk], by simp [zMarry, zuk]⟩)).symm
  · rw [aWr_n _ _ _ (by omega), aWr_n _ _ _ (by omega), (q3 g hg).2.1]; simp [zMarry, zuk]
  · rw [show (zMarry Z m n).2 1 g = (zSet Z (Z.2 3 m) (fun z => (zLast Z (Z.2 3 m) z + zLast Z (Z.2 3 n) z) / 2)).2 1 g from by simp [zMarry, zuk]] at hk
    rw [aWr_n _ _ _ (by omega), aWr_n _ _ _ (by omega), aWr_n _ _ _ (by omega), aWr_n _ _ _ (by omega), ((q3 g hg).2.2 k hk).1, ((q3 g hg).2.2 k hk).2]
    exact ⟨by simp [zMarry, zuk], by simp [zMarry, zuk]⟩
  · refine ⟨?_, ?_, ?_⟩
    · rw [aWr_n _ _ _ (by omega)]
      by_cases e : k = n
      · subst e; rw [aWr_s]; simp [zMarry, zuk]
      · rw [aWr_j _ _ _ e, (q4 k hk).1]; simp [zMarry, zuk, e]
    · rw [aWr_n _ _ _ (by omega), aWr_n _ _ _ (by omega), (q4 k hk).2.1]; simp [zMarry, zuk]
    · rw [aWr_n _ _ _ (by omega), aWr_n _ _ _ (by omega), (q4 k hk).2.2]; simp [zMarry, zuk]
/-- the state at first -/
def zFirst (T : zT) : zS := (fun g j => if g = 0 then (if j = 2 then nI (T.1 6) else 0) else if g = 1 then T.2.1 1 (j / 8) else if g = 3 then T.2.1 4 j else 0, fun g j => if g = 3 then T.2.2 0 j else 0)
theorem zOk_first {T : zT} (ok : zTok T) : zOk T (zFirst T) := by
  refine ⟨by simp [zFirst], fun h _ => ⟨by simp [zFirst], fun k hk => by simp [zFirst] at hk⟩, fun m hm => ?_⟩
  show T.2.2 0 m < T.1 0
  exact (ok.2.2.2.2.2.2.2.1 m hm).1
theorem sBareAll_at {T : zT} {x : aS} {t b : Nat} (ht : aTdB t) (hb : aStB b) (ok : zTok T) (hT : rT T x t) : ∀ (k i : Nat), i + k = T.1 0 → ∀ y : aS, (∀ j, j < 256 → y.1 (t + j) = x.1 (t + j)) →
    (∀ h, h < i → (∀ z, z < 8 → y.1 (b + 5) (h * 8 + z) = T.2.1 1 h ∧ y.1 (b + 6) (h * 8 + z) = 0) ∧ y.1 (b + 7) h = 0) →
    ∀ h, h < T.1 0 → (∀ z, z < 8 → (lp (fun h y => sBare y t b h) i k y).1 (b + 5) (h * 8 + z) = T.2.1 1 h ∧ (lp (fun h y => sBare y t b h) i k y).1 (b + 6) (h * 8 + z) = 0) ∧ (lp (fun h y => sBare y t b h) i k y).1 (b + 7) h = 0 := by
  intro k
  induction k with
  | zero =>
    intro i hi y _ h2
    rw [Nat.add_zero] at hi
    subst hi
    exact h2
  | succ k ih =>
    intro i hi y h1 h2
    obtain ⟨d1, d2, d3⟩ := sDrop_at (x := sWood y t b i) (b := b) (h := i)
    have hTy := rT_same h1 ok hT
    obtain ⟨w1, w2⟩ := lp_fill (n := b + 5) (c := i * 8) (K := 8) (f := fun _ y => y.1 (t + 4) i) (x := y) (fun _ => T.2.1 1 i) (fun z y' _ ha _ => by rw [ha (t + 4) (tb_ne ht hb (by decide) (by decide))]; exact (hTy.2.2.2.2.2.2.2.2.2.1 i (by omega)).2) 8 0 rfl y (fun _ _ => rfl) (fun j => by rw [if_neg (by omega)])
    have e5 : ∀ j, (sBare y t b i).1 (b + 5) j = if i * 8 ≤ j ∧ j < i * 8 + 8 then T.2.1 1 i else y.1 (b + 5) j := fun j => (congrFun (d1 (b + 5) (by omega) (by omega)) j).trans (w2 j)
    have e6 : ∀ j, (sBare y t b i).1 (b + 6) j = if i * 8 ≤ j ∧ j < i * 8 + 8 then 0 else y.1 (b + 6) j := fun j => (d2 j).trans (by rw [show (sWood y t b i).1 (b + 6) = y.1 (b + 6) from w1 (b + 6) (by omega)])
    have e7 : ∀ j, (sBare y t b i).1 (b + 7) j = if j = i then 0 else y.1 (b + 7) j := fun j => (d3 j).trans (by rw [show (sWood y t b i).1 (b + 7) = y.1 (b + 7) from w1 (b + 7) (by omega)])
    refine ih (i + 1) (by omega) _ (fun j hj => (sBare_n (tb_ne ht hb hj (by decide)) (tb_ne ht hb hj (by decide)) (tb_ne ht hb hj (by decide))).trans (h1 j hj)) (fun h hh => ?_)
    by_cases e : h = i
    · subst e
      refine ⟨fun z hz => ?_, ?_⟩
      · rw [e5, e6, if_pos (by omega), if_pos (by omega)]
        exact ⟨rfl, rfl⟩
      · rw [e7, if_pos rfl]
    · obtain ⟨g1, g2⟩ := h2 h (by omega)
      refine ⟨fun z hz => ?_, ?_⟩
      · rw [e5, e6, if_neg (by omega), if_neg (by omega)]
        exact g1 z hz
      · rw [e7, if_neg e]
        exact g2
theorem sBegin1_at {t b K : Nat} {x : aS} (ht : aTdB t) (hb : aStB b) : ∀ (k i : Nat), i + k = K → ∀ y : aS, (∀ a, a ≠ b + 10 → a ≠ b + 11 → a ≠ b + 12 → y.1 a = x.1 a) → (∀ m, m < i → y.1 (b + 10) m = x.1 (t + 7) m ∧ y.1 (b + 11) m = x.1 (t + 10) m ∧ y.1 (b + 12) m = 0) →
    (∀ a, a ≠ b + 10 → a ≠ b + 11 → a ≠ b + 12 → (lp (sBegin1 t b) i k y).1 a = x.1 a) ∧ ∀ m, m < K → (lp (sBegin1 t b) i k y).1 (b + 10) m = x.1 (t + 7) m ∧ (lp (sBegin1 t b) i k y).1 (b + 11) m = x.1 (t + 10) m ∧ (lp (sBegin1 t b) i k y).1 (b + 12) m = 0 := by
  intro k
  induction k with
  | zero =>
    intro i hi y h1 h2
    rw [Nat.add_zero] at hi
    subst hi
    exact ⟨h1, h2⟩
  | succ k ih =>
    intro i hi y h1 h2
    refine ih (i + 1) (by omega) _ (fun a a0 a1 a2 => (sBegin1_n a0 a1 a2).trans (h1 a a0 a1 a2)) (fun m hm => ?_)
    unfold sBegin1
    have q7 : y.1 (t + 7) = x.1 (t + 7) := h1 _ (tb_ne ht hb (by decide) (by decide)) (tb_ne ht hb (by decide) (by decide)) (tb_ne ht hb (by decide) (by decide))
    have q10 : y.1 (t + 10) = x.1 (t + 10) := h1 _ (tb_ne ht hb (by decide) (by decide)) (tb_ne ht hb (by decide) (by decide)) (tb_ne ht hb (by decide) (by decide))
    rw [q7, q10]
    refine ⟨?_, ?_, ?_⟩
    · rw [aWr_n _ _ _ (by omega), aWr_n _ _ _ (by omega)]
      by_cases e : m = i
      · subst e; rw [aWr_s]
      · rw [aWr_j _ _ _ e]; exact (h2 m (by omega)).1
    · rw [aWr_n _ _ _ (by omega)]
      by_cases e : m = i
      · subst e; rw [aWr_s]
      · rw [aWr_j _ _ _ e, aWr_n _ _ _ (by omega)]; exact (h2 m (by omega)).2.1
    · by_cases e : m = i
      · subst e; rw [aWr_s]
      · rw [aWr_j _ _ _ e, aWr_n _ _ _ (by omega), aWr_n _ _ _ (by omega)]; exact (h2 m (by omega)).2.2
theorem rS_begin {T : zT} {x : aS} {t b : Nat} (ht : aTdB t) (hb : aStB b) (ok : zTok T) (hT : rT T x t) : rS T (zFirst T) (sBegin x t b (T.1 0) (T.1 1)) b := by
  have h0 : ∀ j, j < 256 → (sBegin0 x t b).1 (t + j) = x.1 (t + j) := by
    intro j hj
    have hne : t + j ≠ b := by
      have := tb_ne ht hb hj (show 0 < 256 by decide)
      rwa [Nat.add_zero] at this
    unfold sBegin0
    rw [aWr_n _ _ _ hne, aWr_n _ _ _ hne, aWr_n _ _ _ hne, aWr_n _ _ _ hne]
  have hA := sBareAll_at ht hb ok (rT_same h0 ok hT) (T.1 0) 0 (Nat.zero_add _) (sBegin0 x t b) (fun _ _ => rfl) (fun h hh => absurd hh (Nat.not_lt_zero h))
  have hAt : ∀ j, j < 256 → (sBareAll (sBegin0 x t b) t b (T.1 0)).1 (t + j) = x.1 (t + j) := fun j hj => (sBareAll_n (tb_ne ht hb hj (by decide)) (tb_ne ht hb hj (by decide)) (tb_ne ht hb hj (by decide))).trans (h0 j hj)
  have hAb : (sBareAll (sBegin0 x t b) t b (T.1 0)).1 b = (sBegin0 x t b).1 b := sBareAll_n (by omega) (by omega) (by omega)
  obtain ⟨q1, q2⟩ := sBegin1_at ht hb (x := sBareAll (sBegin0 x t b) t b (T.1 0)) (T.1 1) 0 (Nat.zero_add _) (sBareAll (sBegin0 x t b) t b (T.1 0)) (fun _ _ _ _ => rfl) (fun m hm => absurd hm (Nat.not_lt_zero m))
  have f : ∀ a, a ≠ b + 10 → a ≠ b + 11 → a ≠ b + 12 → (sBegin x t b (T.1 0) (T.1 1)).1 a = (sBareAll (sBegin0 x t b) t b (T.1 0)).1 a := q1
  refine ⟨fun i hi => ?_, ?_, fun g hg => ⟨fun z hz => ?_, ?_, fun k hk => by simp [zFirst] at hk⟩, fun m hm => ?_⟩
  · rw [f b (by omega) (by omega) (by omega), hAb]
    have : i = 0 ∨ i = 1 ∨ i = 2 := by omega
    rcases this with rfl | rfl | rfl
    · simp [sBegin0, aWr, zFirst]
    · simp [sBegin0, aWr, zFirst]
    · simp only [sBegin0]
      rw [aWr_j _ _ _ (by decide), aWr_s, hT.2.2.2.2.2.2.1]
      simp [zFirst]
  · rw [f b (by omega) (by omega) (by omega), hAb]
    simp only [sBegin0]
    rw [aWr_s]
    simp [zFirst]
    rfl
  · rw [f (b + 5) (by omega) (by omega) (by omega), f (b + 6) (by omega) (by omega) (by omega)]
    obtain ⟨e1, e2⟩ := (hA g hg).1 z hz
    refine ⟨e1.trans ?_, e2.trans ?_⟩
    · simp only [zFirst]
      rw [if_neg (by decide), if_pos trivial, show (g * 8 + z) / 8 = g by omega]
    · simp [zLsum, zFirst, lp]
  · rw [f (b + 7) (by omega) (by omega) (by omega)]
    exact (hA g hg).2
  · obtain ⟨e1, e2, e3⟩ := q2 m hm
    obtain ⟨-, m1, -, -, m4⟩ := hT.2.2.2.2.2.2.2.2.2.2.1 m hm
    refine ⟨e1.trans ?_, e2.trans ?_, e3.trans ?_⟩
    · rw [hAt 7 (by decide), m1]; rfl
    · rw [hAt 10 (by decide), m4]; rfl
    · simp [zFirst]
