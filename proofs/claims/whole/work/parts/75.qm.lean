/-! what can be undone: u = (how many, the states ahead of each, what was done: (0 laid, 1 peeled, 2 moved; who; where; by)) -/
def zPop (Z : zS) (h : Nat) : zS := zuk Z 1 h (Z.2 1 h - 1)
def zHome (Z : zS) (m k : Nat) : zS := zuk Z 3 m k
abbrev zO : Type := Nat × Nat × Nat × Int32
def uInv (o : zO) (B : zS) : zS := if o.1 = 0 then zPop B o.2.1 else if o.1 = 1 then zPut B o.2.1 o.2.2.1 o.2.2.2 else zHome B o.2.1 o.2.2.1
def uOk (T : zT) (o : zO) (B : zS) : Prop := o.1 ≤ 2 ∧ (o.1 = 0 → o.2.1 < T.1 0 ∧ 0 < B.2 1 o.2.1) ∧ (o.1 = 1 → o.2.1 < T.1 0 ∧ o.2.2.1 < 8 ∧ B.2 1 o.2.1 < 12) ∧ (o.1 = 2 → o.2.1 < T.1 1 ∧ o.2.2.1 < T.1 0)
/-- the same layers and homes -/
def zEq (T : zT) (A B : zS) : Prop := (∀ h, h < T.1 0 → A.2 1 h = B.2 1 h ∧ ∀ k, k < A.2 1 h → A.2 2 (h * 12 + k) = B.2 2 (h * 12 + k) ∧ A.1 2 (h * 12 + k) = B.1 2 (h * 12 + k)) ∧ ∀ m, m < T.1 1 → A.2 3 m = B.2 3 m
def zTk (Z A : zS) : zS := (fun g j => if g = 2 then A.1 2 j else Z.1 g j, fun g j => if g = 0 then Z.2 0 j else A.2 g j)
abbrev zU : Type := Nat × (Nat → zS) × (Nat → zO)
def uN (u : zU) (Z : zS) (k : Nat) : zS := if k + 1 = u.1 then Z else u.2.1 (k + 1)
def uR (T : zT) (Z : zS) (u : zU) : Prop := u.1 ≤ 20 ∧ ∀ k, k < u.1 → zOk T (u.2.1 k) ∧ uOk T (u.2.2 k) (uN u Z k) ∧ zEq T (u.2.1 k) (uInv (u.2.2 k) (uN u Z k))
def uPush (u : zU) (Z : zS) (o : zO) : zU := if u.1 < 20 then (u.1 + 1, fun k => if k = u.1 then Z else u.2.1 k, fun k => if k = u.1 then o else u.2.2 k)
  else (20, fun k => if k = 19 then Z else u.2.1 (k + 1), fun k => if k = 19 then o else u.2.2 (k + 1))
def uPop (u : zU) : zU := (u.1 - 1, u.2)
theorem uR_push {T : zT} {Z Y : zS} {u : zU} {o : zO} (h : uR T Z u) (hZ : zOk T Z) (ho : uOk T o Y) (he : zEq T Z (uInv o Y)) : uR T Y (uPush u Z o) := by
  unfold uPush
  by_cases q : u.1 < 20
  · rw [if_pos q]
    refine ⟨by show u.1 + 1 ≤ 20; omega, fun k hk => ?_⟩
    have hk2 : k < u.1 + 1 := hk
    by_cases e : k = u.1
    · subst e
      simp only [uN, if_true]
      exact ⟨hZ, ho, he⟩
    · have g := h.2 k (by omega)
      have e1 : uN (u.1 + 1, (fun k => if k = u.1 then Z else u.2.1 k), (fun k => if k = u.1 then o else u.2.2 k)) Y k = uN u Z k := by
        simp only [uN]
        rw [if_neg (by omega)]
      rw [e1]
      simp only [if_neg e]
      exact g
  · rw [if_neg q]
    have e20 : u.1 = 20 := by have := h.1; omega
    refine ⟨by show 20 ≤ 20; omega, fun k hk => ?_⟩
    have hk2 : k < 20 := hk
    by_cases e : k = 19
    · subst e
      simp only [uN, if_true]
      exact ⟨hZ, ho, he⟩
    · have g := h.2 (k + 1) (by omega)
      have e1 : uN (20, (fun k => if k = 19 then Z else u.2.1 (k + 1)), (fun k => if k = 19 then o else u.2.2 (k + 1))) Y k = uN u Z (k + 1) := by
        simp only [uN]
        rw [if_neg (by omega), e20]
        by_cases e2 : k = 18
        · subst e2; rfl
        · rw [if_neg (by omega), if_neg (by omega)]
      rw [e1]
      simp only [if_neg e]
      exact g
theorem uInv_tk {o : zO} {Z A : zS} : (uInv o (zTk Z A)).2 1 = (uInv o A).2 1 ∧ (uInv o (zTk Z A)).2 2 = (uInv o A).2 2 ∧ (uInv o (zTk Z A)).2 3 = (uInv o A).2 3 ∧ (uInv o (zTk Z A)).1 2 = (uInv o A).1 2 := by
  unfold uInv
  split
  · refine ⟨?_, ?_, ?_, ?_⟩ <;> funext j <;> simp [zPop, zuk, zTk]
  · split
    · refine ⟨?_, ?_, ?_, ?_⟩ <;> funext j <;> simp [zPut, zuk, zui, zTk]
    · refine ⟨?_, ?_, ?_, ?_⟩ <;> funext j <;> simp [zHome, zuk, zTk]
theorem zEq_r {T : zT} {A B C : zS} (h1 : C.2 1 = B.2 1) (h2 : C.2 2 = B.2 2) (h3 : C.2 3 = B.2 3) (h4 : C.1 2 = B.1 2) (h : zEq T A B) : zEq T A C := by
  unfold zEq
  rw [h1, h2, h3, h4]
  exact h
theorem uR_pop {T : zT} {Z : zS} {u : zU} (h : uR T Z u) (h0 : 0 < u.1) : uR T (zTk Z (u.2.1 (u.1 - 1))) (uPop u) := by
  refine ⟨by have := h.1; show u.1 - 1 ≤ 20; omega, fun k hk => ?_⟩
  have hk2 : k < u.1 - 1 := hk
  obtain ⟨g1, g2, g3⟩ := h.2 k (by omega)
  have e1 : uN u Z k = u.2.1 (k + 1) := if_neg (by omega)
  rw [e1] at g2 g3
  show zOk T (u.2.1 k) ∧ uOk T (u.2.2 k) (uN (uPop u) (zTk Z (u.2.1 (u.1 - 1))) k) ∧ zEq T (u.2.1 k) (uInv (u.2.2 k) (uN (uPop u) (zTk Z (u.2.1 (u.1 - 1))) k))
  by_cases e : k + 1 = u.1 - 1
  · have e2 : uN (uPop u) (zTk Z (u.2.1 (u.1 - 1))) k = zTk Z (u.2.1 (u.1 - 1)) := if_pos e
    rw [e2]
    rw [e] at g2 g3
    refine ⟨g1, ?_, ?_⟩
    · obtain ⟨a, b, c, f⟩ := g2
      refine ⟨a, fun q => ?_, fun q => ?_, f⟩
      · have := b q; simpa [zTk] using this
      · have := c q; simpa [zTk] using this
    · obtain ⟨i1, i2, i3, i4⟩ := uInv_tk (o := u.2.2 k) (Z := Z) (A := u.2.1 (u.1 - 1))
      exact zEq_r i1 i2 i3 i4 g3
  · have e2 : uN (uPop u) (zTk Z (u.2.1 (u.1 - 1))) k = u.2.1 (k + 1) := if_neg e
    rw [e2]
    exact ⟨g1, g2, g3⟩
theorem rS_eq {T : zT} {X Y : zS} {x : aS} {b : Nat} (h0 : ∀ i, i < 3 → Y.1 0 i = X.1 0 i) (h1 : ∀ j, Y.1 1 j = X.1 1 j) (h3 : ∀ j, Y.1 3 j = X.1 3 j) (h4 : ∀ j, Y.1 4 j = X.1 4 j) (hw : Y.2 0 0 = X.2 0 0) (he : zEq T Y X) (h : rS T X x b) : rS T Y x b := by
  obtain ⟨a1, a2, a3, a4⟩ := h
  refine ⟨fun i hi => by rw [a1 i hi, h0 i hi], by rw [a2, hw], fun h hh => ?_, fun m hm => ?_⟩
  · obtain ⟨e1, e2⟩ := he.1 h hh
    obtain ⟨b1, b2, b3⟩ := a3 h hh
    refine ⟨fun z hz => ⟨by rw [(b1 z hz).1, h1], ?_⟩, by rw [b2, e1], fun k hk => ?_⟩
    · rw [(b1 z hz).2]
      exact (zLsum_same e1 (fun k hk => e2 k (by rw [e1]; exact hk) |>.imp id id) |>.symm ▸ rfl)
    · obtain ⟨c1, c2⟩ := e2 k hk
      rw [e1] at hk
      rw [(b3 k hk).1, (b3 k hk).2, c1, c2]
      exact ⟨rfl, rfl⟩
  · rw [(a4 m hm).1, (a4 m hm).2.1, (a4 m hm).2.2, he.2 m hm, h3, h4]
    exact ⟨rfl, rfl, rfl⟩
theorem zLsum_pop {Z : zS} {h g w c : Nat} (hc : Z.2 1 h = c + 1) : zLsum (zPop Z h) g w = if g = h ∧ w = Z.2 2 (h * 12 + c) then zLsum Z h w - Z.1 2 (h * 12 + c) else zLsum Z g w := by
  by_cases e : g = h
  · subst e
    have e1 : (zPop Z g).2 1 g = c := by simp [zPop, zuk, hc]
    have e2 : zLsum (zPop Z g) g w = lp (fun k a => if Z.2 2 (g * 12 + k) = w then a + Z.1 2 (g * 12 + k) else a) 0 c 0 := by
      unfold zLsum
      rw [e1]
      refine lp_congr _ _ _ (fun k a _ _ => ?_)
      simp [zPop, zuk]
    have e3 : zLsum Z g w = (if Z.2 2 (g * 12 + c) = w then lp (fun k a => if Z.2 2 (g * 12 + k) = w then a + Z.1 2 (g * 12 + k) else a) 0 c 0 + Z.1 2 (g * 12 + c) else lp (fun k a => if Z.2 2 (g * 12 + k) = w then a + Z.1 2 (g * 12 + k) else a) 0 c 0) := by
      unfold zLsum
      rw [hc, lp_snoc, Nat.zero_add]
    rw [e2, e3]
    by_cases ew : w = Z.2 2 (g * 12 + c)
    · rw [if_pos ⟨rfl, ew⟩, if_pos ew.symm, Int32.add_sub_cancel]
    · rw [if_neg (fun q => ew q.2), if_neg (fun q => ew q.symm)]
  · rw [if_neg (fun q => e q.1)]
    refine zLsum_same (by simp [zPop, zuk, e]) (fun k _ => ?_)
    simp [zPop, zuk]
theorem rS_pop {T : zT} {Z : zS} {x : aS} {b h c : Nat} (hS : rS T Z x b) (hZ : zOk T Z) (hh : h < T.1 0) (hc : Z.2 1 h = c + 1) : rS T (zPop Z h) (sTake x b h c (Z.2 2 (h * 12 + c))) b := by
  obtain ⟨h1, h2, h3, h4⟩ := hS
  have hz := (hZ.2.1 h hh).2 c (by omega)
  refine ⟨fun i hi => ?_, ?_, fun g hg => ⟨fun w hw => ⟨?_, ?_⟩, ?_, fun k hk => ?_⟩, fun m hm => ?_⟩
  · unfold sTake
    rw [aWr_n _ _ _ (by omega), aWr_n _ _ _ (by omega), h1 i hi]
    simp [zPop, zuk]
  · unfold sTake
    rw [aWr_n _ _ _ (by omega), aWr_n _ _ _ (by omega), h2]
    simp [zPop, zuk]
  · unfold sTake
    rw [aWr_n _ _ _ (by omega), aWr_n _ _ _ (by omega), ((h3 g hg).1 w hw).1]
    simp [zPop, zuk]
  · rw [zLsum_pop hc]
    unfold sTake
    by_cases e : g = h ∧ w = Z.2 2 (h * 12 + c)
    · obtain ⟨rfl, rfl⟩ := e
      rw [aWr_s, if_pos ⟨rfl, rfl⟩, ((h3 g hg).1 _ hz).2, ((h3 g hg).2.2 c (by omega)).2]
    · rw [if_neg e, aWr_j _ _ _ (by omega), aWr_n _ _ _ (by omega), ((h3 g hg).1 w hw).2]
  · unfold sTake
    rw [aWr_n _ _ _ (by omega)]
    by_cases e : g = h
    · subst e
      rw [aWr_s]
      simp [zPop, zuk, hc]
    · rw [aWr_j _ _ _ e, (h3 g hg).2.1]
      simp [zPop, zuk, e]
  · have hk2 : k < Z.2 1 g := by
      by_cases e : g = h
      · subst e
        have : (zPop Z g).2 1 g = c := by simp [zPop, zuk, hc]
        omega
      · have : (zPop Z h).2 1 g = Z.2 1 g := by simp [zPop, zuk, e]
        omega
    unfold sTake
    rw [aWr_n _ _ _ (by omega), aWr_n _ _ _ (by omega), aWr_n _ _ _ (by omega), aWr_n _ _ _ (by omega), ((h3 g hg).2.2 k hk2).1, ((h3 g hg).2.2 k hk2).2]
    simp [zPop, zuk]
  · unfold sTake
    rw [aWr_n _ _ _ (by omega), aWr_n _ _ _ (by omega), aWr_n _ _ _ (by omega), aWr_n _ _ _ (by omega), aWr_n _ _ _ (by omega), aWr_n _ _ _ (by omega), (h4 m hm).1, (h4 m hm).2.1, (h4 m hm).2.2]
    simp [zPop, zuk]
theorem rS_home {T : zT} {Z : zS} {x : aS} {b m k : Nat} (hS : rS T Z x b) : rS T (zHome Z m k) (aWr x (b + 10) m (nI k)) b := by
  obtain ⟨h1, h2, h3, h4⟩ := hS
  refine ⟨fun i hi => ?_, ?_, fun g hg => ?_, fun n hn => ?_⟩
  · rw [aWr_n _ _ _ (by omega), h1 i hi]; simp [zHome, zuk]
  · rw [aWr_n _ _ _ (by omega), h2]; simp [zHome, zuk]
  · obtain ⟨b1, b2, b3⟩ := h3 g hg
    have ec : (zHome Z m k).2 1 g = Z.2 1 g := by simp [zHome, zuk]
    refine ⟨fun w hw => ⟨?_, ?_⟩, ?_, fun q hq => ?_⟩
    · rw [aWr_n _ _ _ (by omega), (b1 w hw).1]; simp [zHome, zuk]
    · rw [aWr_n _ _ _ (by omega), (b1 w hw).2]
      exact (zLsum_same ec (fun q _ => by simp [zHome, zuk])).symm
    · rw [aWr_n _ _ _ (by omega), b2, ec]
    · rw [ec] at hq
      rw [aWr_n _ _ _ (by omega), aWr_n _ _ _ (by omega), (b3 q hq).1, (b3 q hq).2]
      simp [zHome, zuk]
  · obtain ⟨c1, c2, c3⟩ := h4 n hn
    refine ⟨?_, ?_, ?_⟩
    · by_cases e : n = m
      · subst e; rw [aWr_s]; simp [zHome, zuk]
      · rw [aWr_j _ _ _ e, c1]; simp [zHome, zuk, e]
    · rw [aWr_n _ _ _ (by omega), c2]; simp [zHome, zuk]
    · rw [aWr_n _ _ _ (by omega), c3]; simp [zHome, zuk]
theorem zOk_pop {T : zT} {Z : zS} {h : Nat} (hZ : zOk T Z) : zOk T (zPop Z h) := by
  obtain ⟨h1, h2, h3⟩ := hZ
  refine ⟨by simpa [zPop, zuk] using h1, fun g hg => ?_, fun m hm => by simpa [zPop, zuk] using h3 m hm⟩
  obtain ⟨a, b⟩ := h2 g hg
  have hle : (zPop Z h).2 1 g ≤ Z.2 1 g := by
    by_cases e : g = h
    · subst e; simp [zPop, zuk]
    · simp [zPop, zuk, e]
  refine ⟨by omega, fun k hk => ?_⟩
  have := b k (by omega)
  simpa [zPop, zuk] using this
theorem zOk_home {T : zT} {Z : zS} {m k : Nat} (hZ : zOk T Z) (hk : k < T.1 0) : zOk T (zHome Z m k) := by
  obtain ⟨h1, h2, h3⟩ := hZ
  refine ⟨by simpa [zHome, zuk] using h1, fun g hg => by simpa [zHome, zuk] using h2 g hg, fun n hn => ?_⟩
  by_cases e : n = m
  · subst e; simpa [zHome, zuk] using hk
  · simpa [zHome, zuk, e] using h3 n hn
theorem zOk_tk {T : zT} {Z A : zS} (hZ : zOk T Z) (hA : zOk T A) : zOk T (zTk Z A) := by
  refine ⟨by simpa [zTk] using hZ.1, fun g hg => by simpa [zTk] using hA.2.1 g hg, fun n hn => by simpa [zTk] using hA.2.2 n hn⟩
theorem zEq_lay {T : zT} {Z : zS} {h z : Nat} {v : Int32} (hZ : zOk T Z) (hc : Z.2 1 h < 12) : zEq T Z (uInv (0, h, z, v) (zPut Z h z v)) := by
  have e : uInv (0, h, z, v) (zPut Z h z v) = zPop (zPut Z h z v) h := rfl
  rw [e]
  refine ⟨fun g hg => ⟨?_, fun k hk => ?_⟩, fun m hm => by simp [zPop, zPut, zuk, zui]⟩
  · by_cases e : g = h
    · subst e; simp [zPop, zPut, zuk]
    · simp [zPop, zPut, zuk, zui, e]
  · have := (hZ.2.1 g hg).1
    have hn : ¬ g * 12 + k = h * 12 + Z.2 1 h := by
      by_cases eh : g = h
      · subst eh; omega
      · omega
    constructor
    · simp [zPop, zPut, zuk, zui, hn]
    · simp [zPop, zPut, zuk, zui, hn]
theorem zEq_peel {T : zT} {Z : zS} {h c : Nat} (hc : Z.2 1 h = c + 1) : zEq T Z (uInv (1, h, Z.2 2 (h * 12 + c), Z.1 2 (h * 12 + c)) (zPop Z h)) := by
  have ec : (zPop Z h).2 1 h = c := by simp [zPop, zuk, hc]
  have e : uInv (1, h, Z.2 2 (h * 12 + c), Z.1 2 (h * 12 + c)) (zPop Z h) = zuk (zuk (zui (zPop Z h) 2 (h * 12 + c) (Z.1 2 (h * 12 + c))) 2 (h * 12 + c) (Z.2 2 (h * 12 + c))) 1 h (c + 1) := by
    show zPut (zPop Z h) h _ _ = _
    unfold zPut
    rw [ec]
  rw [e]
  refine ⟨fun g hg => ⟨?_, fun k hk => ?_⟩, fun m hm => by simp [zPop, zuk, zui]⟩
  · by_cases e : g = h
    · subst e; simp [zuk, hc]
    · simp [zPop, zuk, zui, e]
  · by_cases en : g * 12 + k = h * 12 + c
    · rw [en]
      constructor
      · simp [zuk, zui]
      · simp [zuk, zui]
    · constructor
      · simp [zPop, zuk, zui, en]
      · simp [zPop, zuk, zui, en]
theorem zEq_move {T : zT} {Z : zS} {m k : Nat} : zEq T Z (uInv (2, m, Z.2 3 m, 0) (zHome Z m k)) := by
  have e : uInv (2, m, Z.2 3 m, 0) (zHome Z m k) = zHome (zHome Z m k) m (Z.2 3 m) := rfl
  rw [e]
  refine ⟨fun g hg => ⟨by simp [zHome, zuk], fun q hq => ⟨by simp [zHome, zuk], by simp [zHome, zuk]⟩⟩, fun n hn => ?_⟩
  by_cases en : n = m
  · subst en; simp [zHome, zuk]
  · simp [zHome, zuk, en]
/-- the class's log -/
def rU (u : zU) (x : aS) : Prop := x.1 bDn 0 = nI u.1 ∧ ∀ k, k < u.1 → x.1 (bDn + 2) k = nI (u.2.2 k).1 ∧ x.1 (bDn + 3) k = nI (u.2.2 k).2.1 ∧ x.1 (bDn + 4) k = nI (u.2.2 k).2.2.1 ∧ x.1 (bDn + 5) k = (u.2.2 k).2.2.2
def cDn (x y : aS) : Prop := ∀ n, n / 256 ≠ 10 → y.1 n = x.1 n ∧ y.2 n = x.2 n
theorem aWw_s (x : aS) (n : Nat) (r : Nat → Int32) : (aWw x n r).1 n = r := if_pos rfl
theorem aWw_n (x : aS) {a n : Nat} (r : Nat → Int32) (h : a ≠ n) : (aWw x n r).1 a = x.1 a := if_neg h
section qM
variable {l : Launch} {d : Nat} {D : Nat → Bool} {T : zT} {W : Nat → zL} {Z : zS} {t : Nat} {x : aS} {u : zU}
def sFg (x : aS) (n : Nat) : aS := aWw x n (va_cpy (x.1 n) (x.1 n) 1 0 19)
theorem sFg_n {n a : Nat} (h : a ≠ n) : (sFg x n).1 a = x.1 a := if_neg h
theorem sFg_s {n j : Nat} (h : j < 19) : (sFg x n).1 n j = x.1 n (j + 1) := by
  unfold sFg
  rw [aWw_s, pk_cpy_in (by omega) (by omega), Nat.sub_zero, Nat.add_comm]
set_option maxHeartbeats 4000000 in
set_option maxRecDepth 100000 in
theorem c_X1_forgetFirst {n : Nat} (hn : aIs D n 14 20) : aDV l mX1_forgetFirst (d + 1) D [.ref n] x (sFg x n) := by
  refine a_metV (by decide) (Nat.le_of_ble_eq_true rfl) rfl ?_
  refine a_aload_n (i := 0) dX1_forgetFirst_0 rfl rfl ?_
  refine a_iconst (v := 1) dX1_forgetFirst_1 (by decide) ?_
  refine a_aload_n (i := 0) dX1_forgetFirst_2 rfl rfl ?_
  refine a_iconst (v := 0) dX1_forgetFirst_3 (by decide) ?_
  refine a_aload_n (i := 0) dX1_forgetFirst_4 rfl rfl ?_
  refine a_alen dX1_forgetFirst_5 hn (by decide) ?_
  refine a_iconst (v := 1) dX1_forgetFirst_6 (by decide) ?_
  refine a_isub dX1_forgetFirst_7 ?_
  refine kX1_32 rfl dX1_forgetFirst_8 (Nat.le_of_ble_eq_true rfl) hn hn (by decide) (by decide) (by decide) (by decide) (by decide) ?_
  exact a_vret dX1_forgetFirst_11 (by exact ⟨rfl, rfl⟩)
def sNote (x : aS) (S : Nat) (o : zO) : aS := aWr (aWr (aWr (aWr (aWr x (bDn + 2) S (nI o.1)) (bDn + 3) S (nI o.2.1)) (bDn + 4) S (nI o.2.2.1)) (bDn + 5) S o.2.2.2) bDn 0 (nI (S + 1))
theorem rU_note {S : Nat} {Zs : Nat → zS} {f : Nat → zO} {y : aS} (h : ∀ k, k < S → y.1 (bDn + 2) k = nI (f k).1 ∧ y.1 (bDn + 3) k = nI (f k).2.1 ∧ y.1 (bDn + 4) k = nI (f k).2.2.1 ∧ y.1 (bDn + 5) k = (f k).2.2.2) : rU (S + 1, Zs, f) (sNote y S (f S)) := by
  refine ⟨by unfold sNote; rw [aWr_s], fun k hk => ?_⟩
  have hk2 : k < S + 1 := hk
  unfold sNote
  by_cases e : k = S
  · subst e
    refine ⟨?_, ?_, ?_, ?_⟩
    · rw [aWr_o _ _ (by omega), aWr_o _ _ (by omega), aWr_o _ _ (by omega), aWr_o _ _ (by omega), aWr_s]
    · rw [aWr_o _ _ (by omega), aWr_o _ _ (by omega), aWr_o _ _ (by omega), aWr_s]
    · rw [aWr_o _ _ (by omega), aWr_o _ _ (by omega), aWr_s]
    · rw [aWr_o _ _ (by omega), aWr_s]
  · have e1 : ∀ q, 2 ≤ q → q ≤ 5 → (aWr (aWr (aWr (aWr (aWr y (bDn + 2) S (nI (f S).1)) (bDn + 3) S (nI (f S).2.1)) (bDn + 4) S (nI (f S).2.2.1)) (bDn + 5) S (f S).2.2.2) bDn 0 (nI (S + 1))).1 (bDn + q) k = y.1 (bDn + q) k := by
      intro q h1 h2
      rw [aWr_o _ _ (by omega), aWr_o _ _ (by omega), aWr_o _ _ (by omega), aWr_o _ _ (by omega), aWr_o _ _ (by omega)]
    rw [e1 2 (by omega) (by omega), e1 3 (by omega) (by omega), e1 4 (by omega) (by omega), e1 5 (by omega) (by omega)]
    exact h k (by omega)
theorem cDn_w {n j : Nat} {v : Int32} (h : n / 256 = 10) : cDn x (aWr x n j v) := fun a ha => ⟨aWr_n _ _ _ (fun e => ha (by rw [e]; exact h)), rfl⟩
theorem cDn_t {y z : aS} (h1 : cDn x y) (h2 : cDn y z) : cDn x z := fun n h => ⟨(h2 n h).1.trans (h1 n h).1, (h2 n h).2.trans (h1 n h).2⟩
theorem cDn_f {n : Nat} (h : n / 256 = 10) : cDn x (sFg x n) := fun a ha => ⟨sFg_n (fun e => ha (by rw [e]; exact h)), rfl⟩
theorem cDn_note {S : Nat} {o : zO} : cDn x (sNote x S o) := cDn_t (cDn_w (by decide)) (cDn_t (cDn_w (by decide)) (cDn_t (cDn_w (by decide)) (cDn_t (cDn_w (by decide)) (cDn_w (by decide)))))
set_option maxHeartbeats 4000000 in
set_option maxRecDepth 100000 in
theorem c_X1_note {o : zO} (hD : aDC D) (hu : rU u x) (h20 : u.1 ≤ 20) : aCt l mX1_note (d + 2) D [.ref bDn, .int (nI o.1), .int (nI o.2.1), .int (nI o.2.2.1), .int o.2.2.2] x (fun v y => v = none ∧ rU (uPush u Z o) y ∧ cDn x y) := by
  refine a_met (by decide) (Nat.le_of_ble_eq_true rfl) (fun v y q => Or.inr (Or.inr (Or.inr ⟨rfl, q.1⟩))) ?_
  have K : ∀ (y : aS) (S : Nat), y.1 bDn 0 = nI S → S < 20 → aV l mX1_note (d + 2) D none 43 [(0, .ref bDn), (1, .int (nI o.1)), (2, .int (nI o.2.1)), (3, .int (nI o.2.2.1)), (4, .int o.2.2.2)] [] y (fun v z => v = none ∧ z = sNote y S o) := by
    intro y S hs hS
    refine a_aload_n (i := 0) dX1_note_43 rfl rfl ?_
    refine gX1_9 rfl dX1_note_44 (isDn_0 hD) ?_
    refine a_aload_n (i := 0) dX1_note_47 rfl rfl ?_
    refine gX1_24 rfl dX1_note_48 (isDn_0 hD) ?_
    rw [hs]
    refine a_iload_n (i := 1) dX1_note_51 rfl rfl ?_
    refine a_iastN dX1_note_52 (isDn_2 hD) (by first | with_reducible exact rfl | with_reducible exact ix8 _ _ | with_reducible exact ix12 _ _ | exact rfl) (by omega) (by decide) ?_
    refine a_aload_n (i := 0) dX1_note_53 rfl rfl ?_
    refine gX1_15 rfl dX1_note_54 (isDn_0 hD) ?_
    refine a_aload_n (i := 0) dX1_note_57 rfl rfl ?_
    refine gX1_24 rfl dX1_note_58 (isDn_0 hD) ?_
    rw [aWr_n _ _ _ (by decide), hs]
    refine a_iload_n (i := 2) dX1_note_61 rfl rfl ?_
    refine a_iastN dX1_note_62 (isDn_3 hD) (by first | with_reducible exact rfl | with_reducible exact ix8 _ _ | with_reducible exact ix12 _ _ | exact rfl) (by omega) (by decide) ?_
    refine a_aload_n (i := 0) dX1_note_63 rfl rfl ?_
    refine gX1_18 rfl dX1_note_64 (isDn_0 hD) ?_
    refine a_aload_n (i := 0) dX1_note_67 rfl rfl ?_
    refine gX1_24 rfl dX1_note_68 (isDn_0 hD) ?_
    rw [aWr_n _ _ _ (by decide), aWr_n _ _ _ (by decide), hs]
    refine a_iload_n (i := 3) dX1_note_71 rfl rfl ?_
    refine a_iastN dX1_note_72 (isDn_4 hD) (by first | with_reducible exact rfl | with_reducible exact ix8 _ _ | with_reducible exact ix12 _ _ | exact rfl) (by omega) (by decide) ?_
    refine a_aload_n (i := 0) dX1_note_73 rfl rfl ?_
    refine gX1_21 rfl dX1_note_74 (isDn_0 hD) ?_
    refine a_aload_n (i := 0) dX1_note_77 rfl rfl ?_
    refine gX1_24 rfl dX1_note_78 (isDn_0 hD) ?_
    rw [aWr_n _ _ _ (by decide), aWr_n _ _ _ (by decide), aWr_n _ _ _ (by decide), hs]
    refine a_iload (i := 4) dX1_note_81 rfl ?_
    refine a_iastN dX1_note_83 (isDn_5 hD) (by first | with_reducible exact rfl | with_reducible exact ix8 _ _ | with_reducible exact ix12 _ _ | exact rfl) (by omega) (by decide) ?_
    refine a_aload_n (i := 0) dX1_note_84 rfl rfl ?_
    refine a_dup dX1_note_85 rfl ?_
    refine gX1_24 rfl dX1_note_86 (isDn_0 hD) ?_
    rw [aWr_n _ _ _ (by decide), aWr_n _ _ _ (by decide), aWr_n _ _ _ (by decide), aWr_n _ _ _ (by decide), hs]
    refine a_iconst (v := 1) dX1_note_89 (by decide) ?_
    refine a_iadd dX1_note_90 ?_
    rw [nI_1]
    refine pX1_24 rfl dX1_note_91 (isDn_0 hD) ?_
    exact a_vret dX1_note_94 (by exact ⟨rfl, rfl⟩)
  unfold uPush
  by_cases q : u.1 < 20
  · rw [if_pos q]
    have r : rU (u.1 + 1, (fun k => if k = u.1 then Z else u.2.1 k), (fun k => if k = u.1 then o else u.2.2 k)) (sNote x u.1 o) := by
      have := rU_note (S := u.1) (Zs := fun k => if k = u.1 then Z else u.2.1 k) (f := fun k => if k = u.1 then o else u.2.2 k) (y := x) (fun k hk => by simp only [if_neg (show ¬ k = u.1 by omega)]; exact hu.2 k hk)
      simpa using this
    have K1 := a_wk (K x u.1 hu.1 q) (Q := fun v y => v = none ∧ rU (u.1 + 1, (fun k => if k = u.1 then Z else u.2.1 k), (fun k => if k = u.1 then o else u.2.2 k)) y ∧ cDn x y) (fun v y g => ⟨g.1, by rw [g.2]; exact ⟨r, cDn_note⟩⟩)
    refine a_aload_n (i := 0) dX1_note_0 rfl rfl ?_
    refine gX1_24 rfl dX1_note_1 (isDn_0 hD) ?_
    rw [hu.1]
    refine a_bipush (v := 20) dX1_note_4 (by decide) ?_
    refine a_icmp_lt (tg := 43) dX1_note_6 (by decide) (fun c_6 => ?_) (fun c_6 => ?_)
    · exact a_loc _ rfl K1
    · exact absurd (nI_lt q (by decide)) c_6
  · rw [if_neg q]
    have e20 : u.1 = 20 := by omega
    have h1 := hu.1
    rw [e20] at h1
    obtain ⟨X, hX⟩ : ∃ X, X = aWr (sFg (sFg (sFg (sFg x (bDn + 2)) (bDn + 3)) (bDn + 4)) (bDn + 5)) bDn 0 19 := ⟨_, rfl⟩
    have hXD : cDn x X := by rw [hX]; exact cDn_t (cDn_f (by decide)) (cDn_t (cDn_f (by decide)) (cDn_t (cDn_f (by decide)) (cDn_t (cDn_f (by decide)) (cDn_w (by decide)))))
    have hX0 : X.1 bDn 0 = nI 19 := by rw [hX, aWr_s]; rfl
    have hXk : ∀ k, k < 19 → X.1 (bDn + 2) k = x.1 (bDn + 2) (k + 1) ∧ X.1 (bDn + 3) k = x.1 (bDn + 3) (k + 1) ∧ X.1 (bDn + 4) k = x.1 (bDn + 4) (k + 1) ∧ X.1 (bDn + 5) k = x.1 (bDn + 5) (k + 1) := by
      intro k hk
      rw [hX]
      refine ⟨?_, ?_, ?_, ?_⟩
      · rw [aWr_n _ _ _ (by decide), sFg_n (by decide), sFg_n (by decide), sFg_n (by decide), sFg_s hk]
      · rw [aWr_n _ _ _ (by decide), sFg_n (by decide), sFg_n (by decide), sFg_s hk, sFg_n (by decide)]
      · rw [aWr_n _ _ _ (by decide), sFg_n (by decide), sFg_s hk, sFg_n (by decide), sFg_n (by decide)]
      · rw [aWr_n _ _ _ (by decide), sFg_s hk, sFg_n (by decide), sFg_n (by decide), sFg_n (by decide)]
    have r : rU (20, (fun k => if k = 19 then Z else u.2.1 (k + 1)), (fun k => if k = 19 then o else u.2.2 (k + 1))) (sNote X 19 o) := by
      have := rU_note (S := 19) (Zs := fun k => if k = 19 then Z else u.2.1 (k + 1)) (f := fun k => if k = 19 then o else u.2.2 (k + 1)) (y := X) (fun k hk => by
        obtain ⟨g1, g2, g3, g4⟩ := hXk k hk
        simp only [if_neg (show ¬ k = 19 by omega)]
        rw [g1, g2, g3, g4]
        exact hu.2 (k + 1) (by omega))
      simpa using this
    have K1 := a_wk (K X 19 hX0 (by decide)) (Q := fun v y => v = none ∧ rU (20, (fun k => if k = 19 then Z else u.2.1 (k + 1)), (fun k => if k = 19 then o else u.2.2 (k + 1))) y ∧ cDn x y) (fun v y g => ⟨g.1, by rw [g.2]; exact ⟨r, cDn_t hXD cDn_note⟩⟩)
    rw [hX] at K1
    refine a_aload_n (i := 0) dX1_note_0 rfl rfl ?_
    refine gX1_24 rfl dX1_note_1 (isDn_0 hD) ?_
    rw [h1]
    refine a_bipush (v := 20) dX1_note_4 (by decide) ?_
    refine a_icmp_lt (tg := 43) dX1_note_6 (by decide) (fun c_6 => ?_) (fun c_6 => ?_)
    · exact absurd c_6 (by decide)
    · refine a_aload_n (i := 0) dX1_note_9 rfl rfl ?_
      refine gX1_9 rfl dX1_note_10 (isDn_0 hD) ?_
      refine kX1_28 rfl dX1_note_13 (Nat.le_of_ble_eq_true rfl) (c_X1_forgetFirst (isDn_2 hD)) ?_
      refine a_aload_n (i := 0) dX1_note_16 rfl rfl ?_
      refine gX1_15 rfl dX1_note_17 (isDn_0 hD) ?_
      refine kX1_28 rfl dX1_note_20 (Nat.le_of_ble_eq_true rfl) (c_X1_forgetFirst (isDn_3 hD)) ?_
      refine a_aload_n (i := 0) dX1_note_23 rfl rfl ?_
      refine gX1_18 rfl dX1_note_24 (isDn_0 hD) ?_
      refine kX1_28 rfl dX1_note_27 (Nat.le_of_ble_eq_true rfl) (c_X1_forgetFirst (isDn_4 hD)) ?_
      refine a_aload_n (i := 0) dX1_note_30 rfl rfl ?_
      refine gX1_21 rfl dX1_note_31 (isDn_0 hD) ?_
      refine kX1_28 rfl dX1_note_34 (Nat.le_of_ble_eq_true rfl) (c_X1_forgetFirst (isDn_5 hD)) ?_
      refine a_aload_n (i := 0) dX1_note_37 rfl rfl ?_
      refine a_bipush (v := 19) dX1_note_38 (by decide) ?_
      refine pX1_24 rfl dX1_note_40 (isDn_0 hD) ?_
      exact a_loc _ rfl K1
/-! lay, peel, move, undo: the class -/
/-- frame of a call that changes now and what was done -/
def cLy (x y : aS) : Prop := ∀ n, n / 256 ≠ 5 → n / 256 ≠ 10 → y.1 n = x.1 n ∧ y.2 n = x.2 n
abbrev zLyC (T : zT) (Z : zS) (a z v : Int32) : Prop := (zIn (T.1 0) a ∧ zIn 8 z ∧ ¬ v = 0 ∧ -20 ≤ v ∧ v ≤ 20) ∧ Z.2 1 a.toNatClampNeg < 12
theorem aFy_take {b h c z : Nat} (hb : aStB b) : aFy b x (sTake x b h c z) := by
  unfold sTake
  exact aFy_t (aFy_w (bd hb (by decide))) (aFy_w (bd hb (by decide)))
theorem cR_D {y : aS} (hF : cDn x y) (h : cR T W Z x t) : cR T W Z y t := cR_o (fun n g => (hF n (by omega)).1) h
theorem sPut_d {n b h c z : Nat} {v : Int32} (h8 : n ≠ b + 8) (h9 : n ≠ b + 9) (h6 : n ≠ b + 6) (h7 : n ≠ b + 7) : (sPut x b h c z v).1 n = x.1 n := by
  unfold sPut
  rw [aWr_n _ _ _ h7, aWr_n _ _ _ h6, aWr_n _ _ _ h9, aWr_n _ _ _ h8]
theorem rU_o {y : aS} (e : ∀ n, n / 256 = 10 → y.1 n = x.1 n) (h : rU u x) : rU u y := by
  refine ⟨by rw [e _ (by decide)]; exact h.1, fun k hk => ?_⟩
  rw [e _ (by decide), e _ (by decide), e _ (by decide), e _ (by decide)]
  exact h.2 k hk
theorem cLy_yd {y z : aS} (h1 : ∀ n, n / 256 ≠ 5 → y.1 n = x.1 n ∧ y.2 n = x.2 n) (h2 : cDn y z) : cLy x z := fun n a b => ⟨(h2 n b).1.trans (h1 n a).1, (h2 n b).2.trans (h1 n a).2⟩
theorem sPut_f {h c z : Nat} {v : Int32} : ∀ n, n / 256 ≠ 5 → (sPut x bNow h c z v).1 n = x.1 n ∧ (sPut x bNow h c z v).2 n = x.2 n := fun n hn => ⟨sPut_d (fun e => hn (by rw [e]; decide)) (fun e => hn (by rw [e]; decide)) (fun e => hn (by rw [e]; decide)) (fun e => hn (by rw [e]; decide)), rfl⟩
set_option maxHeartbeats 4000000 in
set_option maxRecDepth 100000 in
theorem c_X11_lay {a z v : Int32} (hD : aDC D) (h : cR T W Z x t) (hu : rU u x) (h20 : u.1 ≤ 20) : aCt l mX11_lay (d + 3) D [.ref bLH, .int a, .int z, .int v] x (fun r y => (¬ zLyC T Z a z v → r = some (.int (-2147483648)) ∧ y = x) ∧ (zLyC T Z a z v → r = some (.int (zLast (zPut Z a.toNatClampNeg z.toNatClampNeg v) a.toNatClampNeg z.toNatClampNeg)) ∧ cR T W (zPut Z a.toNatClampNeg z.toNatClampNeg v) y t ∧ rU (uPush u Z (0, a.toNatClampNeg, z.toNatClampNeg, v)) y ∧ cLy x y)) := by
  have hh := h
  obtain ⟨ht, hp, ok, hZ, hT, hW, hS⟩ := h
  have h6 := ok.1
  refine a_met (by decide) (Nat.le_of_ble_eq_true rfl) (fun v' y q => Or.inl ⟨rfl, by by_cases g : zLyC T Z a z v; exact ⟨_, (q.2 g).1⟩; exact ⟨_, (q.1 g).1⟩⟩) ?_
  by_cases q1 : zIn (T.1 0) a ∧ zIn 8 z ∧ ¬ v = 0 ∧ -20 ≤ v ∧ v ≤ 20
  · obtain ⟨qa, qz, q0, qm, qp⟩ := q1
    have q1 : zIn (T.1 0) a ∧ zIn 8 z ∧ ¬ v = 0 ∧ -20 ≤ v ∧ v ≤ 20 := ⟨qa, qz, q0, qm, qp⟩
    obtain ⟨A, hA, rfl⟩ := zIn_of (by omega) qa
    obtain ⟨B, hB, rfl⟩ := zIn_of (by decide) qz
    have cA := (hS.2.2.1 A hA).2.1
    have c12 := (hZ.2.1 A hA).1
    have hc := c_X6_putOn (l := l) (d := d + 2) (D := D) (u := v) hD hbNow (show A < 6 by omega) hB cA c12
    by_cases q12 : Z.2 1 A < 12
    · have qC : zLyC T Z (nI A) (nI B) v := ⟨q1, by rw [nI_clamp (by omega)]; exact q12⟩
      have eA : (nI A).toNatClampNeg = A := nI_clamp (by omega)
      have eB : (nI B).toNatClampNeg = B := nI_clamp (by omega)
      rw [eA, eB]
      rw [if_pos q12, if_pos q12] at hc
      have S1 := rS_put (u := v) hS hZ hA hB q12
      have Z1 : zOk T (zPut Z A B v) := zOk_put hZ hB q12
      have R1 := cR_n hh (aFy_put hbNow) Z1 S1
      have U1 : rU u (sPut x bNow A (Z.2 1 A) B v) := rU_o (fun n hn => (sPut_f n (by omega)).1) hu
      have G : ∀ (r : Option Value) (y : aS), (r = some (.int (zLast (zPut Z A B v) A B)) ∧ cR T W (zPut Z A B v) y t ∧ rU (uPush u Z (0, A, B, v)) y ∧ cLy x y) → ((¬ zLyC T Z (nI A) (nI B) v → r = some (.int (-2147483648)) ∧ y = x) ∧ (zLyC T Z (nI A) (nI B) v → r = some (.int (zLast (zPut Z A B v) A B)) ∧ cR T W (zPut Z A B v) y t ∧ rU (uPush u Z (0, A, B, v)) y ∧ cLy x y)) := fun r y g => ⟨fun c => absurd qC c, fun _ => g⟩
      refine a_aload_n (i := 0) dX11_lay_0 rfl rfl ?_
      refine a_iload_n (i := 1) dX11_lay_1 rfl rfl ?_
      refine kX11_162 rfl dX11_lay_2 (Nat.le_of_ble_eq_true rfl) (isLH_0 hD) (c_X11_isHouse hD ht hp hT) ?_
      refine a_if_eq (tg := 31) dX11_lay_5 (by decide) (fun c_5 => ?_) (fun c_5 => ?_)
      · exact absurd c_5 (bI_p.mpr qa)
      · refine a_iload_n (i := 2) dX11_lay_8 rfl rfl ?_
        refine kX11_165 rfl dX11_lay_9 (Nat.le_of_ble_eq_true rfl) (c_X11_isZone) ?_
        refine a_if_eq (tg := 31) dX11_lay_12 (by decide) (fun c_12 => ?_) (fun c_12 => ?_)
        · exact absurd c_12 (bI_p.mpr qz)
        · refine a_iload_n (i := 3) dX11_lay_15 rfl rfl ?_
          refine a_if_eq (tg := 31) dX11_lay_16 (by decide) (fun c_16 => ?_) (fun c_16 => ?_)
          · exact absurd c_16 q0
          · refine a_iload_n (i := 3) dX11_lay_19 rfl rfl ?_
            refine a_bipush (v := (-20)) dX11_lay_20 (by decide) ?_
            refine a_icmp_lt (tg := 31) dX11_lay_22 (by decide) (fun c_22 => ?_) (fun c_22 => ?_)
            · exact absurd qm (Int32.not_le.mpr c_22)
            · refine a_iload_n (i := 3) dX11_lay_25 rfl rfl ?_
              refine a_bipush (v := 20) dX11_lay_26 (by decide) ?_
              refine a_icmp_le (tg := 34) dX11_lay_28 (by decide) (fun c_28 => ?_) (fun c_28 => ?_)
              · refine a_aload_n (i := 0) dX11_lay_34 rfl rfl ?_
                refine gX11_30 rfl dX11_lay_35 (isLH_0 hD) ?_
                refine a_iload_n (i := 1) dX11_lay_38 rfl rfl ?_
                refine a_iload_n (i := 2) dX11_lay_39 rfl rfl ?_
                refine a_iload_n (i := 3) dX11_lay_40 rfl rfl ?_
                refine kX11_245 rfl dX11_lay_41 (Nat.le_of_ble_eq_true rfl) (isS_0 hD hbNow) (hc) ?_
                refine a_if_ne (tg := 50) dX11_lay_44 (by decide) (fun c_44 => ?_) (fun c_44 => ?_)
                · refine a_aload_n (i := 0) dX11_lay_50 rfl rfl ?_
                  refine gX11_57 rfl dX11_lay_51 (isLH_0 hD) ?_
                  refine a_iconst (v := 0) dX11_lay_54 (by decide) ?_
                  refine a_iload_n (i := 1) dX11_lay_55 rfl rfl ?_
                  refine a_iload_n (i := 2) dX11_lay_56 rfl rfl ?_
                  refine a_iload_n (i := 3) dX11_lay_57 rfl rfl ?_
                  refine kgX11_249 rfl dX11_lay_58 (Nat.le_of_ble_eq_true rfl) (isDn_0 hD) (c_X1_note (Z := Z) (o := (0, A, B, v)) hD U1 h20) ?_
                  rintro r y ⟨rfl, hU, hF⟩
                  have R2 := cR_D hF R1
                  refine a_aload_n (i := 0) dX11_lay_61 rfl rfl ?_
                  refine gX11_30 rfl dX11_lay_62 (isLH_0 hD) ?_
                  refine a_iload_n (i := 1) dX11_lay_65 rfl rfl ?_
                  refine a_iload_n (i := 2) dX11_lay_66 rfl rfl ?_
                  refine kX11_169 rfl dX11_lay_67 (Nat.le_of_ble_eq_true rfl) (isS_0 hD hbNow) (cz_lastAt hD hbNow ok R2.2.2.2.2.2.2 hA hB) ?_
                  exact a_iret dX11_lay_70 (by exact G _ _ ⟨rfl, R2, hU, cLy_yd sPut_f hF⟩)
                · exact absurd c_44 (by decide)
              · exact absurd qp c_28
    · have qC : ¬ zLyC T Z (nI A) (nI B) v := fun g => q12 (by have := g.2; rwa [nI_clamp (by omega)] at this)
      rw [if_neg q12, if_neg q12] at hc
      refine a_aload_n (i := 0) dX11_lay_0 rfl rfl ?_
      refine a_iload_n (i := 1) dX11_lay_1 rfl rfl ?_
      refine kX11_162 rfl dX11_lay_2 (Nat.le_of_ble_eq_true rfl) (isLH_0 hD) (c_X11_isHouse hD ht hp hT) ?_
      refine a_if_eq (tg := 31) dX11_lay_5 (by decide) (fun c_5 => ?_) (fun c_5 => ?_)
      · exact absurd c_5 (bI_p.mpr qa)
      · refine a_iload_n (i := 2) dX11_lay_8 rfl rfl ?_
        refine kX11_165 rfl dX11_lay_9 (Nat.le_of_ble_eq_true rfl) (c_X11_isZone) ?_
        refine a_if_eq (tg := 31) dX11_lay_12 (by decide) (fun c_12 => ?_) (fun c_12 => ?_)
        · exact absurd c_12 (bI_p.mpr qz)
        · refine a_iload_n (i := 3) dX11_lay_15 rfl rfl ?_
          refine a_if_eq (tg := 31) dX11_lay_16 (by decide) (fun c_16 => ?_) (fun c_16 => ?_)
          · exact absurd c_16 q0
          · refine a_iload_n (i := 3) dX11_lay_19 rfl rfl ?_
            refine a_bipush (v := (-20)) dX11_lay_20 (by decide) ?_
            refine a_icmp_lt (tg := 31) dX11_lay_22 (by decide) (fun c_22 => ?_) (fun c_22 => ?_)
            · exact absurd qm (Int32.not_le.mpr c_22)
            · refine a_iload_n (i := 3) dX11_lay_25 rfl rfl ?_
              refine a_bipush (v := 20) dX11_lay_26 (by decide) ?_
              refine a_icmp_le (tg := 34) dX11_lay_28 (by decide) (fun c_28 => ?_) (fun c_28 => ?_)
              · refine a_aload_n (i := 0) dX11_lay_34 rfl rfl ?_
                refine gX11_30 rfl dX11_lay_35 (isLH_0 hD) ?_
                refine a_iload_n (i := 1) dX11_lay_38 rfl rfl ?_
                refine a_iload_n (i := 2) dX11_lay_39 rfl rfl ?_
                refine a_iload_n (i := 3) dX11_lay_40 rfl rfl ?_
                refine kX11_245 rfl dX11_lay_41 (Nat.le_of_ble_eq_true rfl) (isS_0 hD hbNow) (hc) ?_
                refine a_if_ne (tg := 50) dX11_lay_44 (by decide) (fun c_44 => ?_) (fun c_44 => ?_)
                · exact absurd rfl c_44
                · refine a_ldc (v := (-2147483648)) dX11_lay_47 (oX11_168 rfl) ?_
                  exact a_iret dX11_lay_49 (by exact ⟨fun _ => ⟨rfl, rfl⟩, fun g => absurd g qC⟩)
              · exact absurd qp c_28
  · have qC : ¬ zLyC T Z a z v := fun g => q1 g.1
    refine a_aload_n (i := 0) dX11_lay_0 rfl rfl ?_
    refine a_iload_n (i := 1) dX11_lay_1 rfl rfl ?_
    refine kX11_162 rfl dX11_lay_2 (Nat.le_of_ble_eq_true rfl) (isLH_0 hD) (c_X11_isHouse hD ht hp hT) ?_
    refine a_if_eq (tg := 31) dX11_lay_5 (by decide) (fun c_5 => ?_) (fun c_5 => ?_)
    · refine a_ldc (v := (-2147483648)) dX11_lay_31 (oX11_168 rfl) ?_
      exact a_iret dX11_lay_33 (by exact ⟨fun _ => ⟨rfl, rfl⟩, fun g => absurd g qC⟩)
    · refine a_iload_n (i := 2) dX11_lay_8 rfl rfl ?_
      refine kX11_165 rfl dX11_lay_9 (Nat.le_of_ble_eq_true rfl) (c_X11_isZone) ?_
      refine a_if_eq (tg := 31) dX11_lay_12 (by decide) (fun c_12 => ?_) (fun c_12 => ?_)
      · refine a_ldc (v := (-2147483648)) dX11_lay_31 (oX11_168 rfl) ?_
        exact a_iret dX11_lay_33 (by exact ⟨fun _ => ⟨rfl, rfl⟩, fun g => absurd g qC⟩)
      · refine a_iload_n (i := 3) dX11_lay_15 rfl rfl ?_
        refine a_if_eq (tg := 31) dX11_lay_16 (by decide) (fun c_16 => ?_) (fun c_16 => ?_)
        · refine a_ldc (v := (-2147483648)) dX11_lay_31 (oX11_168 rfl) ?_
          exact a_iret dX11_lay_33 (by exact ⟨fun _ => ⟨rfl, rfl⟩, fun g => absurd g qC⟩)
        · refine a_iload_n (i := 3) dX11_lay_19 rfl rfl ?_
          refine a_bipush (v := (-20)) dX11_lay_20 (by decide) ?_
          refine a_icmp_lt (tg := 31) dX11_lay_22 (by decide) (fun c_22 => ?_) (fun c_22 => ?_)
          · refine a_ldc (v := (-2147483648)) dX11_lay_31 (oX11_168 rfl) ?_
            exact a_iret dX11_lay_33 (by exact ⟨fun _ => ⟨rfl, rfl⟩, fun g => absurd g qC⟩)
          · refine a_iload_n (i := 3) dX11_lay_25 rfl rfl ?_
            refine a_bipush (v := 20) dX11_lay_26 (by decide) ?_
            refine a_icmp_le (tg := 34) dX11_lay_28 (by decide) (fun c_28 => ?_) (fun c_28 => ?_)
            · exact absurd ⟨bI_p.mp c_5, bI_p.mp c_12, c_16, Int32.not_lt.mp c_22, c_28⟩ q1
            · refine a_ldc (v := (-2147483648)) dX11_lay_31 (oX11_168 rfl) ?_
              exact a_iret dX11_lay_33 (by exact ⟨fun _ => ⟨rfl, rfl⟩, fun g => absurd g qC⟩)
abbrev zPlC (T : zT) (Z : zS) (a : Int32) : Prop := zIn (T.1 0) a ∧ 0 < Z.2 1 a.toNatClampNeg
def uPl (Z : zS) (h : Nat) : zO := (1, h, Z.2 2 (h * 12 + (Z.2 1 h - 1)), Z.1 2 (h * 12 + (Z.2 1 h - 1)))
set_option maxHeartbeats 4000000 in
set_option maxRecDepth 100000 in
theorem c_X11_peel {a : Int32} (hD : aDC D) (h : cR T W Z x t) (hu : rU u x) (h20 : u.1 ≤ 20) : aCt l mX11_peel (d + 3) D [.ref bLH, .int a] x (fun r y => (¬ zPlC T Z a → r = some (.int (-1)) ∧ y = x) ∧ (zPlC T Z a → r = some (.int (nI (Z.2 1 a.toNatClampNeg - 1))) ∧ cR T W (zPop Z a.toNatClampNeg) y t ∧ rU (uPush u Z (uPl Z a.toNatClampNeg)) y ∧ cLy x y)) := by
  have hh := h
  obtain ⟨ht, hp, ok, hZ, hT, hW, hS⟩ := h
  have h6 := ok.1
  refine a_met (by decide) (Nat.le_of_ble_eq_true rfl) (fun v' y q => Or.inl ⟨rfl, by by_cases g : zPlC T Z a; exact ⟨_, (q.2 g).1⟩; exact ⟨_, (q.1 g).1⟩⟩) ?_
  by_cases qa : zIn (T.1 0) a
  · obtain ⟨A, hA, rfl⟩ := zIn_of (by omega) qa
    have cA := (hS.2.2.1 A hA).2.1
    have c12 := (hZ.2.1 A hA).1
    have eA : (nI A).toNatClampNeg = A := nI_clamp (by omega)
    by_cases q0 : 0 < Z.2 1 A
    · have qC : zPlC T Z (nI A) := ⟨qa, by rw [eA]; exact q0⟩
      rw [eA]
      obtain ⟨c, hc⟩ : ∃ c, Z.2 1 A = c + 1 := ⟨Z.2 1 A - 1, by omega⟩
      have eP : uPl Z A = (1, A, Z.2 2 (A * 12 + c), Z.1 2 (A * 12 + c)) := by unfold uPl; rw [hc]; rfl
      rw [eP, hc, Nat.add_sub_cancel]
      rw [hc] at cA
      obtain ⟨f2, f3⟩ := (hS.2.2.1 A hA).2.2 c (by omega)
      have hz := (hZ.2.1 A hA).2 c (by omega)
      have it : nI A * 12 + nI (c + 1) - 1 = nI (A * 12 + c) := by rw [ix12, ← Nat.add_assoc, nI_pred]
      have G : ∀ (r : Option Value) (y : aS), (r = some (.int (nI c)) ∧ cR T W (zPop Z A) y t ∧ rU (uPush u Z (1, A, Z.2 2 (A * 12 + c), Z.1 2 (A * 12 + c))) y ∧ cLy x y) → ((¬ zPlC T Z (nI A) → r = some (.int (-1)) ∧ y = x) ∧ (zPlC T Z (nI A) → r = some (.int (nI c)) ∧ cR T W (zPop Z A) y t ∧ rU (uPush u Z (1, A, Z.2 2 (A * 12 + c), Z.1 2 (A * 12 + c))) y ∧ cLy x y)) := fun r y g => ⟨fun c => absurd qC c, fun _ => g⟩
      have P : ∀ y, rU (uPush u Z (1, A, Z.2 2 (A * 12 + c), Z.1 2 (A * 12 + c))) y → cDn x y → aV l mX11_peel (d + 3) D none 67 [(0, .ref bLH), (1, .int (nI A))] [] y (fun r y => r = some (.int (nI c)) ∧ cR T W (zPop Z A) y t ∧ rU (uPush u Z (1, A, Z.2 2 (A * 12 + c), Z.1 2 (A * 12 + c))) y ∧ cLy x y) := by
        intro y hU hF
        have R2 := cR_D hF hh
        have S2 := R2.2.2.2.2.2.2
        have S3 := rS_pop S2 hZ hA hc
        have R3 := cR_n R2 (aFy_take hbNow) (zOk_pop hZ) S3
        have fN : ∀ n, n / 256 ≠ 5 → (sTake y bNow A c (Z.2 2 (A * 12 + c))).1 n = y.1 n := fun n hn => by
          unfold sTake
          rw [aWr_n _ _ _ (fun e => hn (by rw [e]; decide)), aWr_n _ _ _ (fun e => hn (by rw [e]; decide))]
        have U3 := rU_o (x := y) (y := sTake y bNow A c (Z.2 2 (A * 12 + c))) (fun n hn => fN n (by omega)) hU
        have e3 : (sTake y bNow A c (Z.2 2 (A * 12 + c))).1 (bNow + 7) A = nI c := by rw [(S3.2.2.1 A hA).2.1]; simp [zPop, zuk, hc]
        have cA2 := (S2.2.2.1 A hA).2.1
        rw [hc] at cA2
        refine a_aload_n (i := 0) dX11_peel_67 rfl rfl ?_
        refine gX11_30 rfl dX11_peel_68 (isLH_0 hD) ?_
        refine a_iload_n (i := 1) dX11_peel_71 rfl rfl ?_
        refine kX11_253 rfl dX11_peel_72 (Nat.le_of_ble_eq_true rfl) (isS_0 hD hbNow) (c_X6_takeOff hD hbNow (show A < 6 by omega) hz cA2 (by omega) ((S2.2.2.1 A hA).2.2 c (by omega)).1) ?_
        refine a_aload_n (i := 0) dX11_peel_75 rfl rfl ?_
        refine gX11_30 rfl dX11_peel_76 (isLH_0 hD) ?_
        refine gX11_173 rfl dX11_peel_79 (isS_0 hD hbNow) ?_
        refine a_iload_n (i := 1) dX11_peel_82 rfl rfl ?_
        refine a_ialdN dX11_peel_83 (isS_7 hD hbNow) (by first | with_reducible exact rfl | with_reducible exact ix8 _ _ | with_reducible exact ix12 _ _ | exact rfl) (by omega) (by decide) ?_
        rw [e3]
        exact a_iret dX11_peel_84 (by exact ⟨rfl, R3, U3, fun n a b => ⟨(fN n a).trans (hF n b).1, (hF n b).2⟩⟩)
      refine a_aload_n (i := 0) dX11_peel_0 rfl rfl ?_
      refine a_iload_n (i := 1) dX11_peel_1 rfl rfl ?_
      refine kX11_162 rfl dX11_peel_2 (Nat.le_of_ble_eq_true rfl) (isLH_0 hD) (c_X11_isHouse hD ht hp hT) ?_
      refine a_if_eq (tg := 21) dX11_peel_5 (by decide) (fun c_5 => ?_) (fun c_5 => ?_)
      · exact absurd c_5 (bI_p.mpr qa)
      · refine a_aload_n (i := 0) dX11_peel_8 rfl rfl ?_
        refine gX11_30 rfl dX11_peel_9 (isLH_0 hD) ?_
        refine gX11_173 rfl dX11_peel_12 (isS_0 hD hbNow) ?_
        refine a_iload_n (i := 1) dX11_peel_15 rfl rfl ?_
        refine a_ialdN dX11_peel_16 (isS_7 hD hbNow) (by first | with_reducible exact rfl | with_reducible exact ix8 _ _ | with_reducible exact ix12 _ _ | exact rfl) (by omega) (by decide) ?_
        rw [cA]
        refine a_iconst (v := 1) dX11_peel_17 (by decide) ?_
        refine a_icmp_ge (tg := 23) dX11_peel_18 (by decide) (fun c_18 => ?_) (fun c_18 => ?_)
        · refine a_iload_n (i := 1) dX11_peel_23 rfl rfl ?_
          refine a_bipush (v := 12) dX11_peel_24 (by decide) ?_
          refine a_imul dX11_peel_26 ?_
          refine a_aload_n (i := 0) dX11_peel_27 rfl rfl ?_
          refine gX11_30 rfl dX11_peel_28 (isLH_0 hD) ?_
          refine gX11_173 rfl dX11_peel_31 (isS_0 hD hbNow) ?_
          refine a_iload_n (i := 1) dX11_peel_34 rfl rfl ?_
          refine a_ialdN dX11_peel_35 (isS_7 hD hbNow) (by first | with_reducible exact rfl | with_reducible exact ix8 _ _ | with_reducible exact ix12 _ _ | exact rfl) (by omega) (by decide) ?_
          rw [cA]
          refine a_iadd dX11_peel_36 ?_
          refine a_iconst (v := 1) dX11_peel_37 (by decide) ?_
          refine a_isub dX11_peel_38 ?_
          rw [it]
          refine a_istore_n (i := 2) dX11_peel_39 rfl (by decide) ?_
          refine a_aload_n (i := 0) dX11_peel_40 rfl rfl ?_
          refine gX11_57 rfl dX11_peel_41 (isLH_0 hD) ?_
          refine a_iconst (v := 1) dX11_peel_44 (by decide) ?_
          refine a_iload_n (i := 1) dX11_peel_45 rfl rfl ?_
          refine a_aload_n (i := 0) dX11_peel_46 rfl rfl ?_
          refine gX11_30 rfl dX11_peel_47 (isLH_0 hD) ?_
          refine gX11_176 rfl dX11_peel_50 (isS_0 hD hbNow) ?_
          refine a_iload_n (i := 2) dX11_peel_53 rfl rfl ?_
          refine a_ialdN dX11_peel_54 (isS_8 hD hbNow) (by first | with_reducible exact rfl | with_reducible exact ix8 _ _ | with_reducible exact ix12 _ _ | exact rfl) (by omega) (by decide) ?_
          rw [f2]
          refine a_aload_n (i := 0) dX11_peel_55 rfl rfl ?_
          refine gX11_30 rfl dX11_peel_56 (isLH_0 hD) ?_
          refine gX11_179 rfl dX11_peel_59 (isS_0 hD hbNow) ?_
          refine a_iload_n (i := 2) dX11_peel_62 rfl rfl ?_
          refine a_ialdN dX11_peel_63 (isS_9 hD hbNow) (by first | with_reducible exact rfl | with_reducible exact ix8 _ _ | with_reducible exact ix12 _ _ | exact rfl) (by omega) (by decide) ?_
          rw [f3]
          refine kgX11_249 rfl dX11_peel_64 (Nat.le_of_ble_eq_true rfl) (isDn_0 hD) (c_X1_note (Z := Z) (o := (1, A, Z.2 2 (A * 12 + c), Z.1 2 (A * 12 + c))) hD hu h20) ?_
          rintro r y ⟨rfl, hU, hF⟩
          exact a_loc _ rfl (a_wk (P y hU hF) G)
        · exact absurd (nI_le (show 1 ≤ c + 1 by omega) (by omega)) c_18
    · have e0 : Z.2 1 A = 0 := by omega
      have qC : ¬ zPlC T Z (nI A) := fun g => q0 (by have := g.2; rwa [eA] at this)
      rw [e0] at cA
      refine a_aload_n (i := 0) dX11_peel_0 rfl rfl ?_
      refine a_iload_n (i := 1) dX11_peel_1 rfl rfl ?_
      refine kX11_162 rfl dX11_peel_2 (Nat.le_of_ble_eq_true rfl) (isLH_0 hD) (c_X11_isHouse hD ht hp hT) ?_
      refine a_if_eq (tg := 21) dX11_peel_5 (by decide) (fun c_5 => ?_) (fun c_5 => ?_)
      · exact absurd c_5 (bI_p.mpr qa)
      · refine a_aload_n (i := 0) dX11_peel_8 rfl rfl ?_
        refine gX11_30 rfl dX11_peel_9 (isLH_0 hD) ?_
        refine gX11_173 rfl dX11_peel_12 (isS_0 hD hbNow) ?_
        refine a_iload_n (i := 1) dX11_peel_15 rfl rfl ?_
        refine a_ialdN dX11_peel_16 (isS_7 hD hbNow) (by first | with_reducible exact rfl | with_reducible exact ix8 _ _ | with_reducible exact ix12 _ _ | exact rfl) (by omega) (by decide) ?_
        rw [cA]
        refine a_iconst (v := 1) dX11_peel_17 (by decide) ?_
        refine a_icmp_ge (tg := 23) dX11_peel_18 (by decide) (fun c_18 => ?_) (fun c_18 => ?_)
        · exact absurd c_18 (by decide)
        · refine a_iconst (v := (-1)) dX11_peel_21 (by decide) ?_
          exact a_iret dX11_peel_22 (by exact ⟨fun _ => ⟨rfl, rfl⟩, fun g => absurd g qC⟩)
  · have qC : ¬ zPlC T Z a := fun g => qa g.1
    refine a_aload_n (i := 0) dX11_peel_0 rfl rfl ?_
    refine a_iload_n (i := 1) dX11_peel_1 rfl rfl ?_
    refine kX11_162 rfl dX11_peel_2 (Nat.le_of_ble_eq_true rfl) (isLH_0 hD) (c_X11_isHouse hD ht hp hT) ?_
    refine a_if_eq (tg := 21) dX11_peel_5 (by decide) (fun c_5 => ?_) (fun c_5 => ?_)
    · refine a_iconst (v := (-1)) dX11_peel_21 (by decide) ?_
      exact a_iret dX11_peel_22 (by exact ⟨fun _ => ⟨rfl, rfl⟩, fun g => absurd g qC⟩)
    · exact absurd (bI_p.mp c_5) qa
abbrev zMvC (T : zT) (Z : zS) (a c : Int32) : Prop := zIn (T.1 1) a ∧ zIn (T.1 0) c ∧ ¬ Z.2 3 a.toNatClampNeg = c.toNatClampNeg
set_option maxHeartbeats 4000000 in
set_option maxRecDepth 100000 in
theorem c_X11_move {a c : Int32} (hD : aDC D) (h : cR T W Z x t) (hu : rU u x) (h20 : u.1 ≤ 20) : aCt l mX11_move (d + 3) D [.ref bLH, .int a, .int c] x (fun r y => (¬ zMvC T Z a c → r = some (.int 0) ∧ y = x) ∧ (zMvC T Z a c → r = some (.int 1) ∧ cR T W (zHome Z a.toNatClampNeg c.toNatClampNeg) y t ∧ rU (uPush u Z (2, a.toNatClampNeg, Z.2 3 a.toNatClampNeg, 0)) y ∧ cLy x y)) := by
  have hh := h
  obtain ⟨ht, hp, ok, hZ, hT, hW, hS⟩ := h
  have h6 := ok.1
  have h8 := ok.2.1
  refine a_met (by decide) (Nat.le_of_ble_eq_true rfl) (fun v' y q => Or.inr (Or.inl ⟨rfl, by by_cases g : zMvC T Z a c; exact ⟨_, (q.2 g).1, Or.inr rfl⟩; exact ⟨_, (q.1 g).1, Or.inl rfl⟩⟩)) ?_
  by_cases q1 : zIn (T.1 1) a ∧ zIn (T.1 0) c
  · obtain ⟨qa, qc⟩ := q1
    obtain ⟨A, hA, rfl⟩ := zIn_of (by omega) qa
    obtain ⟨B, hB, rfl⟩ := zIn_of (by omega) qc
    have eA : (nI A).toNatClampNeg = A := nI_clamp (by omega)
    have eB : (nI B).toNatClampNeg = B := nI_clamp (by omega)
    have f1 := (hS.2.2.2 A hA).1
    have hlt := hZ.2.2 A hA
    by_cases q0 : Z.2 3 A = B
    · have qC : ¬ zMvC T Z (nI A) (nI B) := fun g => g.2.2 (by rw [eA, eB]; exact q0)
      refine a_aload_n (i := 0) dX11_move_0 rfl rfl ?_
      refine a_iload_n (i := 1) dX11_move_1 rfl rfl ?_
      refine kX11_125 rfl dX11_move_2 (Nat.le_of_ble_eq_true rfl) (isLH_0 hD) (c_X11_isMan hD ht hp hT) ?_
      refine a_if_eq (tg := 29) dX11_move_5 (by decide) (fun c_5 => ?_) (fun c_5 => ?_)
      · exact absurd c_5 (bI_p.mpr qa)
      · refine a_aload_n (i := 0) dX11_move_8 rfl rfl ?_
        refine a_iload_n (i := 2) dX11_move_9 rfl rfl ?_
        refine kX11_162 rfl dX11_move_10 (Nat.le_of_ble_eq_true rfl) (isLH_0 hD) (c_X11_isHouse hD ht hp hT) ?_
        refine a_if_eq (tg := 29) dX11_move_13 (by decide) (fun c_13 => ?_) (fun c_13 => ?_)
        · exact absurd c_13 (bI_p.mpr qc)
        · refine a_aload_n (i := 0) dX11_move_16 rfl rfl ?_
          refine gX11_30 rfl dX11_move_17 (isLH_0 hD) ?_
          refine gX11_135 rfl dX11_move_20 (isS_0 hD hbNow) ?_
          refine a_iload_n (i := 1) dX11_move_23 rfl rfl ?_
          refine a_ialdN dX11_move_24 (isS_10 hD hbNow) (by first | with_reducible exact rfl | with_reducible exact ix8 _ _ | with_reducible exact ix12 _ _ | exact rfl) (by omega) (by decide) ?_
          rw [f1]
          refine a_iload_n (i := 2) dX11_move_25 rfl rfl ?_
          refine a_icmp_ne (tg := 31) dX11_move_26 (by decide) (fun c_26 => ?_) (fun c_26 => ?_)
          · exact absurd (by rw [q0]) c_26
          · refine a_iconst (v := 0) dX11_move_29 (by decide) ?_
            exact a_iret dX11_move_30 (by exact ⟨fun _ => ⟨rfl, rfl⟩, fun g => absurd g qC⟩)
    · have qC : zMvC T Z (nI A) (nI B) := ⟨qa, qc, by rw [eA, eB]; exact q0⟩
      rw [eA, eB]
      have P : ∀ y, rU (uPush u Z (2, A, Z.2 3 A, 0)) y → cDn x y → rU (uPush u Z (2, A, Z.2 3 A, 0)) (aWr y (bNow + 10) A (nI B)) ∧ cR T W (zHome Z A B) (aWr y (bNow + 10) A (nI B)) t ∧ cLy x (aWr y (bNow + 10) A (nI B)) := by
        intro y hU hF
        have R2 := cR_D hF hh
        refine ⟨rU_o (fun n hn => aWr_n _ _ _ (fun e => by rw [e] at hn; exact absurd hn (by decide))) hU, cR_n R2 (aFy_w (by decide)) (zOk_home hZ hB) (rS_home R2.2.2.2.2.2.2), fun n a b => ⟨(aWr_n _ _ _ (fun e => a (by rw [e]; decide))).trans (hF n b).1, (hF n b).2⟩⟩
      refine a_aload_n (i := 0) dX11_move_0 rfl rfl ?_
      refine a_iload_n (i := 1) dX11_move_1 rfl rfl ?_
      refine kX11_125 rfl dX11_move_2 (Nat.le_of_ble_eq_true rfl) (isLH_0 hD) (c_X11_isMan hD ht hp hT) ?_
      refine a_if_eq (tg := 29) dX11_move_5 (by decide) (fun c_5 => ?_) (fun c_5 => ?_)
      · exact absurd c_5 (bI_p.mpr qa)
      · refine a_aload_n (i := 0) dX11_move_8 rfl rfl ?_
        refine a_iload_n (i := 2) dX11_move_9 rfl rfl ?_
        refine kX11_162 rfl dX11_move_10 (Nat.le_of_ble_eq_true rfl) (isLH_0 hD) (c_X11_isHouse hD ht hp hT) ?_
        refine a_if_eq (tg := 29) dX11_move_13 (by decide) (fun c_13 => ?_) (fun c_13 => ?_)
        · exact absurd c_13 (bI_p.mpr qc)
        · refine a_aload_n (i := 0) dX11_move_16 rfl rfl ?_
          refine gX11_30 rfl dX11_move_17 (isLH_0 hD) ?_
          refine gX11_135 rfl dX11_move_20 (isS_0 hD hbNow) ?_
          refine a_iload_n (i := 1) dX11_move_23 rfl rfl ?_
          refine a_ialdN dX11_move_24 (isS_10 hD hbNow) (by first | with_reducible exact rfl | with_reducible exact ix8 _ _ | with_reducible exact ix12 _ _ | exact rfl) (by omega) (by decide) ?_
          rw [f1]
          refine a_iload_n (i := 2) dX11_move_25 rfl rfl ?_
          refine a_icmp_ne (tg := 31) dX11_move_26 (by decide) (fun c_26 => ?_) (fun c_26 => ?_)
          · refine a_aload_n (i := 0) dX11_move_31 rfl rfl ?_
            refine gX11_57 rfl dX11_move_32 (isLH_0 hD) ?_
            refine a_iconst (v := 2) dX11_move_35 (by decide) ?_
            refine a_iload_n (i := 1) dX11_move_36 rfl rfl ?_
            refine a_aload_n (i := 0) dX11_move_37 rfl rfl ?_
            refine gX11_30 rfl dX11_move_38 (isLH_0 hD) ?_
            refine gX11_135 rfl dX11_move_41 (isS_0 hD hbNow) ?_
            refine a_iload_n (i := 1) dX11_move_44 rfl rfl ?_
            refine a_ialdN dX11_move_45 (isS_10 hD hbNow) (by first | with_reducible exact rfl | with_reducible exact ix8 _ _ | with_reducible exact ix12 _ _ | exact rfl) (by omega) (by decide) ?_
            rw [f1]
            refine a_iconst (v := 0) dX11_move_46 (by decide) ?_
            refine kgX11_249 rfl dX11_move_47 (Nat.le_of_ble_eq_true rfl) (isDn_0 hD) (c_X1_note (Z := Z) (o := (2, A, Z.2 3 A, 0)) hD hu h20) ?_
            rintro r y ⟨rfl, hU, hF⟩
            obtain ⟨U3, R3, F3⟩ := P y hU hF
            refine a_aload_n (i := 0) dX11_move_50 rfl rfl ?_
            refine gX11_30 rfl dX11_move_51 (isLH_0 hD) ?_
            refine gX11_135 rfl dX11_move_54 (isS_0 hD hbNow) ?_
            refine a_iload_n (i := 1) dX11_move_57 rfl rfl ?_
            refine a_iload_n (i := 2) dX11_move_58 rfl rfl ?_
            refine a_iastN dX11_move_59 (isS_10 hD hbNow) (by first | with_reducible exact rfl | with_reducible exact ix8 _ _ | with_reducible exact ix12 _ _ | exact rfl) (by omega) (by decide) ?_
            refine a_iconst (v := 1) dX11_move_60 (by decide) ?_
            exact a_iret dX11_move_61 (by exact ⟨fun c => absurd qC c, fun _ => ⟨rfl, R3, U3, F3⟩⟩)
          · exact absurd ((nI_eq (by omega) (by omega)).mp c_26) q0
  · have qC : ¬ zMvC T Z a c := fun g => q1 ⟨g.1, g.2.1⟩
    refine a_aload_n (i := 0) dX11_move_0 rfl rfl ?_
    refine a_iload_n (i := 1) dX11_move_1 rfl rfl ?_
    refine kX11_125 rfl dX11_move_2 (Nat.le_of_ble_eq_true rfl) (isLH_0 hD) (c_X11_isMan hD ht hp hT) ?_
    refine a_if_eq (tg := 29) dX11_move_5 (by decide) (fun c_5 => ?_) (fun c_5 => ?_)
    · refine a_iconst (v := 0) dX11_move_29 (by decide) ?_
      exact a_iret dX11_move_30 (by exact ⟨fun _ => ⟨rfl, rfl⟩, fun g => absurd g qC⟩)
    · refine a_aload_n (i := 0) dX11_move_8 rfl rfl ?_
      refine a_iload_n (i := 2) dX11_move_9 rfl rfl ?_
      refine kX11_162 rfl dX11_move_10 (Nat.le_of_ble_eq_true rfl) (isLH_0 hD) (c_X11_isHouse hD ht hp hT) ?_
      refine a_if_eq (tg := 29) dX11_move_13 (by decide) (fun c_13 => ?_) (fun c_13 => ?_)
      · refine a_iconst (v := 0) dX11_move_29 (by decide) ?_
        exact a_iret dX11_move_30 (by exact ⟨fun _ => ⟨rfl, rfl⟩, fun g => absurd g qC⟩)
      · exact absurd ⟨bI_p.mp c_5, bI_p.mp c_13⟩ q1
end qM
