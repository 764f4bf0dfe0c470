/-! what was seen: what counts, what fits, what to ask; without the machine -/
/-- what counts: strikes asked from the last one on -/
def zSf (p : Nat × zG) : Nat → (Nat → Bool) → Nat → Bool
  | 0, c => c
  | j + 1, c => zSf p j (if c j = true ∧ (p.2 j).1 = 0 then (fun i => if i = (p.2 j).2.1 then false else c i) else c)
def zCt (p : Nat × zG) (K : Nat) : Nat → Bool := zSf p K (fun i => decide (i < K))
theorem zSf_off {p : Nat × zG} : ∀ (j : Nat) (c : Nat → Bool) (i : Nat), c i = false → zSf p j c i = false := by
  intro j
  induction j with
  | zero => intro c i h; exact h
  | succ j ih =>
    intro c i h
    refine ih _ i ?_
    split
    · simp only
      split
      · rfl
      · exact h
    · exact h
theorem zCt_off {p : Nat × zG} {K i : Nat} (h : K ≤ i) : zCt p K i = false := zSf_off K _ i (decide_eq_false (by omega))
def zAny (f : Nat → Bool) : Nat → Nat → Bool
  | _, 0 => false
  | i, n + 1 => f i || zAny f (i + 1) n
theorem zAny_add {f : Nat → Bool} : ∀ (a i b : Nat), zAny f i (a + b) = (zAny f i a || zAny f (i + a) b) := by
  intro a
  induction a with
  | zero => intro i b; rw [Nat.zero_add, Nat.add_zero]; simp [zAny]
  | succ a ih =>
    intro i b
    rw [show a + 1 + b = (a + b) + 1 by omega]
    show (f i || zAny f (i + 1) (a + b)) = ((f i || zAny f (i + 1) a) || zAny f (i + (a + 1)) b)
    rw [ih, Bool.or_assoc, show i + 1 + a = i + (a + 1) by omega]
theorem zAny_no {f : Nat → Bool} : ∀ (n i : Nat), (∀ j, i ≤ j → j < i + n → f j = false) → zAny f i n = false := by
  intro n
  induction n with
  | zero => intro i _; rfl
  | succ n ih =>
    intro i h
    show (f i || zAny f (i + 1) n) = false
    rw [h i (by omega) (by omega), ih (i + 1) (fun j h1 h2 => h j (by omega) (by omega))]
    rfl
/-- one seen that isn't so in the year n -/
def zBad (p : Nat × zG) (c : Nat → Bool) (n : Nat) (Y : zS) (i : Nat) : Bool := c i && (decide ((p.2 i).1 = n) && (decide ((p.2 i).2.2.1 ≤ Y.1 4 (p.2 i).2.1) != (p.2 i).2.2.2))
/-- do all hold, for f years from n on -/
def zHd (T : zT) (W : Nat → zL) (p : Nat × zG) (c : Nat → Bool) : Nat → Nat → zS → Bool
  | 0, _, _ => true
  | f + 1, n, Y => if zAny (zBad p c n (zYear T W 5 Y)) 0 p.1 = true then false else zHd T W p c f (n + 1) (zYear T W 5 Y)
theorem zHd_more {T : zT} {W : Nat → zL} {p : Nat × zG} {c : Nat → Bool} : ∀ (f n g : Nat) (Y : zS), (∀ i, i < p.1 → c i = true → (p.2 i).1 < n + f) → zHd T W p c (f + g) n Y = zHd T W p c f n Y := by
  intro f
  induction f with
  | zero =>
    intro n g
    rw [Nat.zero_add]
    revert n
    induction g with
    | zero => intro n Y _; rfl
    | succ g ih =>
      intro n Y h
      show (if zAny (zBad p c n (zYear T W 5 Y)) 0 p.1 = true then false else zHd T W p c g (n + 1) (zYear T W 5 Y)) = true
      rw [zAny_no p.1 0 (fun i _ hi => ?_), if_neg (by decide), ih (n + 1) (zYear T W 5 Y) (fun i hi hc => by have := h i hi hc; omega)]
      · rfl
      · unfold zBad
        cases hc : c i with
        | false => rfl
        | true =>
          have := h i (by omega) hc
          rw [decide_eq_false (by omega)]
          rfl
  | succ f ih =>
    intro n g Y h
    rw [show f + 1 + g = (f + g) + 1 by omega]
    show (if zAny (zBad p c n (zYear T W 5 Y)) 0 p.1 = true then false else zHd T W p c (f + g) (n + 1) (zYear T W 5 Y)) = (if zAny (zBad p c n (zYear T W 5 Y)) 0 p.1 = true then false else zHd T W p c f (n + 1) (zYear T W 5 Y))
    rw [ih (n + 1) g _ (fun i hi hc => by have := h i hi hc; omega)]
/-- the latest year of what counts -/
def zLy (p : Nat × zG) (c : Nat → Bool) : Nat := lp (fun i a => if c i = true ∧ ¬ (p.2 i).1 = 0 then max a (p.2 i).1 else a) 0 p.1 0
theorem zLy_ok {T : zT} {p : Nat × zG} {c : Nat → Bool} (h : sgOk T p) : zLy p c ≤ 60 ∧ ∀ i, i < p.1 → c i = true → (p.2 i).1 ≤ zLy p c := by
  have key := lp_I (N := p.1) (g := fun i a => if c i = true ∧ ¬ (p.2 i).1 = 0 then max a (p.2 i).1 else a) (fun k a => a ≤ 60 ∧ ∀ i, i < k → c i = true → (p.2 i).1 ≤ a) (fun k a hk ha => ?_) p.1 0 0 (Nat.zero_add _) ⟨by omega, fun i hi => absurd hi (by omega)⟩
  · exact key
  · obtain ⟨a1, a2⟩ := ha
    have b := (h.2 k hk).1
    by_cases q : c k = true ∧ ¬ (p.2 k).1 = 0
    · rw [if_pos q]
      refine ⟨by omega, fun i hi hc => ?_⟩
      by_cases e : i = k
      · subst e; omega
      · have := a2 i (by omega) hc; omega
    · rw [if_neg q]
      refine ⟨a1, fun i hi hc => ?_⟩
      by_cases e : i = k
      · subst e
        have : (p.2 i).1 = 0 := Classical.byContradiction (fun g => q ⟨hc, g⟩)
        omega
      · exact a2 i (by omega) hc
/-- the state with another bump at first -/
def zB0 (T : zT) (m b : Nat) : zS := zui (zFirst T) 3 m (nI b)
def zFit (T : zT) (W : Nat → zL) (p : Nat × zG) (c : Nat → Bool) (m b : Nat) : Bool := zHd T W p c 60 1 (zB0 T m b)
theorem zFit_c {T : zT} {W : Nat → zL} {p : Nat × zG} {c : Nat → Bool} {m b : Nat} (h : sgOk T p) : zHd T W p c (zLy p c) 1 (zB0 T m b) = zFit T W p c m b := by
  obtain ⟨a1, a2⟩ := zLy_ok (c := c) h
  unfold zFit
  rw [show 60 = zLy p c + (60 - zLy p c) by omega]
  exact (zHd_more _ _ _ _ (fun i hi hc => by have := a2 i hi hc; omega)).symm
/-- the numbers of those that fit, by bits -/
def bN (B : Nat → Bool) : Nat → Nat
  | 0 => 0
  | k + 1 => if B k = true then bN B k ||| 2 ^ k else bN B k
theorem bN_lt (B : Nat → Bool) : ∀ k, bN B k < 2 ^ k := by
  intro k
  induction k with
  | zero => show 0 < 2 ^ 0; decide
  | succ k ih =>
    show (if B k = true then bN B k ||| 2 ^ k else bN B k) < 2 ^ (k + 1)
    have h2 : 2 ^ k < 2 ^ (k + 1) := Nat.pow_lt_pow_right (by decide) (by omega)
    split
    · exact Nat.or_lt_two_pow (by omega) h2
    · omega
theorem bN_tb (B : Nat → Bool) : ∀ k i, (bN B k).testBit i = (decide (i < k) && B i) := by
  intro k
  induction k with
  | zero => intro i; show (0 : Nat).testBit i = _; rw [Nat.zero_testBit]; simp
  | succ k ih =>
    intro i
    show (if B k = true then bN B k ||| 2 ^ k else bN B k).testBit i = _
    by_cases e : i = k
    · subst e
      cases hb : B i with
      | true =>
        rw [if_pos rfl, Nat.testBit_or, Nat.testBit_two_pow_self]
        simp
      | false =>
        rw [if_neg (by decide), ih]
        simp [hb]
    · have hlt : decide (i < k + 1) = decide (i < k) := by
        by_cases q : i < k
        · rw [decide_eq_true q, decide_eq_true (by omega)]
        · rw [decide_eq_false q, decide_eq_false (by omega)]
      rw [hlt]
      split
      · rw [Nat.testBit_or, ih, Nat.testBit_two_pow, decide_eq_false (show ¬ k = i from fun g => e g.symm), Bool.or_false]
      · exact ih i
theorem nI_or {a b : Nat} (ha : a < 2 ^ 31) (hb : b < 2 ^ 31) : nI a ||| nI b = nI (a ||| b) := by
  refine Int32.toBitVec_inj.mp (BitVec.eq_of_toNat_eq ?_)
  rw [Int32.toBitVec_or, BitVec.toNat_or, pk_tn (by omega), pk_tn (by omega), pk_tn (Nat.lt_of_lt_of_le (Nat.or_lt_two_pow ha hb) (by decide))]
theorem two_k : ∀ k, k < 31 → (1 : Int32) <<< (nI k &&& 31) = nI (2 ^ k) := by decide +kernel
theorem bN_or {B : Nat → Bool} {k : Nat} (hk : k < 21) : nI (bN B k) ||| ((1 : Int32) <<< (nI k &&& 31)) = nI (bN B k ||| 2 ^ k) := by
  have h1 := bN_lt B k
  have h2 : 2 ^ k < 2 ^ 31 := Nat.pow_lt_pow_right (by decide) (by omega)
  rw [two_k k (by omega), nI_or (by omega) h2]
theorem many_n {n : Nat} (hn : n < 2 ^ 31) : zMany (nI n) = nI (cn (fun k => n.testBit k) 21) := by
  have key := lp_I (N := 21) (g := fun k a => a + (nI n >>> (nI k &&& 31) &&& 1)) (fun k a => a = nI (cn (fun k => n.testBit k) k)) (fun k a hk ha => ?_) 21 0 0 rfl rfl
  · exact key
  · subst ha
    rw [sh1_b hn (by omega)]
    show nI (cn (fun k => n.testBit k) k) + bI (n.testBit k) = nI (cn (fun k => n.testBit k) k + if n.testBit k = true then 1 else 0)
    cases n.testBit k with
    | true => exact nI_1 _
    | false => exact Int32.add_zero _
/-- corns are numbers up to 999 -/
def zCo (T : zT) (Z : zS) : Prop := ∀ m, m < T.1 1 → ∃ c, c ≤ 999 ∧ Z.1 4 m = nI c
theorem zCo_of {T : zT} {Z Y : zS} (h : zCo T Z) (e : Y.1 4 = Z.1 4) : zCo T Y := fun m hm => by rw [e]; exact h m hm
theorem zCo_year {T : zT} {W : Nat → zL} {way : Nat} {Z : zS} (h : zCo T Z) : zCo T (zYear T W way Z) := by
  refine zYear_ind (zCo T) ?_ ?_ ?_ ?_ ?_ ?_ ?_ Z h
  · intro k Z hk h
    rw [zDeed_do]
    split
    · refine zCo_of h ?_
      unfold zDo
      funext m
      split
      · simp [zPut, zuk, zui]
      · simp [zRef, zui]
    · exact h
  · intro k Z hk h
    rw [zWed_do]
    split
    · refine zCo_of h ?_
      unfold zWd
      funext m
      split
      · simp [zMarry, zuk, zSet]
      · simp [zRef, zui]
    · exact h
  · intro m Z h
    unfold zWear
    split
    · exact h
    · split
      · exact h
      · intro q hq
        by_cases e : q = m
        · subst e
          obtain ⟨c, hc, e1⟩ := h q hq
          have e2 : (zCorn T W q Z).1 4 q = jmin 999 (Z.1 4 q + 1) := by simp [zCorn, zui]
          rw [e2, e1, nI_1, show (999 : Int32) = nI 999 from rfl, jmin_n (by decide) (by omega)]
          exact ⟨_, by omega, rfl⟩
        · have e2 : (zCorn T W m Z).1 4 q = Z.1 4 q := by simp [zCorn, zui, e]
          rw [e2]; exact h q hq
  · intro Z h
    refine zCo_of h ?_
    funext m
    unfold zDamp
    split
    · rfl
    · split
      · rfl
      · split
        · simp [zui]
        · rfl
  · intro Z h; exact zCo_of h (by funext m; simp [zSwell])
  · intro g w Z h; exact zCo_of h (by funext m; simp [zSet])
  · intro Z h; exact zCo_of h (by funext m; simp [zY5, zui])
theorem zCo_years {T : zT} {W : Nat → zL} {way n : Nat} {Z : zS} (h : zCo T Z) : zCo T (zYears T W way n Z) := zYears_ok (zCo T) (fun Z h => zCo_year h) h
theorem zCo_0 {T : zT} {m b : Nat} : zCo T (zB0 T m b) := fun q _ => ⟨0, by omega, by simp [zB0, zui, zFirst]; rfl⟩
theorem zOk_0 {T : zT} {m b : Nat} (ok : zTok T) : zOk T (zB0 T m b) := zOk_ui (zOk_first ok)
/-! asking: of those that fit (B), so many corns (C) each -/
def aYes (B : Nat → Bool) (C : Nat → Nat) (u : Nat) : Nat := cn (fun k => B k && decide (u ≤ C k)) 21
def aOut (B : Nat → Bool) (C : Nat → Nat) (u : Nat) : Nat := cn (fun k => B k && decide (C k < u)) 21
def aWst (B : Nat → Bool) (C : Nat → Nat) (u : Nat) : Nat := max (aYes B C u) (aOut B C u)
theorem cn_split (B : Nat → Bool) (P : Nat → Prop) [DecidablePred P] : ∀ n, cn B n = cn (fun k => B k && decide (P k)) n + cn (fun k => B k && decide (¬ P k)) n := by
  intro n
  induction n with
  | zero => rfl
  | succ n ih =>
    show cn B n + (if B n = true then 1 else 0) = cn _ n + (if (B n && decide (P n)) = true then 1 else 0) + (cn _ n + (if (B n && decide (¬ P n)) = true then 1 else 0))
    rw [ih]
    cases hb : B n with
    | false => simp
    | true =>
      by_cases hp : P n
      · simp [hp]; omega
      · simp [hp]; omega
theorem aSum (B : Nat → Bool) (C : Nat → Nat) (u : Nat) : cn B 21 = aYes B C u + aOut B C u := by
  rw [cn_split B (fun k => u ≤ C k) 21]
  unfold aYes aOut
  congr 1
  exact cn_congr 21 (fun k _ => by simp only [Nat.not_le])
theorem cn_le (B : Nat → Bool) : ∀ n, cn B n ≤ n := by
  intro n
  induction n with
  | zero => exact Nat.le_refl _
  | succ n ih => show cn B n + (if B n = true then 1 else 0) ≤ n + 1; split <;> omega
def aGo (B : Nat → Bool) (C : Nat → Nat) (u : Nat) (q : Nat × Nat) : Nat × Nat := if aWst B C u < q.2 then (u, aWst B C u) else q
def qAsk (B : Nat → Bool) (C : Nat → Nat) (w : Int32) : Int32 := if w = 0 then nI (lp (aGo B C) 2 59 (1, aWst B C 1)).1 else nI (lp (aGo B C) 2 59 (1, aWst B C 1)).2
theorem aOut_s {B : Nat → Bool} {C : Nat → Nat} {u : Nat} (hu : u < 60) : aOut B C (u + 1) = aOut B C u + cn (fun k => B k && decide (min (C k) 60 = u)) 21 := by
  unfold aOut
  have : ∀ n, cn (fun k => B k && decide (C k < u + 1)) n = cn (fun k => B k && decide (C k < u)) n + cn (fun k => B k && decide (min (C k) 60 = u)) n := by
    intro n
    induction n with
    | zero => rfl
    | succ n ih =>
      show cn _ n + (if (B n && decide (C n < u + 1)) = true then 1 else 0) = cn _ n + (if (B n && decide (C n < u)) = true then 1 else 0) + (cn _ n + (if (B n && decide (min (C n) 60 = u)) = true then 1 else 0))
      rw [ih]
      cases hb : B n with
      | false => simp
      | true =>
        simp only [Bool.true_and, decide_eq_true_eq]
        by_cases h1 : C n < u
        · rw [if_pos (by omega), if_pos h1, if_neg (by omega)]; omega
        · by_cases h2 : C n = u
          · rw [if_pos (by omega), if_neg h1, if_pos (by omega)]; omega
          · rw [if_neg (by omega), if_neg h1, if_neg (by omega)]; omega
  exact this 21
