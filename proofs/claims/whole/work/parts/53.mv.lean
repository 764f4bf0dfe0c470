/-! the model's laws and the class's: one value -/
def bnd (a : Int64) : Prop := -1000000000000 ≤ a.toInt ∧ a.toInt ≤ 1000000000000
theorem mB_i : mB.toInt = 1000000000000 := by decide
theorem mBn_i : (-mB).toInt = -1000000000000 := by decide
theorem wErr_i : wErr.toInt = -9223372036854775808 := by decide
theorem bnd_ne {a : Int64} (h : bnd a) : ¬ a = wErr := by
  intro e
  subst e
  have := h.1
  rw [wErr_i] at this
  omega
theorem bnd_iff {a : Int64} : bnd a ↔ ¬ (mB < a ∨ a < -mB) := by
  unfold bnd
  rw [Int64.lt_iff_toInt_lt, Int64.lt_iff_toInt_lt, mB_i, mBn_i]
  omega
theorem wBig_b {r : Int64} (h : bnd r) : wBig r = r := if_neg (bnd_iff.mp h)
theorem wBig_n {r : Int64} (h : ¬ bnd r) : wBig r = wErr := if_pos (by
  by_cases g : (mB < r ∨ r < -mB)
  · exact g
  · exact absurd (bnd_iff.mpr g) h)
theorem bmod64 {v : Int} (h1 : -9223372036854775808 ≤ v) (h2 : v < 9223372036854775808) : v.bmod (2 ^ 64) = v := Int.bmod_eq_of_le (by simpa using h1) (by simpa using h2)
theorem labs_i {a : Int64} (h : bnd a) : (labs a).toInt = if a.toInt < 0 then -a.toInt else a.toInt := by
  obtain ⟨h1, h2⟩ := h
  unfold labs
  by_cases g : a < 0
  · have g2 : a.toInt < 0 := by
      have := Int64.lt_iff_toInt_lt.mp g
      simpa using this
    rw [if_pos g, if_pos g2, Int64.toInt_neg, bmod64 (by omega) (by omega)]
  · have g2 : ¬ a.toInt < 0 := by
      intro q
      exact g (Int64.lt_iff_toInt_lt.mpr (by simpa using q))
    rw [if_neg g, if_neg g2]
theorem bnd_mul {a b : Int64} (ha : bnd a) (hb : bnd b) (h0 : ¬ a = 0) (h : ¬ mB / labs a < labs b) : bnd (a * b) := by
  have la := labs_i ha
  have lb := labs_i hb
  rw [Int64.lt_iff_toInt_lt, Int64.toInt_div_of_ne_left _ _ (by decide), mB_i, la, lb] at h
  have hA : a.toInt ≠ 0 := fun e => h0 (Int64.toInt_inj.mp (by rw [e]; rfl))
  obtain ⟨a1, a2⟩ := ha
  obtain ⟨b1, b2⟩ := hb
  generalize hAv : a.toInt = A at *
  generalize hBv : b.toInt = B at *
  have hpos : 0 < (if A < 0 then -A else A) := by split <;> omega
  rw [Int.tdiv_eq_ediv_of_nonneg (by decide)] at h
  have h2 : (if B < 0 then -B else B) * (if A < 0 then -A else A) ≤ 1000000000000 := (Int.le_ediv_iff_mul_le hpos).mp (by omega)
  have h3 : -1000000000000 ≤ A * B ∧ A * B ≤ 1000000000000 := by
    have p0 : 0 ≤ (if B < 0 then -B else B) * (if A < 0 then -A else A) := Int.mul_nonneg (by split <;> omega) (by omega)
    by_cases sA : A < 0
    · by_cases sB : B < 0
      · rw [if_pos sA, if_pos sB] at h2 p0
        rw [Int.neg_mul_neg, Int.mul_comm] at h2 p0
        omega
      · rw [if_pos sA, if_neg sB] at h2 p0
        rw [Int.mul_neg, Int.mul_comm] at h2 p0
        omega
    · by_cases sB : B < 0
      · rw [if_neg sA, if_pos sB] at h2 p0
        rw [Int.neg_mul, Int.mul_comm] at h2 p0
        omega
      · rw [if_neg sA, if_neg sB] at h2 p0
        rw [Int.mul_comm] at h2 p0
        omega
  unfold bnd
  rw [Int64.toInt_mul, hAv, hBv, bmod64 (by omega) (by omega)]
  exact h3
theorem bnd_div {a b : Int64} (ha : bnd a) : bnd (a / b) := by
  have hne : a ≠ Int64.minValue := by
    intro e
    have := ha.1
    rw [e] at this
    exact absurd this (by decide)
  unfold bnd at *
  rw [Int64.toInt_div_of_ne_left _ _ hne]
  have h1 : (a.toInt.tdiv b.toInt).natAbs ≤ a.toInt.natAbs := Int.natAbs_tdiv_le_natAbs _ _
  omega
theorem bnd_i (v : Int32) : bnd v.toInt64 := by
  unfold bnd
  rw [Int32.toInt_toInt64]
  have h1 := Int32.le_toInt v
  have h2 := Int32.toInt_lt v
  omega
theorem bnd_0 : bnd 0 := by unfold bnd; decide
theorem bnd_1 : bnd 1 := by unfold bnd; decide
/-- the kinds of the class's knots as the model's -/
def kcode (k : Int32) : Int32 := if k = 23 then 0 else if 15 ≤ k ∧ k ≤ 21 then 1 else if k = 14 then 2 else if k = 13 then 3 else if k = 12 then 4 else k - 22
/-- a sign with two sides -/
def kbin (k : Int32) : Prop := k = 12 ∨ k = 13 ∨ k = 27 ∨ k = 28 ∨ k = 29 ∨ k = 30 ∨ k = 31 ∨ k = 32 ∨ k = 33 ∨ k = 34 ∨ k = 35 ∨ k = 36
/-- with two sides: the class's and the model's way -/
theorem bin_step {k p : Int32} {nm a b : Int64} (hk : kbin k) (ha : bnd a) (hb : bnd b) :
    ((mNode (kcode k) p nm a b false).2 = true ∧ (if k < 33 then wCmp k a b else wRek k a b) = wErr) ∨
    ((mNode (kcode k) p nm a b false).2 = false ∧ (if k < 33 then wCmp k a b else wRek k a b) = (mNode (kcode k) p nm a b false).1 ∧ bnd (mNode (kcode k) p nm a b false).1) := by
  have c01 : ∀ (q : Bool), bnd (if q = true then (1 : Int64) else 0) := fun q => by cases q; exact bnd_0; exact bnd_1
  have B : ∀ r : Int64, ((mBd r false).2 = true ∧ wBig r = wErr) ∨ ((mBd r false).2 = false ∧ wBig r = (mBd r false).1 ∧ bnd (mBd r false).1) := by
    intro r
    unfold mBd
    by_cases g : bnd r
    · have g2 := bnd_iff.mp g
      have e1 : (false || decide (mB < r) || decide (r < -mB)) = false := by
        rw [Bool.false_or, Bool.or_eq_false_iff]
        exact ⟨decide_eq_false (fun h => g2 (Or.inl h)), decide_eq_false (fun h => g2 (Or.inr h))⟩
      rw [e1]
      exact Or.inr ⟨rfl, wBig_b g, g⟩
    · have e1 : (false || decide (mB < r) || decide (r < -mB)) = true := by
        rw [Bool.false_or, Bool.or_eq_true, decide_eq_true_eq, decide_eq_true_eq]
        by_cases q : (mB < r ∨ r < -mB)
        · exact q
        · exact absurd (bnd_iff.mpr q) g
      rw [e1]
      exact Or.inl ⟨rfl, wBig_n g⟩
  rcases hk with rfl | rfl | rfl | rfl | rfl | rfl | rfl | rfl | rfl | rfl | rfl | rfl
  · rw [show kcode 12 = 4 by decide, mN_4, if_pos (show (12 : Int32) < 33 by decide)]
    refine Or.inr ⟨rfl, ?_, ?_⟩
    · simp [wCmp, wSo]
    · by_cases q : a ≠ 0 ∨ b ≠ 0
      · rw [if_pos q]; exact bnd_1
      · rw [if_neg q]; exact bnd_0
  · rw [show kcode 13 = 3 by decide, mN_3, if_pos (show (13 : Int32) < 33 by decide)]
    refine Or.inr ⟨rfl, ?_, ?_⟩
    · simp [wCmp, wSo]
    · by_cases q : a ≠ 0 ∧ b ≠ 0
      · rw [if_pos q]; exact bnd_1
      · rw [if_neg q]; exact bnd_0
  · rw [show kcode 27 = 5 by decide, mN_d _ _ _ _ _ (by decide) (by decide) (by decide) (by decide) (by decide) (by decide) (by decide) (by decide) (by decide), if_pos (show (27 : Int32) < 33 by decide)]
    exact Or.inr ⟨rfl, by simp [wCmp, wSo, mCmp], c01 _⟩
  · rw [show kcode 28 = 6 by decide, mN_d _ _ _ _ _ (by decide) (by decide) (by decide) (by decide) (by decide) (by decide) (by decide) (by decide) (by decide), if_pos (show (28 : Int32) < 33 by decide)]
    exact Or.inr ⟨rfl, by simp [wCmp, wSo, mCmp], c01 _⟩
  · rw [show kcode 29 = 7 by decide, mN_d _ _ _ _ _ (by decide) (by decide) (by decide) (by decide) (by decide) (by decide) (by decide) (by decide) (by decide), if_pos (show (29 : Int32) < 33 by decide)]
    exact Or.inr ⟨rfl, by simp [wCmp, wSo, mCmp], c01 _⟩
  · rw [show kcode 30 = 8 by decide, mN_d _ _ _ _ _ (by decide) (by decide) (by decide) (by decide) (by decide) (by decide) (by decide) (by decide) (by decide), if_pos (show (30 : Int32) < 33 by decide)]
    exact Or.inr ⟨rfl, by simp [wCmp, wSo, mCmp], c01 _⟩
  · rw [show kcode 31 = 9 by decide, mN_d _ _ _ _ _ (by decide) (by decide) (by decide) (by decide) (by decide) (by decide) (by decide) (by decide) (by decide), if_pos (show (31 : Int32) < 33 by decide)]
    exact Or.inr ⟨rfl, by simp [wCmp, wSo, mCmp], c01 _⟩
  · rw [show kcode 32 = 10 by decide, mN_d _ _ _ _ _ (by decide) (by decide) (by decide) (by decide) (by decide) (by decide) (by decide) (by decide) (by decide), if_pos (show (32 : Int32) < 33 by decide)]
    exact Or.inr ⟨rfl, by simp [wCmp, wSo, mCmp], c01 _⟩
  · rw [show kcode 33 = 11 by decide, mN_11, if_neg (show ¬ (33 : Int32) < 33 by decide), show wRek 33 a b = wBig (a + b) from by simp [wRek]]
    exact B _
  · rw [show kcode 34 = 12 by decide, mN_12, if_neg (show ¬ (34 : Int32) < 33 by decide), show wRek 34 a b = wBig (a - b) from by simp [wRek]]
    exact B _
  · rw [show kcode 35 = 13 by decide, mN_13, if_neg (show ¬ (35 : Int32) < 33 by decide), show wRek 35 a b = (if a ≠ 0 ∧ 1000000000000 / labs a < labs b then wErr else wBig (a * b)) from by simp [wRek]]
    unfold mTm
    by_cases q : a ≠ 0 ∧ mB / labs a < labs b
    · have qb : b ≠ 0 := by
        intro e
        subst e
        have h1 := Int64.lt_iff_toInt_lt.mp q.2
        rw [Int64.toInt_div_of_ne_left _ _ (by decide), mB_i, labs_i ha, labs_i bnd_0] at h1
        rw [Int.tdiv_eq_ediv_of_nonneg (by decide)] at h1
        have h2 : 0 ≤ (1000000000000 : Int) / (if a.toInt < 0 then -a.toInt else a.toInt) := Int.ediv_nonneg (by decide) (by split <;> omega)
        have h3 : (0 : Int64).toInt = 0 := by decide
        rw [h3] at h1
        simp at h1
        omega
      rw [decide_eq_true (⟨q.1, qb, q.2⟩ : a ≠ 0 ∧ b ≠ 0 ∧ mB / labs a < labs b)]
      exact Or.inl ⟨rfl, if_pos q⟩
    · rw [decide_eq_false (fun h => q ⟨h.1, h.2.2⟩ : ¬ (a ≠ 0 ∧ b ≠ 0 ∧ mB / labs a < labs b))]
      have hb2 : bnd (a * b) := by
        by_cases a0 : a = 0
        · subst a0; rw [Int64.zero_mul]; exact bnd_0
        · exact bnd_mul ha hb a0 (fun h => q ⟨a0, h⟩)
      exact Or.inr ⟨rfl, (if_neg q).trans (wBig_b hb2), hb2⟩
  · rw [show kcode 36 = 14 by decide, mN_14, if_neg (show ¬ (36 : Int32) < 33 by decide), show wRek 36 a b = (if b = 0 then wErr else wBig (a / b)) from by simp [wRek]]
    by_cases q : b = 0
    · rw [decide_eq_true q]
      exact Or.inl ⟨rfl, if_pos q⟩
    · rw [decide_eq_false q]
      exact Or.inr ⟨rfl, (if_neg q).trans (wBig_b (bnd_div ha)), bnd_div ha⟩
