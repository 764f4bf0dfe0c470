/-! a law's value, by lists; L: how many knots, their kinds, their numbers -/
abbrev zL : Type := Nat × (Nat → Int32) × (Nat → Int32)
def vStep (k v : Int32) (nm : Nat → Int32) (S : List Int64) : Option (List Int64) :=
  if k = 23 then some (v.toInt64 :: S)
  else if 15 ≤ k ∧ k ≤ 21 then some ((nm (k - 15).toNatClampNeg).toInt64 :: S)
  else if k = 14 then (match S with
    | [] => none
    | a :: R => some ((if a = 0 then 1 else 0) :: R))
  else match S with
    | b :: a :: R => if (if k < 33 then wCmp k a b else wRek k a b) = wErr then none else some ((if k < 33 then wCmp k a b else wRek k a b) :: R)
    | _ => none
def vGo (L : zL) (nm : Nat → Int32) (i : Nat) (o : Option (List Int64)) : Option (List Int64) := o.bind (vStep (L.2.1 i) (L.2.2 i) nm)
def vOut (o : Option (List Int64)) : Int64 := match o with
  | some [a] => a
  | _ => wErr
def vWorth (L : zL) (nm : Nat → Int32) : Int64 := vOut (lp (vGo L nm) 0 L.1 (some []))
def vR (q : Nat × (Nat → Int64)) (S : List Int64) : Prop := q.1 = S.length ∧ ∀ j, j < S.length → q.2 j = S.getD (S.length - 1 - j) 0
theorem vR_push {T : Nat} {row : Nat → Int64} {S : List Int64} {w : Int64} (h : vR (T, row) S) : vR (T + 1, vp_updL row T w) (w :: S) := by
  obtain ⟨h1, h2⟩ := h
  dsimp only at h1 h2
  subst h1
  refine ⟨rfl, fun j hj => ?_⟩
  rw [List.length_cons] at hj ⊢
  by_cases e : j = S.length
  · subst e
    simp [vp_updL]
  · have hlt : j < S.length := by omega
    show vp_updL row S.length w j = _
    rw [show vp_updL row S.length w j = row j from by simp [vp_updL, e], h2 j hlt, show S.length + 1 - 1 - j = (S.length - 1 - j) + 1 by omega, List.getD_cons_succ]
theorem vR_set {T : Nat} {row : Nat → Int64} {S : List Int64} {a w : Int64} (h : vR (T + 1, row) (a :: S)) : vR (T + 1, vp_updL row T w) (w :: S) ∧ row T = a ∧ T = S.length := by
  obtain ⟨h1, h2⟩ := h
  dsimp only at h1 h2
  rw [List.length_cons] at h1 h2
  have hT : T = S.length := by omega
  subst hT
  refine ⟨⟨rfl, fun j hj => ?_⟩, ?_, rfl⟩
  · rw [List.length_cons] at hj ⊢
    by_cases e : j = S.length
    · subst e
      simp [vp_updL]
    · show vp_updL row S.length w j = _
      rw [show vp_updL row S.length w j = row j from by simp [vp_updL, e], h2 j hj, show S.length + 1 - 1 - j = (S.length - 1 - j) + 1 by omega, List.getD_cons_succ, List.getD_cons_succ]
  · rw [h2 S.length (by omega)]
    simp
theorem vR_two {T : Nat} {row : Nat → Int64} {S : List Int64} {a b w : Int64} (h : vR (T + 2, row) (b :: a :: S)) : vR (T + 1, vp_updL row T w) (w :: S) ∧ row T = a ∧ row (T + 1) = b ∧ T = S.length := by
  obtain ⟨h1, h2⟩ := h
  dsimp only at h1 h2
  rw [List.length_cons, List.length_cons] at h1 h2
  have hT : T = S.length := by omega
  subst hT
  refine ⟨⟨rfl, fun j hj => ?_⟩, ?_, ?_, rfl⟩
  · rw [List.length_cons] at hj ⊢
    by_cases e : j = S.length
    · subst e
      simp [vp_updL]
    · show vp_updL row S.length w j = _
      rw [show vp_updL row S.length w j = row j from by simp [vp_updL, e], h2 j (by omega), show S.length + 1 + 1 - 1 - j = (S.length - 1 - j) + 1 + 1 by omega, show S.length + 1 - 1 - j = (S.length - 1 - j) + 1 by omega, List.getD_cons_succ, List.getD_cons_succ, List.getD_cons_succ]
  · rw [h2 S.length (by omega), show S.length + 1 + 1 - 1 - S.length = 0 + 1 by omega, List.getD_cons_succ]
    simp
  · rw [h2 (S.length + 1) (by omega)]
    simp
/-- the two ways go together -/
def vRo (o : Option (Nat × (Nat → Int64))) (p : Option (List Int64)) : Prop := match o, p with
  | none, none => True
  | some q, some S => vR q S
  | _, _ => False
theorem vRo_step {k v : Int32} {nm nm' : Nat → Int32} {q : Nat × (Nat → Int64)} {S : List Int64} (h : vR q S) (hn : ∀ j, j < 7 → nm j = nm' j) : vRo (wStep k v nm q) (vStep k v nm' S) := by
  obtain ⟨T, row⟩ := q
  unfold wStep vStep
  by_cases c1 : k = 23
  · rw [if_pos c1, if_pos c1]
    exact vR_push h
  · rw [if_neg c1, if_neg c1]
    by_cases c2 : 15 ≤ k ∧ k ≤ 21
    · rw [if_pos c2, if_pos c2]
      obtain ⟨j, hj, ej⟩ := k15 (Int32.not_lt.mpr c2.1) (Int32.not_lt.mpr c2.2)
      have e7 : (k - 15).toNatClampNeg < 7 := by rw [ej, nI_clamp (by omega)]; exact hj
      rw [← hn _ e7]
      exact vR_push h
    · rw [if_neg c2, if_neg c2]
      by_cases c3 : k = 14
      · rw [if_pos c3, if_pos c3]
        cases S with
        | nil =>
          have : T = 0 := h.1
          subst this
          exact trivial
        | cons a R =>
          have hT : T = R.length + 1 := h.1
          subst hT
          obtain ⟨g1, g2, -⟩ := vR_set (w := if a = 0 then 1 else 0) h
          rw [if_neg (by omega)]
          show vR _ _
          simp only [Nat.add_sub_cancel]
          rw [g2]
          exact g1
      · rw [if_neg c3, if_neg c3]
        match S, h with
        | [], h =>
          have : T = 0 := h.1
          subst this
          exact trivial
        | [a], h =>
          have : T = 1 := h.1
          subst this
          exact trivial
        | b :: a :: R, h =>
          have hT : T = R.length + 2 := h.1
          subst hT
          rw [if_neg (by omega)]
          simp only [Nat.add_sub_cancel]
          rw [show R.length + 2 - 1 = R.length + 1 by omega]
          obtain ⟨g1, g2, g3, -⟩ := vR_two (w := if k < 33 then wCmp k a b else wRek k a b) h
          rw [g2, g3]
          by_cases c4 : (if k < 33 then wCmp k a b else wRek k a b) = wErr
          · rw [if_pos c4, if_pos c4]
            exact trivial
          · rw [if_neg c4, if_neg c4]
            exact g1
theorem vRo_out {o : Option (Nat × (Nat → Int64))} {p : Option (List Int64)} (h : vRo o p) : wOut o = vOut p := by
  match o, p, h with
  | none, none, _ => rfl
  | some (T, row), some S, h =>
    obtain ⟨h1, h2⟩ := h
    dsimp only at h1 h2
    match S, h1, h2 with
    | [], h1, _ => subst h1; rfl
    | [a], h1, h2 =>
      subst h1
      show (if 1 = 1 then row 0 else wErr) = a
      rw [if_pos rfl, h2 0 (by simp)]
      rfl
    | a :: b :: R, h1, _ =>
      subst h1
      show (if R.length + 1 + 1 = 1 then row 0 else wErr) = wErr
      rw [if_neg (by omega)]
theorem vWorth_of {L : zL} {nm : Nat → Int32} {x : aS} {n : Nat} (h1 : ∀ i, i < L.1 → x.1 (n + 10) i = L.2.1 i ∧ x.1 (n + 20) i = L.2.2 i) (hn : ∀ j, j < 7 → x.1 (bYr + 1) j = nm j) : wWorth x n L.1 = vWorth L nm := by
  unfold wWorth vWorth
  have G : ∀ (k i : Nat), i + k = L.1 → ∀ o p, vRo o p → vRo (lp (wGo x n) i k o) (lp (vGo L nm) i k p) := by
    intro k
    induction k with
    | zero => intro i _ o p h; exact h
    | succ k ih =>
      intro i hi o p h
      refine ih (i + 1) (by omega) _ _ ?_
      match o, p, h with
      | none, none, _ => exact trivial
      | some q, some S, h =>
        show vRo (wStep _ _ _ q) (vStep _ _ _ S)
        rw [(h1 i (by omega)).1, (h1 i (by omega)).2]
        exact vRo_step h hn
  exact vRo_out (G L.1 0 (Nat.zero_add _) _ _ ⟨rfl, fun j hj => absurd hj (Nat.not_lt_zero j)⟩)
