/-! the model's run over its nodes is the class's value -/
def ixStep (k : Int32) (n : Nat) (I : List Nat) : Option (List Nat) :=
  if k = 23 ∨ (15 ≤ k ∧ k ≤ 21) then some (n :: I)
  else if k = 14 then (match I with
    | [] => none
    | _ :: R => some (n :: R))
  else match I with
    | _ :: _ :: R => some (n :: R)
    | _ => none
def ixGo (L : zL) (f i : Nat) (o : Option (List Nat)) : Option (List Nat) := o.bind (ixStep (L.2.1 i) (f + i))
def mNd (L : zL) (x : aS) (P O : Nat → Nat) (f j : Nat) (I : List Nat) : Prop := x.1 (bM + 46) (f + j) = kcode (L.2.1 j) ∧
  ((L.2.1 j = 23 ∧ x.1 (bM + 47) (f + j) = L.2.2 j) ∨ ((15 ≤ L.2.1 j ∧ L.2.1 j ≤ 21) ∧ P (f + j) = (L.2.1 j - 15).toNatClampNeg) ∨ (L.2.1 j = 14 ∧ ∃ a R, I = a :: R ∧ P (f + j) = a) ∨ (kbin (L.2.1 j) ∧ ∃ b a R, I = b :: a :: R ∧ P (f + j) = a ∧ O (f + j) = b))
/-- the nodes from f on are the law L -/
def rLM (L : zL) (x : aS) (P O : Nat → Nat) (f : Nat) : Prop := f + L.1 ≤ 64 ∧ mNok x P O f L.1 ∧ (∀ j, j < L.1 → ∃ I, lp (ixGo L f) 0 j (some []) = some I ∧ mNd L x P O f j I) ∧ lp (ixGo L f) 0 L.1 (some []) = some [f + L.1 - 1]
theorem mNode_t (c p : Int32) (nm a b : Int64) : (mNode c p nm a b true).2 = true := by
  unfold mNode mBd mTm
  split
  · rfl
  · split
    · rfl
    · split
      · rfl
      · split
        · rfl
        · split
          · rfl
          · split
            · rfl
            · split
              · rfl
              · split
                · rfl
                · split
                  · rfl
                  · rfl
theorem kbin_n {k : Int32} (h : kbin k) : ¬ k = 23 ∧ ¬ (15 ≤ k ∧ k ≤ 21) ∧ ¬ k = 14 := by
  rcases h with rfl | rfl | rfl | rfl | rfl | rfl | rfl | rfl | rfl | rfl | rfl | rfl <;> decide
theorem row_push {f j : Nat} {row : Nat → Int64} {w : Int64} {R : List Nat} (hR : ∀ a ∈ R, a < f + j ∧ bnd (row a)) (hw : bnd w) : (∀ a ∈ (f + j) :: R, a < f + (j + 1) ∧ bnd (vp_updL row (f + j) w a)) ∧ ((f + j) :: R).map (vp_updL row (f + j) w) = w :: R.map row := by
  have e1 : vp_updL row (f + j) w (f + j) = w := by simp [vp_updL]
  have e2 : ∀ a ∈ R, vp_updL row (f + j) w a = row a := by
    intro a ha
    have := (hR a ha).1
    have hne : a ≠ f + j := by omega
    simp [vp_updL, hne]
  refine ⟨fun a ha => ?_, ?_⟩
  · rcases List.mem_cons.mp ha with rfl | ha
    · rw [e1]; exact ⟨by omega, hw⟩
    · rw [e2 a ha]; exact ⟨by have := (hR a ha).1; omega, (hR a ha).2⟩
  · rw [List.map_cons, e1]
    congr 1
    exact List.map_congr_left e2
theorem mRun_inv {L : zL} {x : aS} {P O : Nat → Nat} {f : Nat} {nm : Nat → Int32} (h : rLM L x P O f) (hn : ∀ j, j < 7 → x.2 (bM + 57) j = (nm j).toInt64) : ∀ j, j ≤ L.1 →
    ((lp (mGoN x P O) f j (false, x.2 (bM + 58))).1 = true ∧ lp (vGo L nm) 0 j (some []) = none) ∨
    ((lp (mGoN x P O) f j (false, x.2 (bM + 58))).1 = false ∧ ∃ I, lp (ixGo L f) 0 j (some []) = some I ∧ (∀ a ∈ I, a < f + j ∧ bnd ((lp (mGoN x P O) f j (false, x.2 (bM + 58))).2 a)) ∧ lp (vGo L nm) 0 j (some []) = some (I.map (lp (mGoN x P O) f j (false, x.2 (bM + 58))).2)) := by
  intro j
  induction j with
  | zero =>
    intro _
    exact Or.inr ⟨rfl, [], rfl, fun a ha => absurd ha List.not_mem_nil, rfl⟩
  | succ j ih =>
    intro hj
    rw [lp_snoc, lp_snoc, lp_snoc, Nat.zero_add]
    generalize hq : lp (mGoN x P O) f j (false, x.2 (bM + 58)) = q at ih ⊢
    generalize ho : lp (vGo L nm) 0 j (some []) = o at ih ⊢
    obtain ⟨e, row⟩ := q
    dsimp only at ih
    rcases ih (by omega) with ⟨h1, h2⟩ | ⟨h1, I, h3, h4, h5⟩
    · subst h1; subst h2
      exact Or.inl ⟨mNode_t _ _ _ _ _, rfl⟩
    · subst h1
      obtain ⟨I2, hI2, hc, hk⟩ := h.2.2.1 j (by omega)
      rw [h3] at hI2 ⊢
      cases hI2
      rw [h5]
      unfold mGoN vGo ixGo
      dsimp only [Option.bind]
      rw [hc]
      generalize hkk : L.2.1 j = k at hk ⊢
      rcases hk with ⟨rfl, hp⟩ | ⟨hr, hp⟩ | ⟨rfl, a, R, rfl, hp⟩ | ⟨hb, b, a, R, rfl, hp, hO⟩
      · rw [show kcode 23 = 0 by decide, mN_0, hp]
        obtain ⟨r1, r2⟩ := row_push (f := f) (j := j) (w := (L.2.2 j).toInt64) h4 (bnd_i _)
        refine Or.inr ⟨rfl, (f + j) :: I, by simp [ixStep], r1, ?_⟩
        rw [r2]
        simp [vStep]
      · obtain ⟨n, hn7, en⟩ := k15 (Int32.not_lt.mpr hr.1) (Int32.not_lt.mpr hr.2)
        have k23 : ¬ k = 23 := by
          intro g
          subst g
          exact absurd hr.2 (by decide)
        rw [show kcode k = 1 from by unfold kcode; rw [if_neg k23, if_pos hr], mN_1, hp, en, nI_clamp (by omega), hn n hn7]
        obtain ⟨r1, r2⟩ := row_push (f := f) (j := j) (w := (nm n).toInt64) h4 (bnd_i _)
        refine Or.inr ⟨rfl, (f + j) :: I, by rw [ixStep.eq_def, if_pos (Or.inr hr)], r1, ?_⟩
        rw [r2, vStep.eq_def, if_neg k23, if_pos hr, en, nI_clamp (by omega)]
      · rw [show kcode 14 = 2 by decide, mN_2, hp]
        have hR : ∀ c ∈ R, c < f + j ∧ bnd (row c) := fun c hc => h4 c (List.mem_cons_of_mem _ hc)
        have hw : bnd (if row a = 0 then 1 else 0) := by
          split
          · exact bnd_1
          · exact bnd_0
        obtain ⟨r1, r2⟩ := row_push (f := f) (j := j) (w := if row a = 0 then 1 else 0) hR hw
        refine Or.inr ⟨rfl, (f + j) :: R, by simp [ixStep], r1, ?_⟩
        rw [r2]
        simp [vStep]
      · obtain ⟨b1, b2, b3⟩ := kbin_n hb
        have ha := (h4 a (List.mem_cons_of_mem _ List.mem_cons_self)).2
        have hb2 := (h4 b List.mem_cons_self).2
        have hR : ∀ c ∈ R, c < f + j ∧ bnd (row c) := fun c hc => h4 c (List.mem_cons_of_mem _ (List.mem_cons_of_mem _ hc))
        rw [hp, hO]
        have hv : vStep k (L.2.2 j) nm ((b :: a :: R).map row) = if (if k < 33 then wCmp k (row a) (row b) else wRek k (row a) (row b)) = wErr then none else some ((if k < 33 then wCmp k (row a) (row b) else wRek k (row a) (row b)) :: R.map row) := by
          rw [vStep.eq_def, if_neg b1, if_neg b2, if_neg b3]
          rfl
        rw [hv]
        rcases bin_step (p := x.1 (bM + 47) (f + j)) (nm := x.2 (bM + 57) a) hb ha hb2 with ⟨g1, g2⟩ | ⟨g1, g2, g3⟩
        · rw [g1, if_pos g2]
          exact Or.inl ⟨rfl, rfl⟩
        · obtain ⟨r1, r2⟩ := row_push (f := f) (j := j) hR g3
          refine Or.inr ⟨g1, (f + j) :: R, by rw [ixStep.eq_def, if_neg (fun q => q.elim b1 b2), if_neg b3], r1, ?_⟩
          rw [r2, g2, if_neg (bnd_ne g3)]
theorem mRun_v {L : zL} {x : aS} {P O : Nat → Nat} {f : Nat} {nm : Nat → Int32} (h : rLM L x P O f) (hn : ∀ j, j < 7 → x.2 (bM + 57) j = (nm j).toInt64) :
    ((mRun x P O f L.1).1 = true ∧ vWorth L nm = wErr) ∨ ((mRun x P O f L.1).1 = false ∧ vWorth L nm = (mRun x P O f L.1).2 (f + L.1 - 1) ∧ ¬ vWorth L nm = wErr) := by
  unfold vWorth mRun
  rcases mRun_inv h hn L.1 (Nat.le_refl _) with ⟨h1, h2⟩ | ⟨h1, I, h3, h4, h5⟩
  · rw [h2]
    exact Or.inl ⟨h1, rfl⟩
  · rw [h.2.2.2] at h3
    cases h3
    rw [h5]
    exact Or.inr ⟨h1, rfl, bnd_ne (h4 _ List.mem_cons_self).2⟩
/-- the clamp, both ways -/
theorem zCut_b {v : Int64} {most o : Int32} (hm : 0 ≤ most) (hv : ¬ v = wErr) : zCut v most o = zBound v most := by
  unfold zCut zBound
  rw [if_neg hv]
  have m0 : (0 : Int64) ≤ most.toInt64 := by
    rw [Int64.le_iff_toInt_le, Int32.toInt_toInt64]
    have := Int32.le_iff_toInt_le.mp hm
    simpa using this
  by_cases a : v < 0
  · rw [if_pos a]
    by_cases b : v < most.toInt64
    · rw [if_pos b, if_pos a]; rfl
    · exact absurd (Int64.lt_of_lt_of_le a m0) b
  · rw [if_neg a]
    by_cases b : v < most.toInt64
    · rw [if_pos b, if_neg a, if_neg (l_not_lt.mpr (Int64.le_of_lt b))]
    · rw [if_neg b, if_neg (l_not_lt.mpr m0)]
      by_cases c : most.toInt64 < v
      · rw [if_pos c]; simp
      · rw [if_neg c]
        have : v = most.toInt64 := Int64.le_antisymm (l_not_lt.mp c) (l_not_lt.mp b)
        rw [this]
