/-! match: which of the folk for each house; numbers alone. e houses are left, g: who is taken -/
def pc (g : Nat) : Nat := cn (fun k => g.testBit k) 8
def tFar : Nat := 1000000000
def cLe (ff : Nat → Nat → Nat) (H F M : Nat) : Nat → Nat → Nat
  | 0, g => if pc g = M then 0 else tFar
  | e + 1, g => min (lp (fun m a => if g.testBit m = true then a else min a (ff (H - (e + 1)) m + cLe ff H F M e (g ||| 2 ^ m))) 0 F (cLe ff H F M e g)) tFar
def mStep (f : Nat) (q p : Nat × Nat) : Nat × Nat := if q.1 + 1 < p.1 ∨ (q.1 + 1 = p.1 ∧ p.2 ≤ q.2 + f) then p else (q.1 + 1, q.2 + f)
def mT (ff : Nat → Nat → Nat) (H F : Nat) : Nat → Nat → Nat × Nat
  | 0, _ => (0, 0)
  | e + 1, g => lp (fun m p => if g.testBit m = true then p else mStep (ff (H - (e + 1)) m) (mT ff H F e (g ||| 2 ^ m)) p) 0 F (mT ff H F e g)
theorem pc_up : ∀ g, g < 256 → ∀ m, m < 8 → g.testBit m = false → pc (g ||| 2 ^ m) = pc g + 1 ∧ (g ||| 2 ^ m) < 256 := by decide +kernel
theorem or_lt : ∀ F, F < 9 → ∀ g, g < 2 ^ F → ∀ m, m < F → (g ||| 2 ^ m) < 2 ^ F := by decide +kernel
theorem pc_le : ∀ F, F < 9 → ∀ g, g < 2 ^ F → pc g ≤ F ∧ (pc g < F → ∃ m, m < F ∧ g.testBit m = false) := by decide +kernel
theorem two_le {F : Nat} (h : F ≤ 8) : 2 ^ F ≤ 256 := Nat.pow_le_pow_right (i := F) (j := 8) (by decide) h
/-- an invariant of a counted loop -/
theorem lp_I {α : Type} {g : Nat → α → α} (I : Nat → α → Prop) {N : Nat} (h : ∀ k a, k < N → I k a → I (k + 1) (g k a)) : ∀ (n i : Nat) (a : α), i + n = N → I i a → I N (lp g i n a) := by
  intro n
  induction n with
  | zero => intro i a hi ha; rw [Nat.add_zero] at hi; subst hi; exact ha
  | succ n ih => intro i a hi ha; exact ih (i + 1) _ (by omega) (h i a (by omega) ha)
theorem lp_I2 {α β : Type} {g : Nat → α → α} {g' : Nat → β → β} (I : Nat → α → β → Prop) {N : Nat} (h : ∀ k a b, k < N → I k a b → I (k + 1) (g k a) (g' k b)) : ∀ (n i : Nat) (a : α) (b : β), i + n = N → I i a b → I N (lp g i n a) (lp g' i n b) := by
  intro n
  induction n with
  | zero => intro i a b hi ha; rw [Nat.add_zero] at hi; subst hi; exact ha
  | succ n ih => intro i a b hi ha; exact ih (i + 1) _ _ (by omega) (h i a b (by omega) ha)
theorem tb_cases (g m : Nat) : g.testBit m = true ∨ g.testBit m = false := by cases g.testBit m <;> simp
section mt
variable {ff : Nat → Nat → Nat} {H F M : Nat}
/-- bounds of the model's rows, for all g -/
theorem mT_b (hf : ∀ h, h < H → ∀ m, m < F → ff h m ≤ 160000000) : ∀ e, e ≤ H → ∀ g, (mT ff H F e g).1 ≤ e ∧ (mT ff H F e g).2 ≤ e * 160000000 := by
  intro e
  induction e with
  | zero => intro _ g; exact ⟨Nat.le_refl _, Nat.le_refl _⟩
  | succ e ih =>
    intro he g
    refine lp_I (N := F) (fun _ (p : Nat × Nat) => p.1 ≤ e + 1 ∧ p.2 ≤ (e + 1) * 160000000) (fun m p hm hp => ?_) F 0 _ (Nat.zero_add _) ?_
    · rcases tb_cases g m with hb | hb
      · rw [if_pos hb]; exact hp
      · rw [if_neg (by rw [hb]; decide)]
        unfold mStep
        have := ih (by omega) (g ||| 2 ^ m)
        have := hf (H - (e + 1)) (by omega) m hm
        split
        · exact hp
        · simp only; omega
    · have := ih (by omega) g
      omega
theorem cLe_b : ∀ e g, cLe ff H F M e g ≤ tFar := by
  intro e g
  cases e with
  | zero => unfold cLe tFar; split <;> omega
  | succ e => unfold cLe; exact Nat.min_le_right _ _
theorem mT_1 (hF : F ≤ 8) : ∀ e, ∀ g, g < 2 ^ F → (mT ff H F e g).1 = min e (F - pc g) := by
  have h2 := two_le hF
  intro e
  induction e with
  | zero => intro g _; show 0 = _; omega
  | succ e ih =>
    intro g hg
    obtain ⟨c1, c2⟩ := pc_le F (by omega) g hg
    have key : (fun (i : Nat) (p : Nat × Nat) => (p.1 = min e (F - pc g) ∧ ∀ m, m < i → g.testBit m = true) ∨ (p.1 = min (e + 1) (F - pc g))) F (mT ff H F (e + 1) g) := by
      refine lp_I (N := F) (fun (i : Nat) (p : Nat × Nat) => (p.1 = min e (F - pc g) ∧ ∀ m, m < i → g.testBit m = true) ∨ (p.1 = min (e + 1) (F - pc g))) (fun m p hm hp => ?_) F 0 _ (Nat.zero_add _) (Or.inl ⟨ih g hg, fun m hm => absurd hm (by omega)⟩)
      rcases tb_cases g m with hb | hb
      · rw [if_pos hb]
        rcases hp with ⟨a, b⟩ | a
        · refine Or.inl ⟨a, fun k hk => ?_⟩
          by_cases e : k = m
          · rw [e]; exact hb
          · exact b k (by omega)
        · exact Or.inr a
      · rw [if_neg (by rw [hb]; decide)]
        obtain ⟨u1, u2⟩ := pc_up g (by omega) m (by omega) hb
        have q := ih (g ||| 2 ^ m) (or_lt F (by omega) g hg m hm)
        have c3 := (pc_le F (by omega) (g ||| 2 ^ m) (or_lt F (by omega) g hg m hm)).1
        rw [u1] at q c3
        refine Or.inr ?_
        unfold mStep
        split <;> (try simp only) <;> rcases hp with ⟨a, b⟩ | a <;> omega
    rcases key with ⟨a, b⟩ | a
    · rw [a]
      have : ¬ pc g < F := fun h => by
        obtain ⟨m, hm, hb⟩ := c2 h
        rw [b m hm] at hb
        exact absurd hb (by decide)
      omega
    · exact a
/-- the class's row out of the model's -/
theorem mT_2 (hF : F ≤ 8) (hM : M = min H F) (hH : H ≤ 6) (hf : ∀ h, h < H → ∀ m, m < F → ff h m ≤ 160000000) : ∀ e, e ≤ H → ∀ g, g < 2 ^ F → pc g + e ≤ H → cLe ff H F M e g = if pc g + (mT ff H F e g).1 = M then (mT ff H F e g).2 else tFar := by
  have h2 := two_le hF
  have hb := mT_b (F := F) hf
  intro e
  induction e with
  | zero => intro _ g _ _; rfl
  | succ e ih =>
    intro he g hg hc
    have c1 := (pc_le F (by omega) g hg).1
    have i0 := ih (by omega) g hg (by omega)
    have m0 := mT_1 (ff := ff) (H := H) hF e g hg
    have b0 := hb e (by omega) g
    have t6 : tFar = 1000000000 := rfl
    have key := lp_I2 (N := F) (g := fun m a => if g.testBit m = true then a else min a (ff (H - (e + 1)) m + cLe ff H F M e (g ||| 2 ^ m))) (g' := fun m p => if g.testBit m = true then p else mStep (ff (H - (e + 1)) m) (mT ff H F e (g ||| 2 ^ m)) p) (fun _ (A : Nat) (p : Nat × Nat) => pc g + p.1 ≤ M ∧ p.2 < tFar ∧ (pc g + p.1 = M → A = p.2) ∧ (pc g + p.1 < M → tFar ≤ A)) (fun m A p hm hp => ?_) F 0 (cLe ff H F M e g) (mT ff H F e g) (Nat.zero_add _) ?_
    · obtain ⟨k1, k2, k3, k4⟩ := key
      show min (lp (fun m a => if g.testBit m = true then a else min a (ff (H - (e + 1)) m + cLe ff H F M e (g ||| 2 ^ m))) 0 F (cLe ff H F M e g)) tFar = if pc g + (lp (fun m p => if g.testBit m = true then p else mStep (ff (H - (e + 1)) m) (mT ff H F e (g ||| 2 ^ m)) p) 0 F (mT ff H F e g)).1 = M then (lp (fun m p => if g.testBit m = true then p else mStep (ff (H - (e + 1)) m) (mT ff H F e (g ||| 2 ^ m)) p) 0 F (mT ff H F e g)).2 else tFar
      by_cases q : pc g + (lp (fun m p => if g.testBit m = true then p else mStep (ff (H - (e + 1)) m) (mT ff H F e (g ||| 2 ^ m)) p) 0 F (mT ff H F e g)).1 = M
      · rw [if_pos q, k3 q]; omega
      · rw [if_neg q]; have := k4 (by omega); omega
    · rcases tb_cases g m with hbm | hbm
      · rw [if_pos hbm, if_pos hbm]; exact hp
      · rw [if_neg (by rw [hbm]; decide), if_neg (by rw [hbm]; decide)]
        obtain ⟨u1, u2⟩ := pc_up g (by omega) m (by omega) hbm
        have gl := or_lt F (by omega) g hg m hm
        have i1 := ih (by omega) (g ||| 2 ^ m) gl (by omega)
        have m1 := mT_1 (ff := ff) (H := H) hF e (g ||| 2 ^ m) gl
        have b1 := hb e (by omega) (g ||| 2 ^ m)
        have f1 := hf (H - (e + 1)) (by omega) m hm
        have c2 := (pc_le F (by omega) (g ||| 2 ^ m) gl).1
        obtain ⟨p1, p2, p3, p4⟩ := hp
        rw [u1] at i1 m1 c2
        rw [i1]
        generalize mT ff H F e (g ||| 2 ^ m) = q at *
        have e5 : e ≤ 5 := by omega
        unfold mStep
        by_cases s1 : q.1 + 1 < p.1 ∨ (q.1 + 1 = p.1 ∧ p.2 ≤ q.2 + ff (H - (e + 1)) m)
        · rw [if_pos s1]
          refine ⟨p1, p2, fun g1 => ?_, fun g1 => ?_⟩
          · have := p3 g1
            split <;> omega
          · have := p4 g1
            split <;> omega
        · rw [if_neg s1]
          refine ⟨by simp only; omega, by simp only; omega, fun g1 => ?_, fun g1 => ?_⟩
          · simp only at g1 ⊢
            rw [if_pos (by omega)]
            by_cases g2 : pc g + p.1 = M
            · have := p3 g2; omega
            · have := p4 (by omega); omega
          · simp only at g1
            rw [if_neg (by omega)]
            have := p4 (by omega)
            omega
    · rw [i0]
      refine ⟨by omega, by omega, fun g1 => if_pos g1, fun g1 => ?_⟩
      rw [if_neg (by omega)]
      exact Nat.le_refl _
/-- the first one of the folk by whom the least can be had -/
def cWc (ff : Nat → Nat → Nat) (H F M e g : Nat) : Nat → Nat → Option Nat
  | _, 0 => none
  | m, f + 1 => if g.testBit m = false ∧ ff (H - (e + 1)) m + cLe ff H F M e (g ||| 2 ^ m) = cLe ff H F M (e + 1) g then some m else cWc ff H F M e g (m + 1) f
def mWc (ff : Nat → Nat → Nat) (H F e g : Nat) : Nat → Nat → Option Nat
  | _, 0 => none
  | m, f + 1 => if g.testBit m = false ∧ (mT ff H F e (g ||| 2 ^ m)).1 + 1 = (mT ff H F (e + 1) g).1 ∧ (mT ff H F e (g ||| 2 ^ m)).2 + ff (H - (e + 1)) m = (mT ff H F (e + 1) g).2 then some m else mWc ff H F e g (m + 1) f
theorem cW_m (hF : F ≤ 8) (hM : M = min H F) (hH : H ≤ 6) (hf : ∀ h, h < H → ∀ m, m < F → ff h m ≤ 160000000) {e g : Nat} (he : e < H) (hg : g < 2 ^ F) (hc : pc g + (e + 1) ≤ H) (hm : pc g + (mT ff H F (e + 1) g).1 = M) : ∀ f m, m + f = F → cWc ff H F M e g m f = mWc ff H F e g m f := by
  have h2 := two_le hF
  have t6 : tFar = 1000000000 := rfl
  have e0 := mT_2 hF hM hH hf (e + 1) (by omega) g hg hc
  rw [if_pos hm] at e0
  have b0 := mT_b (F := F) hf (e + 1) (by omega) g
  intro f
  induction f with
  | zero => intro m _; rfl
  | succ f ih =>
    intro m hmf
    rw [cWc, mWc, ih (m + 1) (by omega), e0]
    rcases tb_cases g m with hb | hb
    · rw [if_neg (fun q => by rw [hb] at q; exact absurd q.1 (by decide)), if_neg (fun q => by rw [hb] at q; exact absurd q.1 (by decide))]
    · obtain ⟨u1, u2⟩ := pc_up g (by omega) m (by omega) hb
      have gl := or_lt F (by omega) g hg m (by omega)
      have i1 := mT_2 hF hM hH hf e (by omega) (g ||| 2 ^ m) gl (by omega)
      have m1 := mT_1 (ff := ff) (H := H) hF e (g ||| 2 ^ m) gl
      have b1 := mT_b (F := F) hf e (by omega) (g ||| 2 ^ m)
      have f1 := hf (H - (e + 1)) (by omega) m (by omega)
      have c2 := (pc_le F (by omega) (g ||| 2 ^ m) gl).1
      rw [u1] at i1 m1 c2
      rw [i1]
      by_cases q : pc g + 1 + (mT ff H F e (g ||| 2 ^ m)).1 = M
      · rw [if_pos q]
        by_cases q2 : ff (H - (e + 1)) m + (mT ff H F e (g ||| 2 ^ m)).2 = (mT ff H F (e + 1) g).2
        · rw [if_pos ⟨hb, q2⟩, if_pos ⟨hb, by omega, by omega⟩]
        · rw [if_neg (fun g => q2 g.2), if_neg (fun g => q2 (by omega))]
      · rw [if_neg q, if_neg (fun g => by have := g.2; omega), if_neg (fun g => by have := g.2.1; omega)]
/-- who are taken when h houses have been asked -/
def gP (ff : Nat → Nat → Nat) (H F M : Nat) : Nat → Nat
  | 0 => 0
  | h + 1 => match cWc ff H F M (H - (h + 1)) (gP ff H F M h) 0 F with
    | some m => gP ff H F M h ||| 2 ^ m
    | none => gP ff H F M h
theorem cWc_lt {e g : Nat} : ∀ (f m k : Nat), cWc ff H F M e g m f = some k → m ≤ k ∧ k < m + f ∧ g.testBit k = false ∧ ff (H - (e + 1)) k + cLe ff H F M e (g ||| 2 ^ k) = cLe ff H F M (e + 1) g := by
  intro f
  induction f with
  | zero => intro m k h; cases h
  | succ f ih =>
    intro m k h
    rw [cWc] at h
    by_cases q : g.testBit m = false ∧ ff (H - (e + 1)) m + cLe ff H F M e (g ||| 2 ^ m) = cLe ff H F M (e + 1) g
    · rw [if_pos q] at h
      cases h
      exact ⟨Nat.le_refl _, by omega, q.1, q.2⟩
    · rw [if_neg q] at h
      obtain ⟨a, b, c⟩ := ih (m + 1) k h
      exact ⟨by omega, by omega, c⟩
theorem cWc_no {e g : Nat} : ∀ (f m : Nat), cWc ff H F M e g m f = none → ∀ k, m ≤ k → k < m + f → ¬ (g.testBit k = false ∧ ff (H - (e + 1)) k + cLe ff H F M e (g ||| 2 ^ k) = cLe ff H F M (e + 1) g) := by
  intro f
  induction f with
  | zero => intro m _ k h1 h2; omega
  | succ f ih =>
    intro m h k h1 h2
    rw [cWc] at h
    by_cases q : g.testBit m = false ∧ ff (H - (e + 1)) m + cLe ff H F M e (g ||| 2 ^ m) = cLe ff H F M (e + 1) g
    · rw [if_pos q] at h; cases h
    · rw [if_neg q] at h
      by_cases ek : k = m
      · subst ek; exact q
      · exact ih (m + 1) h k (by omega) (by omega)
/-- the least is had by one of the ways -/
theorem cLe_att {e g : Nat} (h : cLe ff H F M (e + 1) g < tFar) : cLe ff H F M (e + 1) g = cLe ff H F M e g ∨ ∃ m, m < F ∧ g.testBit m = false ∧ ff (H - (e + 1)) m + cLe ff H F M e (g ||| 2 ^ m) = cLe ff H F M (e + 1) g := by
  have key := lp_I (N := F) (g := fun m a => if g.testBit m = true then a else min a (ff (H - (e + 1)) m + cLe ff H F M e (g ||| 2 ^ m))) (fun _ a => a = cLe ff H F M e g ∨ ∃ m, m < F ∧ g.testBit m = false ∧ ff (H - (e + 1)) m + cLe ff H F M e (g ||| 2 ^ m) = a) (fun m a hm ha => by
    rcases tb_cases g m with hb | hb
    · rw [if_pos hb]; exact ha
    · rw [if_neg (by rw [hb]; decide)]
      by_cases q : a ≤ ff (H - (e + 1)) m + cLe ff H F M e (g ||| 2 ^ m)
      · rw [Nat.min_eq_left q]; exact ha
      · rw [Nat.min_eq_right (by omega)]; exact Or.inr ⟨m, hm, hb, rfl⟩) F 0 (cLe ff H F M e g) (Nat.zero_add _) (Or.inl rfl)
  have e1 : cLe ff H F M (e + 1) g = lp (fun m a => if g.testBit m = true then a else min a (ff (H - (e + 1)) m + cLe ff H F M e (g ||| 2 ^ m))) 0 F (cLe ff H F M e g) := by
    have e2 : cLe ff H F M (e + 1) g = min (lp (fun m a => if g.testBit m = true then a else min a (ff (H - (e + 1)) m + cLe ff H F M e (g ||| 2 ^ m))) 0 F (cLe ff H F M e g)) tFar := rfl
    omega
  rw [e1]
  exact key
/-- what holds along the way -/
theorem gP_ok (hF : F ≤ 8) (hM : M = min H F) (hH : H ≤ 6) (hf : ∀ h, h < H → ∀ m, m < F → ff h m ≤ 160000000) : ∀ h, h ≤ H → gP ff H F M h < 2 ^ F ∧ pc (gP ff H F M h) ≤ h ∧ pc (gP ff H F M h) + (mT ff H F (H - h) (gP ff H F M h)).1 = M := by
  have h2 := two_le hF
  have t6 : tFar = 1000000000 := rfl
  intro h
  induction h with
  | zero =>
    intro _
    refine ⟨Nat.two_pow_pos F, by show pc 0 ≤ 0; decide, ?_⟩
    show pc 0 + (mT ff H F (H - 0) 0).1 = M
    rw [mT_1 hF _ 0 (Nat.two_pow_pos F), show pc 0 = 0 from by decide]
    omega
  | succ h ih =>
    intro hh
    obtain ⟨a, b, c⟩ := ih (by omega)
    have eH : H - h = H - (h + 1) + 1 := by omega
    rw [eH] at c
    have e0 := mT_2 hF hM hH hf (H - (h + 1) + 1) (by omega) (gP ff H F M h) a (by omega)
    rw [if_pos c] at e0
    have b0 := mT_b (F := F) hf (H - (h + 1) + 1) (by omega) (gP ff H F M h)
    have lt : cLe ff H F M (H - (h + 1) + 1) (gP ff H F M h) < tFar := by rw [e0]; omega
    show (match cWc ff H F M (H - (h + 1)) (gP ff H F M h) 0 F with | some m => gP ff H F M h ||| 2 ^ m | none => gP ff H F M h) < 2 ^ F ∧ pc (match cWc ff H F M (H - (h + 1)) (gP ff H F M h) 0 F with | some m => gP ff H F M h ||| 2 ^ m | none => gP ff H F M h) ≤ h + 1 ∧ pc (match cWc ff H F M (H - (h + 1)) (gP ff H F M h) 0 F with | some m => gP ff H F M h ||| 2 ^ m | none => gP ff H F M h) + (mT ff H F (H - (h + 1)) (match cWc ff H F M (H - (h + 1)) (gP ff H F M h) 0 F with | some m => gP ff H F M h ||| 2 ^ m | none => gP ff H F M h)).1 = M
    cases w : cWc ff H F M (H - (h + 1)) (gP ff H F M h) 0 F with
    | some m =>
      obtain ⟨_, w2, w3, w4⟩ := cWc_lt F 0 m w
      obtain ⟨u1, u2⟩ := pc_up _ (by omega) m (by omega) w3
      have gl := or_lt F (by omega) _ a m (by omega)
      simp only
      refine ⟨gl, by omega, ?_⟩
      have i1 := mT_2 hF hM hH hf (H - (h + 1)) (by omega) _ gl (by omega)
      by_cases q : pc (gP ff H F M h ||| 2 ^ m) + (mT ff H F (H - (h + 1)) (gP ff H F M h ||| 2 ^ m)).1 = M
      · exact q
      · rw [if_neg q] at i1; omega
    | none =>
      simp only
      refine ⟨a, by omega, ?_⟩
      rcases cLe_att lt with q | ⟨m, m1, m2, m3⟩
      · have i1 := mT_2 hF hM hH hf (H - (h + 1)) (by omega) _ a (by omega)
        by_cases q2 : pc (gP ff H F M h) + (mT ff H F (H - (h + 1)) (gP ff H F M h)).1 = M
        · exact q2
        · rw [if_neg q2] at i1; omega
      · exact absurd ⟨m2, m3⟩ (cWc_no F 0 w m (by omega) (by omega))
end mt
