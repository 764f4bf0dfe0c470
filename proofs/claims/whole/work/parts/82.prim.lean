/-! the least by which all are joined does not depend on which of several is taken first -/
def cn (P : Nat → Bool) : Nat → Nat
  | 0 => 0
  | n + 1 => cn P n + (if P n = true then 1 else 0)
theorem cn_rm0 {Q : Nat → Bool} {m : Nat} : ∀ M, M ≤ m → cn (fun k => Q k && !decide (k = m)) M = cn Q M := by
  intro M
  induction M with
  | zero => intro _; rfl
  | succ M ih =>
    intro h
    show cn _ M + (if (Q M && !decide (M = m)) = true then 1 else 0) = cn Q M + (if Q M = true then 1 else 0)
    rw [ih (by omega), decide_eq_false (show ¬ M = m by omega)]
    simp
theorem cn_rm {Q : Nat → Bool} {m : Nat} (hQ : Q m = true) : ∀ M, m < M → cn Q M = cn (fun k => Q k && !decide (k = m)) M + 1 := by
  intro M
  induction M with
  | zero => intro h; omega
  | succ M ih =>
    intro h
    show cn Q M + (if Q M = true then 1 else 0) = cn _ M + (if (Q M && !decide (M = m)) = true then 1 else 0) + 1
    by_cases e : m = M
    · subst e
      rw [cn_rm0 m (Nat.le_refl _), hQ]
      simp
    · rw [ih (by omega), decide_eq_false (show ¬ M = m by omega)]
      simp only [Bool.not_false, Bool.and_true]
      omega
theorem cn_inj {P : Nat → Bool} {f : Nat → Nat} {M : Nat} : ∀ (N : Nat) (Q : Nat → Bool), (∀ j, j < N → P j = true → f j < M ∧ Q (f j) = true) → (∀ i, i < N → ∀ j, j < N → P i = true → P j = true → f i = f j → i = j) → cn P N ≤ cn Q M := by
  intro N
  induction N with
  | zero => intro Q _ _; exact Nat.zero_le _
  | succ N ih =>
    intro Q h1 h2
    show cn P N + _ ≤ _
    by_cases e : P N = true
    · rw [if_pos e]
      obtain ⟨a, b⟩ := h1 N (by omega) e
      rw [cn_rm b M a]
      have := ih (fun k => Q k && !decide (k = f N)) (fun j hj hp => ?_) (fun i hi j hj => h2 i (by omega) j (by omega))
      · omega
      · obtain ⟨c1, c2⟩ := h1 j (by omega) hp
        refine ⟨c1, ?_⟩
        rw [c2, decide_eq_false (fun g => by have := h2 j (by omega) N (by omega) hp e g; omega)]
        rfl
    · rw [if_neg e]
      exact ih Q (fun j hj => h1 j (by omega)) (fun i hi j hj => h2 i (by omega) j (by omega))
theorem cn_all : ∀ N, cn (fun _ => true) N = N := by
  intro N
  induction N with
  | zero => rfl
  | succ N ih => show cn _ N + 1 = N + 1; rw [ih]
/-- who is hit by fewer than all, misses one -/
theorem cover_le {N K : Nat} {v : Nat → Nat} (h : ∀ u, u < N → ∃ k, k < K ∧ v k = u) : N ≤ K := by
  have h2 : ∀ u, ∃ k, u < N → k < K ∧ v k = u := fun u => by
    by_cases q : u < N
    · obtain ⟨k, hk⟩ := h u q; exact ⟨k, fun _ => hk⟩
    · exact ⟨0, fun g => absurd g q⟩
  obtain ⟨f, hf⟩ := Classical.axiomOfChoice h2
  have := cn_inj (P := fun _ => true) (f := f) (M := K) N (fun _ => true) (fun j hj _ => ⟨(hf j hj).1, rfl⟩) (fun i hi j hj _ _ e => by rw [← (hf i hi).2, ← (hf j hj).2, e])
  rwa [cn_all, cn_all] at this
theorem inj_surj {N : Nat} {v : Nat → Nat} (h1 : ∀ k, k < N → v k < N) (h2 : ∀ i, i < N → ∀ j, j < N → v i = v j → i = j) : ∀ u, u < N → ∃ k, k < N ∧ v k = u := by
  intro u hu
  refine Classical.byContradiction (fun g => ?_)
  have := cn_inj (P := fun _ => true) (f := v) (M := N) N (fun k => true && !decide (k = u)) (fun j hj _ => ⟨h1 j hj, by rw [decide_eq_false (fun e => g ⟨j, hj, e⟩)]; rfl⟩) (fun i hi j hj _ _ e => h2 i hi j hj e)
  have e := cn_rm (Q := fun _ => true) (m := u) rfl N hu
  rw [cn_all] at this e
  omega
/-- a way in which all are joined: K of N so far, v in their order, w by how much -/
def primP (N : Nat) (d : Nat → Nat → Nat) (K : Nat) (v w : Nat → Nat) : Prop := (∀ k, k < K → v k < N) ∧ (∀ i, i < K → ∀ j, j < K → v i = v j → i = j) ∧ (0 < K → v 0 = 0) ∧ w 0 = 0 ∧ ∀ k, 0 < k → k < K → (∃ a, a < k ∧ d (v a) (v k) = w k) ∧ ∀ a, a < k → ∀ h, h < N → (∀ b, b < k → v b ≠ h) → w k ≤ d (v a) h
def sw (w : Nat → Nat) : Nat → Nat
  | 0 => 0
  | n + 1 => sw w n + w n
def smi (w : Nat → Nat) (M : Nat) : Nat → Nat
  | 0 => 0
  | n + 1 => smi w M n + min (w n) M
theorem smi_s (w : Nat → Nat) (M : Nat) : ∀ N, smi w (M + 1) N = smi w M N + cn (fun k => decide (M < w k)) N := by
  intro N
  induction N with
  | zero => rfl
  | succ N ih =>
    show smi w (M + 1) N + min (w N) (M + 1) = smi w M N + min (w N) M + (cn _ N + _)
    rw [ih]
    by_cases e : M < w N
    · simp only [decide_eq_true e, if_true]; omega
    · simp only [decide_eq_false e]; simp; omega
theorem smi_sw {w : Nat → Nat} {M : Nat} : ∀ N, (∀ k, k < N → w k ≤ M) → smi w M N = sw w N := by
  intro N
  induction N with
  | zero => intro _; rfl
  | succ N ih =>
    intro h
    show smi w M N + min (w N) M = sw w N + w N
    rw [ih (fun k hk => h k (by omega))]
    have := h N (by omega)
    omega
theorem cn_congr {P Q : Nat → Bool} : ∀ N, (∀ k, k < N → P k = Q k) → cn P N = cn Q N := by
  intro N
  induction N with
  | zero => intro _; rfl
  | succ N ih =>
    intro h
    show cn P N + _ = cn Q N + _
    rw [ih (fun k hk => h k (by omega)), h N (by omega)]
/-- where one came in, along what is at most θ -/
theorem prim_rep {N θ : Nat} {d : Nat → Nat → Nat} {v w : Nat → Nat} (h : primP N d N v w) : ∀ (n k : Nat), k ≤ n → k < N → ∃ r, r < N ∧ (r = 0 ∨ θ < w r) ∧ ∀ C : Nat → Prop, (∀ a, a < N → ∀ b, b < N → d a b ≤ θ → (C a ↔ C b)) → (C (v k) ↔ C (v r)) := by
  obtain ⟨h1, h2, h0, hw0, h3⟩ := h
  intro n
  induction n with
  | zero =>
    intro k hk hkN
    have : k = 0 := by omega
    subst this
    exact ⟨0, hkN, Or.inl rfl, fun C _ => Iff.rfl⟩
  | succ n ih =>
    intro k hk hkN
    by_cases e : k = 0 ∨ θ < w k
    · exact ⟨k, hkN, e, fun C _ => Iff.rfl⟩
    · obtain ⟨a, ha, hd⟩ := (h3 k (by omega) hkN).1
      obtain ⟨r, r1, r2, r3⟩ := ih a (by omega) (by omega)
      refine ⟨r, r1, r2, fun C hC => ?_⟩
      rw [← r3 C hC]
      exact (hC (v a) (h1 a (by omega)) (v k) (h1 k hkN) (by rw [hd]; omega)).symm
theorem prim_cn {N θ : Nat} {d : Nat → Nat → Nat} {v w v' w' : Nat → Nat} (hs : ∀ a, a < N → ∀ b, b < N → d a b = d b a) (h : primP N d N v w) (h' : primP N d N v' w') : cn (fun k => decide (k = 0 ∨ θ < w' k)) N ≤ cn (fun k => decide (k = 0 ∨ θ < w k)) N := by
  have sj := inj_surj h.1 h.2.1
  have sj' := inj_surj h'.1 h'.2.1
  have hr : ∀ j, ∃ r, j < N → r < N ∧ (r = 0 ∨ θ < w r) ∧ ∀ C : Nat → Prop, (∀ a, a < N → ∀ b, b < N → d a b ≤ θ → (C a ↔ C b)) → (C (v' j) ↔ C (v r)) := fun j => by
    by_cases q : j < N
    · obtain ⟨k, hk, e⟩ := sj (v' j) (h'.1 j q)
      obtain ⟨r, r1, r2, r3⟩ := prim_rep (θ := θ) h k k (Nat.le_refl _) hk
      exact ⟨r, fun _ => ⟨r1, r2, by rw [← e]; exact r3⟩⟩
    · exact ⟨0, fun g => absurd g q⟩
  obtain ⟨f, hf⟩ := Classical.axiomOfChoice hr
  have key : ∀ i j, i < j → j < N → θ < w' j → f i = f j → False := by
    intro i j hij hj hw e
    have hC : ∀ a, a < N → ∀ b, b < N → d a b ≤ θ → ((∃ q, q < j ∧ v' q = a) ↔ (∃ q, q < j ∧ v' q = b)) := by
      have one : ∀ a, a < N → ∀ b, b < N → d a b ≤ θ → (∃ q, q < j ∧ v' q = a) → (∃ q, q < j ∧ v' q = b) := by
        intro a _ b hb hd ⟨q, hq, eq⟩
        refine Classical.byContradiction (fun g => ?_)
        have := (h'.2.2.2.2 j (by omega) hj).2 q hq b hb (fun c hc ec => g ⟨c, hc, ec⟩)
        rw [eq] at this
        omega
      exact fun a ha b hb hd => ⟨one a ha b hb hd, one b hb a ha (by rw [hs b hb a ha]; exact hd)⟩
    have c1 := (hf i (by omega)).2.2 (fun u => ∃ q, q < j ∧ v' q = u) hC
    have c2 := (hf j hj).2.2 (fun u => ∃ q, q < j ∧ v' q = u) hC
    rw [e] at c1
    obtain ⟨q, hq, eq⟩ := c2.mpr (c1.mp ⟨i, hij, rfl⟩)
    have := h'.2.1 q (by omega) j hj eq
    omega
  refine cn_inj (f := f) N _ (fun j hj _ => ⟨(hf j hj).1, decide_eq_true (hf j hj).2.1⟩) (fun i hi j hj p1 p2 e => ?_)
  rcases Nat.lt_trichotomy i j with g | g | g
  · exact absurd e (fun e => key i j g hj ((of_decide_eq_true p2).resolve_left (by omega)) e)
  · exact g
  · exact absurd e.symm (fun e => key j i g hi ((of_decide_eq_true p1).resolve_left (by omega)) e)
theorem sw_b {w : Nat → Nat} {B : Nat} (h0 : w 0 = 0) : ∀ N, sw (fun k => if k = 0 then B else w k) (N + 1) = B + sw w (N + 1) := by
  intro N
  induction N with
  | zero => show 0 + B = B + (0 + w 0); rw [h0]; omega
  | succ N ih =>
    show sw _ (N + 1) + _ = B + (sw w (N + 1) + w (N + 1))
    rw [ih]
    simp only [Nat.add_eq_zero_iff, Nat.one_ne_zero, and_false, if_false]
    omega
theorem prim_eq {N B : Nat} {d : Nat → Nat → Nat} {v w v' w' : Nat → Nat} (hs : ∀ a, a < N → ∀ b, b < N → d a b = d b a) (hB : ∀ a, a < N → ∀ b, b < N → d a b ≤ B) (h : primP N d N v w) (h' : primP N d N v' w') : sw w N = sw w' N := by
  cases N with
  | zero => rfl
  | succ N =>
    have wB : ∀ (v w : Nat → Nat), primP (N + 1) d (N + 1) v w → ∀ k, k < N + 1 → (if k = 0 then B else w k) ≤ B := by
      intro v w h k hk
      split
      · exact Nat.le_refl _
      · obtain ⟨a, ha, e⟩ := (h.2.2.2.2 k (by omega) hk).1
        rw [← e]
        exact hB _ (h.1 a (by omega)) _ (h.1 k hk)
    have M : ∀ m, m ≤ B → smi (fun k => if k = 0 then B else w k) m (N + 1) = smi (fun k => if k = 0 then B else w' k) m (N + 1) := by
      intro m
      induction m with
      | zero =>
        intro _
        have z : ∀ (u : Nat → Nat) (K : Nat), smi u 0 K = 0 := by
          intro u K
          induction K with
          | zero => rfl
          | succ K ih => show smi u 0 K + min (u K) 0 = 0; rw [ih]; omega
        rw [z, z]
      | succ m ih =>
        intro hm
        rw [smi_s, smi_s, ih (by omega)]
        congr 1
        have c : ∀ u : Nat → Nat, cn (fun k => decide (m < if k = 0 then B else u k)) (N + 1) = cn (fun k => decide (k = 0 ∨ m < u k)) (N + 1) := fun u => cn_congr _ (fun k hk => by
          by_cases e : k = 0
          · simp only [e, if_true, true_or, decide_true]; exact decide_eq_true (by omega)
          · simp [e])
        rw [c, c]
        exact Nat.le_antisymm (prim_cn hs h' h) (prim_cn hs h h')
    have e := M B (Nat.le_refl _)
    rw [smi_sw _ (wB v w h), smi_sw _ (wB v' w' h'), sw_b h.2.2.2.1, sw_b h'.2.2.2.1] at e
    omega
