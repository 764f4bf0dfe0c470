/-! numbers, loops, contracts' starts -/
def lp {α : Type} (g : Nat → α → α) : Nat → Nat → α → α
  | _, 0, a => a
  | i, n + 1, a => lp g (i + 1) n (g i a)
theorem lp_rule {α : Type} {P : Nat → α → Prop} (g : Nat → α → α) {N : Nat} (step : ∀ i a, i < N → P (i + 1) (g i a) → P i a) : ∀ (n i : Nat) (a : α), i + n = N → P N (lp g i n a) → P i a := by
  intro n
  induction n with
  | zero => intro i a h k; rw [Nat.add_zero] at h; subst h; exact k
  | succ n ih => intro i a h k; exact step i a (by omega) (ih (i + 1) (g i a) (by omega) k)
/-- the same with an invariant -/
theorem lp_inv {α : Type} {P : Nat → α → Prop} (I : Nat → α → Prop) (g : Nat → α → α) {N : Nat} (hI : ∀ i a, i < N → I i a → I (i + 1) (g i a)) (step : ∀ i a, i < N → I i a → P (i + 1) (g i a) → P i a) : ∀ (n i : Nat) (a : α), i + n = N → I i a → (I N (lp g i n a) → P N (lp g i n a)) → P i a := by
  intro n
  induction n with
  | zero => intro i a h hi k; rw [Nat.add_zero] at h; subst h; exact k hi
  | succ n ih => intro i a h hi k; exact step i a (by omega) hi (ih (i + 1) (g i a) (by omega) (hI i a (by omega) hi) k)
theorem lp_congr {α : Type} {f g : Nat → α → α} : ∀ (n i : Nat) (a : α), (∀ j b, i ≤ j → j < i + n → f j b = g j b) → lp f i n a = lp g i n a := by
  intro n
  induction n with
  | zero => intro i a _; rfl
  | succ n ih => intro i a h; show lp f (i + 1) n (f i a) = lp g (i + 1) n (g i a); rw [h i a (Nat.le_refl i) (by omega)]; exact ih _ _ (fun j b h1 h2 => h j b (by omega) (by omega))
theorem ix8 (h z : Nat) : nI h * 8 + nI z = nI (h * 8 + z) := by rw [show (8 : Int32) = nI 8 from rfl, pk_mul, nI_add]
theorem ix12 (h z : Nat) : nI h * 12 + nI z = nI (h * 12 + z) := by rw [show (12 : Int32) = nI 12 from rfl, pk_mul, nI_add]
theorem a_metI {l : Launch} {m : aM} {d : Nat} {D : Nat → Bool} {args : List Value} {x y : aS} {r : Int32} (hy : plainName m.1.cls = true) (hlen : (lg_sl args).length ≤ m.2.2.1) (hr : m.2.2.2 = some .int) (h : aV l m d D none 0 (lv_args 0 args) [] x (fun v z => v = some (.int r) ∧ z = y)) : aDI l m d D args x r y :=
  a_met hy hlen (fun v z q => Or.inl ⟨hr, r, q.1⟩) h
theorem a_metZ {l : Launch} {m : aM} {d : Nat} {D : Nat → Bool} {args : List Value} {x y : aS} {r : Int32} (hy : plainName m.1.cls = true) (hlen : (lg_sl args).length ≤ m.2.2.1) (hr : m.2.2.2 = some .boolean) (h0 : r = 0 ∨ r = 1) (h : aV l m d D none 0 (lv_args 0 args) [] x (fun v z => v = some (.int r) ∧ z = y)) : aDI l m d D args x r y :=
  a_met hy hlen (fun v z q => Or.inr (Or.inl ⟨hr, r, q.1, h0⟩)) h
theorem a_metJ {l : Launch} {m : aM} {d : Nat} {D : Nat → Bool} {args : List Value} {x y : aS} {r : Int64} (hy : plainName m.1.cls = true) (hlen : (lg_sl args).length ≤ m.2.2.1) (hr : m.2.2.2 = some .long) (h : aV l m d D none 0 (lv_args 0 args) [] x (fun v z => v = some (.long r) ∧ z = y)) : aDJ l m d D args x r y :=
  a_met hy hlen (fun v z q => Or.inr (Or.inr (Or.inl ⟨hr, r, q.1⟩))) h
theorem a_metV {l : Launch} {m : aM} {d : Nat} {D : Nat → Bool} {args : List Value} {x y : aS} (hy : plainName m.1.cls = true) (hlen : (lg_sl args).length ≤ m.2.2.1) (hr : m.2.2.2 = none) (h : aV l m d D none 0 (lv_args 0 args) [] x (fun v z => v = none ∧ z = y)) : aDV l m d D args x y :=
  a_met hy hlen (fun v z q => Or.inr (Or.inr (Or.inr ⟨hr, q.1⟩))) h
