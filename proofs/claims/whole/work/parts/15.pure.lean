/-! numbers, loops, contracts' starts -/
def lp {α : Type} (g : Nat → α → α) : Nat → Nat → α → α
  | _, 0, a => a
  | i, n + 1, a => lp g (i + 1) n (g i a)
theorem lp_rule {α : Type} {P : Nat → α → Prop} (g : Nat → α → α) {N : Nat} (step : ∀ i a, i < N → P (i + 1) (g i a) → P i a) : ∀ (n i : Nat) (a : α), i + n = N → P N (lp g i n a) → P i a := by
  intro n
  induction n with
  | zero => intro i a h k; rw [Nat.add_zero] at h; subst h; exact k
  | succ n ih => intro i a h k; exact step i a (by omega) (ih (i + 1) (g i a) (by omega) k)
/-- the same with an invariant -/
theorem lp_inv {α : Type} {P : Nat → α → Prop} (I : Nat → α → Prop) (g : Nat → α → α) {N : Nat} (hI : ∀ i a, i < N → I i a → I (i + 1) (g i a)) (step : ∀ i a, i < N → I i a → P (i + 1) (g i a) → P i a) : ∀ (n i : Nat) (a : α), i + n = N → I i a → (I N (lp g i n a) → P N (lp g i n a)) → P i a := by
  intro n
  induction n with
  | zero => intro i a h hi k; rw [Nat.add_zero] at h; subst h; exact k hi
  | succ n ih => intro i a h hi k; exact step i a (by omega) hi (ih (i + 1) (g i a) (by omega) (hI i a (by omega) hi) k)
theorem dn_rule {P : Nat → Prop} {N : Nat} (hN : P N) (step : ∀ i, i < N → P (i + 1) → P i) : ∀ (n i : Nat), i + n = N → P i := by
  intro n
  induction n with
  | zero => intro i h; rw [Nat.add_zero] at h; subst h; exact hN
  | succ n ih => intro i h; exact step i (by omega) (ih (i + 1) (by omega))
theorem lp_congr {α : Type} {f g : Nat → α → α} : ∀ (n i : Nat) (a : α), (∀ j b, i ≤ j → j < i + n → f j b = g j b) → lp f i n a = lp g i n a := by
  intro n
  induction n with
  | zero => intro i a _; rfl
  | succ n ih => intro i a h; show lp f (i + 1) n (f i a) = lp g (i + 1) n (g i a); rw [h i a (Nat.le_refl i) (by omega)]; exact ih _ _ (fun j b h1 h2 => h j b (by omega) (by omega))
theorem ix8 (h z : Nat) : nI h * 8 + nI z = nI (h * 8 + z) := by rw [show (8 : Int32) = nI 8 from rfl, pk_mul, nI_add]
theorem ix12 (h z : Nat) : nI h * 12 + nI z = nI (h * 12 + z) := by rw [show (12 : Int32) = nI 12 from rfl, pk_mul, nI_add]
theorem a_metI {l : Launch} {m : aM} {d : Nat} {D : Nat → Bool} {args : List Value} {x y : aS} {r : Int32} (hy : plainName m.1.cls = true) (hlen : (lg_sl args).length ≤ m.2.2.1) (hr : m.2.2.2 = some .int) (h : aV l m d D none 0 (lv_args 0 args) [] x (fun v z => v = some (.int r) ∧ z = y)) : aDI l m d D args x r y :=
  a_met hy hlen (fun v z q => Or.inl ⟨hr, r, q.1⟩) h
theorem a_metZ {l : Launch} {m : aM} {d : Nat} {D : Nat → Bool} {args : List Value} {x y : aS} {r : Int32} (hy : plainName m.1.cls = true) (hlen : (lg_sl args).length ≤ m.2.2.1) (hr : m.2.2.2 = some .boolean) (h0 : r = 0 ∨ r = 1) (h : aV l m d D none 0 (lv_args 0 args) [] x (fun v z => v = some (.int r) ∧ z = y)) : aDI l m d D args x r y :=
  a_met hy hlen (fun v z q => Or.inr (Or.inl ⟨hr, r, q.1, h0⟩)) h
theorem a_metJ {l : Launch} {m : aM} {d : Nat} {D : Nat → Bool} {args : List Value} {x y : aS} {r : Int64} (hy : plainName m.1.cls = true) (hlen : (lg_sl args).length ≤ m.2.2.1) (hr : m.2.2.2 = some .long) (h : aV l m d D none 0 (lv_args 0 args) [] x (fun v z => v = some (.long r) ∧ z = y)) : aDJ l m d D args x r y :=
  a_met hy hlen (fun v z q => Or.inr (Or.inr (Or.inl ⟨hr, r, q.1⟩))) h
theorem a_metV {l : Launch} {m : aM} {d : Nat} {D : Nat → Bool} {args : List Value} {x y : aS} (hy : plainName m.1.cls = true) (hlen : (lg_sl args).length ≤ m.2.2.1) (hr : m.2.2.2 = none) (h : aV l m d D none 0 (lv_args 0 args) [] x (fun v z => v = none ∧ z = y)) : aDV l m d D args x y :=
  a_met hy hlen (fun v z q => Or.inr (Or.inr (Or.inr ⟨hr, q.1⟩))) h
section aIdx
variable {l : Launch} {m : aM} {d : Nat} {D : Nat → Bool} {scr : Option aSc} {pc : Nat} {lv : List (Nat × Value)} {st : List Value} {x : aS} {Q : Option Value → aS → Prop}
theorem a_ialdN {n len k : Nat} {i : Int32} (hd : decode m.2.1 pc = .ok (.iaload, 1)) (hn : aIs D n 14 len) (hk : i = nI k) (hlt : k < len) (hle : len < 2147483648) (kk : aV l m d D scr (pc + 1) lv (.int (x.1 n k) :: st) x Q) : aV l m d D scr pc lv (.int i :: .ref n :: st) x Q := by
  subst hk; refine a_iald hd hn (vp_in_nI hlt hle) ?_; rw [nI_clamp (Nat.lt_trans hlt hle)]; exact kk
theorem a_baldN {n len k : Nat} {i : Int32} (hd : decode m.2.1 pc = .ok (.baload, 1)) (hn : aIs D n 13 len) (hk : i = nI k) (hlt : k < len) (hle : len < 2147483648) (kk : aV l m d D scr (pc + 1) lv (.int (x.1 n k) :: st) x Q) : aV l m d D scr pc lv (.int i :: .ref n :: st) x Q := by
  subst hk; refine a_bald hd hn (vp_in_nI hlt hle) ?_; rw [nI_clamp (Nat.lt_trans hlt hle)]; exact kk
theorem a_zaldN {n len k : Nat} {i : Int32} (hd : decode m.2.1 pc = .ok (.baload, 1)) (hn : aIs D n 16 len) (hk : i = nI k) (hlt : k < len) (hle : len < 2147483648) (kk : aV l m d D scr (pc + 1) lv (.int (x.1 n k) :: st) x Q) : aV l m d D scr pc lv (.int i :: .ref n :: st) x Q := by
  subst hk; refine a_zald hd hn (vp_in_nI hlt hle) ?_; rw [nI_clamp (Nat.lt_trans hlt hle)]; exact kk
theorem a_laldN {n len k : Nat} {i : Int32} (hd : decode m.2.1 pc = .ok (.laload, 1)) (hn : aIs D n 15 len) (hk : i = nI k) (hlt : k < len) (hle : len < 2147483648) (kk : aV l m d D scr (pc + 1) lv (.long (x.2 n k) :: st) x Q) : aV l m d D scr pc lv (.int i :: .ref n :: st) x Q := by
  subst hk; refine a_lald hd hn (vp_in_nI hlt hle) ?_; rw [nI_clamp (Nat.lt_trans hlt hle)]; exact kk
theorem a_iastN {n len k : Nat} {i v : Int32} (hd : decode m.2.1 pc = .ok (.iastore, 1)) (hn : aIs D n 14 len) (hk : i = nI k) (hlt : k < len) (hle : len < 2147483648) (kk : aV l m d D scr (pc + 1) lv st (aWr x n k v) Q) : aV l m d D scr pc lv (.int v :: .int i :: .ref n :: st) x Q := by
  subst hk; refine a_iast hd hn (vp_in_nI hlt hle) ?_; rw [nI_clamp (Nat.lt_trans hlt hle)]; exact kk
theorem a_bastN {n len k : Nat} {i v : Int32} (hd : decode m.2.1 pc = .ok (.bastore, 1)) (hn : aIs D n 13 len) (hk : i = nI k) (hlt : k < len) (hle : len < 2147483648) (kk : aV l m d D scr (pc + 1) lv st (aWr x n k v.toInt8.toInt32) Q) : aV l m d D scr pc lv (.int v :: .int i :: .ref n :: st) x Q := by
  subst hk; refine a_bast hd hn (vp_in_nI hlt hle) ?_; rw [nI_clamp (Nat.lt_trans hlt hle), vp_nar_byte]; exact kk
theorem a_zastN {n len k : Nat} {i v : Int32} (hd : decode m.2.1 pc = .ok (.bastore, 1)) (hn : aIs D n 16 len) (hk : i = nI k) (hlt : k < len) (hle : len < 2147483648) (hv : v = 0 ∨ v = 1) (kk : aV l m d D scr (pc + 1) lv st (aWr x n k v) Q) : aV l m d D scr pc lv (.int v :: .int i :: .ref n :: st) x Q := by
  subst hk; refine a_zast hd hn (vp_in_nI hlt hle) ?_; rw [nI_clamp (Nat.lt_trans hlt hle), show vp_nar .boolean v = v from by rcases hv with rfl | rfl <;> rfl]; exact kk
theorem a_lastN {n len k : Nat} {i : Int32} {v : Int64} (hd : decode m.2.1 pc = .ok (.lastore, 1)) (hn : aIs D n 15 len) (hk : i = nI k) (hlt : k < len) (hle : len < 2147483648) (kk : aV l m d D scr (pc + 1) lv st (aWl x n k v) Q) : aV l m d D scr pc lv (.long v :: .int i :: .ref n :: st) x Q := by
  subst hk; refine a_last hd hn (vp_in_nI hlt hle) ?_; rw [nI_clamp (Nat.lt_trans hlt hle)]; exact kk
theorem a_adeedN {n len k : Nat} {i : Int32} (hd : decode m.2.1 pc = .ok (.aaload, 1)) (hn : aIs D n 17 len) (hk : i = nI k) (hlt : k < len) (hle : len < 2147483648) (kk : aV l m d D scr (pc + 1) lv (.ref (n + 88 + k) :: st) x Q) : aV l m d D scr pc lv (.int i :: .ref n :: st) x Q := by
  subst hk; refine a_adeed hd hn (vp_in_nI hlt hle) ?_; rw [nI_clamp (Nat.lt_trans hlt hle)]; exact kk
theorem a_awedN {n len k : Nat} {i : Int32} (hd : decode m.2.1 pc = .ok (.aaload, 1)) (hn : aIs D n 18 len) (hk : i = nI k) (hlt : k < len) (hle : len < 2147483648) (kk : aV l m d D scr (pc + 1) lv (.ref (n + 106 + k) :: st) x Q) : aV l m d D scr pc lv (.int i :: .ref n :: st) x Q := by
  subst hk; refine a_awed hd hn (vp_in_nI hlt hle) ?_; rw [nI_clamp (Nat.lt_trans hlt hle)]; exact kk
end aIdx
