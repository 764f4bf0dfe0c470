/-! TOKENS, pure. B: the bytes, n: how many. A token: (kind, value of the class, value of the model, place, next) -/
def scn (q : Nat → Bool) (n : Nat) : Nat → Nat → Nat
  | 0, i => i
  | f + 1, i => if i < n ∧ q i = true then scn q n f (i + 1) else i
/-- the first place from i on that q does not have -/
def nx (q : Nat → Bool) (n i : Nat) : Nat := scn q n (n - i) i
section qTk
variable {q : Nat → Bool} {n i : Nat}
theorem nx_go (h : i < n) (g : q i = true) : nx q n i = nx q n (i + 1) := by
  unfold nx
  rw [show n - i = (n - (i + 1)) + 1 by omega]
  show (if i < n ∧ q i = true then _ else _) = _
  rw [if_pos ⟨h, g⟩]
theorem nx_st (h : ¬ (i < n ∧ q i = true)) : nx q n i = i := by
  unfold nx
  cases n - i with
  | zero => rfl
  | succ f => show (if i < n ∧ q i = true then _ else _) = _; rw [if_neg h]
theorem nx_all : ∀ (f i : Nat), f = n - i → i ≤ nx q n i ∧ (i ≤ n → nx q n i ≤ n) ∧ ¬ (nx q n i < n ∧ q (nx q n i) = true) ∧ ∀ j, i ≤ j → j < nx q n i → j < n ∧ q j = true := by
  intro f
  induction f with
  | zero => intro i h; rw [nx_st (by omega)]; exact ⟨Nat.le_refl _, fun g => g, by omega, fun j h1 h2 => by omega⟩
  | succ f ih =>
    intro i h
    by_cases g : q i = true
    · have := ih (i + 1) (by omega)
      rw [nx_go (by omega) g]
      refine ⟨by omega, fun _ => this.2.1 (by omega), this.2.2.1, fun j h1 h2 => ?_⟩
      by_cases e : j = i
      · subst e; exact ⟨by omega, g⟩
      · exact this.2.2.2 j (by omega) h2
    · rw [nx_st (fun k => g k.2)]
      exact ⟨Nat.le_refl _, fun g => g, fun k => g k.2, fun j h1 h2 => by omega⟩
theorem nx_le : i ≤ nx q n i := (nx_all _ i rfl).1
theorem nx_n (h : i ≤ n) : nx q n i ≤ n := (nx_all _ i rfl).2.1 h
theorem nx_e : ¬ (nx q n i < n ∧ q (nx q n i) = true) := (nx_all _ i rfl).2.2.1
theorem nx_in {j : Nat} (h : i ≤ j) (g : j < nx q n i) : j < n ∧ q j = true := (nx_all _ i rfl).2.2.2 j h g
end qTk
def bBl (B : Nat → Nat) (i : Nat) : Bool := decide (B i = 10 ∨ B i = 32)
def bLt (B : Nat → Nat) (i : Nat) : Bool := decide (97 ≤ B i ∧ B i ≤ 122)
def bDg (B : Nat → Nat) (i : Nat) : Bool := decide (48 ≤ B i ∧ B i ≤ 57)
/-- letters as digits of 32 -/
def hW (B : Nat → Nat) (p : Nat) : Nat → Nat
  | 0 => 0
  | t + 1 => hW B p t * 32 + (B (p + t) - 96)
def pkW (B : Nat → Nat) (p t : Nat) : Nat := hW B p (min t 6) * 2 ^ (30 - 5 * min t 6)
def nmC (B : Nat → Nat) (p : Nat) : Nat → Nat
  | 0 => 0
  | t + 1 => min (nmC B p t * 10 + B (p + t) - 48) 1000000
def nmM (B : Nat → Nat) (p : Nat) : Nat → Nat
  | 0 => 0
  | t + 1 => if 99999 < nmM B p t then nmM B p t else 10 * nmM B p t + B (p + t) - 48
def pkL : List Nat := [284871840, 437714944, 37879808, 650415264, 777125888, 659105280, 135708672, 642945024, 404455424, 679775584, 72402944, 116996096, 522190848, 48365568, 486146048, 93323264, 888607744, 458334208, 546770176, 116996704, 404526675, 844154880]
def wkN (v : Nat) : Nat := pkL.findIdx (fun u => u == v)
def sgK (b : Nat) : Nat := if b = 59 then 26 else if b = 40 then 24 else if b = 41 then 25 else if b = 60 then 27 else if b = 61 then 29 else if b = 62 then 32 else if b = 43 then 33 else if b = 45 then 34 else if b = 42 then 35 else if b = 47 then 36 else 38
/-- a sign of one or two: kind, next -/
def sgW (B : Nat → Nat) (n p : Nat) : Nat × Nat :=
  if p + 1 < n ∧ B p = 60 ∧ B (p + 1) = 61 then (28, p + 2) else if p + 1 < n ∧ B p = 62 ∧ B (p + 1) = 61 then (31, p + 2) else if p + 1 < n ∧ B p = 60 ∧ B (p + 1) = 62 then (30, p + 2) else (sgK (B p), p + 1)
abbrev zK : Type := Nat × Nat × Nat × Nat × Nat
/-- the token that begins at p, no blank -/
def tokA (B : Nat → Nat) (n p : Nat) : zK :=
  if n ≤ p then (37, 0, 0, p, p)
  else if bLt B p = true then ((if 6 < nx (bLt B) n p - p then 38 else wkN (pkW B p (nx (bLt B) n p - p))), pkW B p (nx (bLt B) n p - p), pkW B p (nx (bLt B) n p - p), p, nx (bLt B) n p)
  else if bDg B p = true then (23, nmC B p (nx (bDg B) n p - p), nmM B p (nx (bDg B) n p - p), p, nx (bDg B) n p)
  else ((sgW B n p).1, 0, 0, p, (sgW B n p).2)
def tok (B : Nat → Nat) (n i : Nat) : zK := tokA B n (nx (bBl B) n i)
/-- the class at a token, the model at a token -/
def rK (t : zK) (x : aS) : Prop := x.1 bTp 3 = nI t.2.2.2.2 ∧ x.1 bTp 4 = nI t.1 ∧ x.1 bTp 5 = nI t.2.2.2.1 ∧ x.1 bTp 6 = nI t.2.1
def swp (k : Nat) : Nat := if k = 12 then 13 else if k = 13 then 12 else k
def kM (k w : Nat) (a b : Int32) : Prop := (k ≤ 21 ∧ a = 1 ∧ b = nI (swp k)) ∨ (k = 22 ∧ a = 2 ∧ b = nI w) ∨ (k = 23 ∧ a = 3 ∧ b = nI w) ∨ ((27 ≤ k ∧ k ≤ 32) ∧ a = 5 ∧ b = nI (k - 27)) ∨ (k = 37 ∧ a = 0) ∨ (k = 38 ∧ (a = 6 ∨ a = 4 ∧ b = 37)) ∨ (a = 4 ∧ (k = 24 ∧ b = 40 ∨ k = 25 ∧ b = 41 ∨ k = 26 ∧ b = 59 ∨ k = 33 ∧ b = 43 ∨ k = 34 ∧ b = 45 ∨ k = 35 ∧ b = 42 ∨ k = 36 ∧ b = 47))
def rKM (t : zK) (x : aS) : Prop := x.1 bM 7 = nI t.2.2.2.2 ∧ x.1 bM 10 = nI t.2.2.2.1 ∧ kM t.1 t.2.2.1 (x.1 bM 8) (x.1 bM 9)
/-! the model's words -/
def wdL : List Nat := [104, 111, 117, 115, 101, 32, 109, 97, 110, 32, 97, 100, 100, 32, 115, 108, 105, 99, 101, 32, 119, 101, 100, 32, 115, 116, 114, 105, 112, 32, 100, 97, 109, 112, 32, 115, 101, 101, 100, 32, 108, 97, 119, 32, 116, 104, 105, 99, 107, 32, 98, 101, 97, 114, 32, 99, 111, 114, 110, 32, 97, 110, 100, 32, 111, 114, 32, 110, 111, 116, 32, 98, 121, 32, 122, 111, 110, 101, 32, 109, 117, 99, 104, 32, 112, 105, 110, 99, 104, 32, 99, 111, 114, 110, 115, 32, 108, 97, 121, 101, 114, 115, 32, 121, 101, 97, 114, 32]
def wd (j : Nat) : Nat := wdL.getD j 0
def wst (k : Nat) : Nat := ([0, 6, 10, 14, 20, 24, 30, 35, 40, 44, 50, 55, 60, 64, 67, 71, 74, 79, 84, 90, 96, 103, 108] : List Nat).getD k 108
def wln (k : Nat) : Nat := ([5, 3, 3, 5, 3, 5, 4, 4, 3, 5, 4, 4, 3, 2, 3, 2, 4, 4, 5, 5, 6, 4] : List Nat).getD k 0
def pkM (k : Nat) : Nat := ([284871840, 437714944, 37879808, 650415264, 777125888, 659105280, 135708672, 642945024, 404455424, 679775584, 72402944, 116996096, 48365568, 522190848, 486146048, 93323264, 888607744, 458334208, 546770176, 116996704, 404526675, 844154880] : List Nat).getD k 0
theorem wd_ok : ∀ k, k < 22 → wln k ≤ 6 ∧ 0 < wln k ∧ wst k + wln k < 108 ∧ wst (k + 1) = wst k + wln k + 1 ∧ wd (wst k + wln k) = 32 := by decide +kernel
theorem wd_lt : ∀ k, k < 22 → ∀ i, i < 6 → i < wln k → 97 ≤ wd (wst k + i) ∧ wd (wst k + i) ≤ 122 := by decide +kernel
def wDg (k i : Nat) : Nat := if i < wln k then wd (wst k + i) - 96 else 0
theorem wd_pk : ∀ k, k < 22 → pkM k = wDg k 0 * 33554432 + wDg k 1 * 1048576 + wDg k 2 * 32768 + wDg k 3 * 1024 + wDg k 4 * 32 + wDg k 5 := by decide +kernel
theorem pk_sw : ∀ k, k < 22 → wkN (pkM k) = swp k ∧ swp k < 22 := by decide +kernel
theorem pk_in22 : ∀ i, i < 22 → ∃ k, k < 22 ∧ pkL.getD i 0 = pkM k := by
  intro i hi
  exact ⟨swp i, (pk_sw i hi).2, by revert i; decide +kernel⟩
def wmt (B : Nat → Nat) (a b k : Nat) : Prop := wln k = b - a ∧ ∀ i, i < wln k → wd (wst k + i) = B (a + i)
def dW (B : Nat → Nat) (a b i : Nat) : Nat := if a + i < b then B (a + i) - 96 else 0
theorem pkW_d {B : Nat → Nat} {a b : Nat} (h : a < b) (h6 : b - a ≤ 6) : pkW B a (b - a) = dW B a b 0 * 33554432 + dW B a b 1 * 1048576 + dW B a b 2 * 32768 + dW B a b 3 * 1024 + dW B a b 4 * 32 + dW B a b 5 := by
  obtain ⟨L, rfl⟩ : ∃ L, b = a + L := ⟨b - a, by omega⟩
  rw [Nat.add_sub_cancel_left] at *
  unfold pkW dW
  rcases (by omega : L = 1 ∨ L = 2 ∨ L = 3 ∨ L = 4 ∨ L = 5 ∨ L = 6) with rfl | rfl | rfl | rfl | rfl | rfl <;> simp [hW] <;> omega
theorem dg6 {a b c d e f a' b' c' d' e' f' : Nat} (h1 : a < 32) (h2 : b < 32) (h3 : c < 32) (h4 : d < 32) (h5 : e < 32) (h6 : f < 32) (g1 : a' < 32) (g2 : b' < 32) (g3 : c' < 32) (g4 : d' < 32) (g5 : e' < 32) (g6 : f' < 32) (h : a * 33554432 + b * 1048576 + c * 32768 + d * 1024 + e * 32 + f = a' * 33554432 + b' * 1048576 + c' * 32768 + d' * 1024 + e' * 32 + f') : a = a' ∧ b = b' ∧ c = c' ∧ d = d' ∧ e = e' ∧ f = f' := by
  have e6 : f = f' := by omega
  have e5 : e = e' := by omega
  have e4 : d = d' := by omega
  have e3 : c = c' := by omega
  have e2 : b = b' := by omega
  exact ⟨by omega, e2, e3, e4, e5, e6⟩
theorem wmt_pk {B : Nat → Nat} {a b k : Nat} (hk : k < 22) (h : a < b) (hl : ∀ i, a ≤ i → i < b → 97 ≤ B i ∧ B i ≤ 122) : wmt B a b k ↔ b - a ≤ 6 ∧ pkW B a (b - a) = pkM k := by
  obtain ⟨k6, k0, -, -, -⟩ := wd_ok k hk
  have kl := wd_lt k hk
  have D : ∀ i, dW B a b i < 32 ∧ (a + i < b → 0 < dW B a b i ∧ B (a + i) = dW B a b i + 96) ∧ (¬ a + i < b → dW B a b i = 0) := by
    intro i
    unfold dW
    by_cases g : a + i < b
    · have := hl (a + i) (by omega) g
      rw [if_pos g]
      exact ⟨by omega, fun _ => ⟨by omega, by omega⟩, fun e => absurd g e⟩
    · rw [if_neg g]; exact ⟨by omega, fun e => absurd e g, fun _ => rfl⟩
  have E : ∀ i, i < 6 → wDg k i < 32 ∧ (i < wln k → 0 < wDg k i ∧ wd (wst k + i) = wDg k i + 96) ∧ (¬ i < wln k → wDg k i = 0) := by
    intro i h6
    unfold wDg
    by_cases g : i < wln k
    · have := kl i h6 g
      rw [if_pos g]
      exact ⟨by omega, fun _ => ⟨by omega, by omega⟩, fun e => absurd g e⟩
    · rw [if_neg g]; exact ⟨by omega, fun e => absurd e g, fun _ => rfl⟩
  constructor
  · rintro ⟨h1, h2⟩
    have h6 : b - a ≤ 6 := by omega
    refine ⟨h6, ?_⟩
    have S : ∀ i, i < 6 → dW B a b i = wDg k i := by
      intro i hi
      by_cases g : i < wln k
      · have g2 : a + i < b := by omega
        have u := ((D i).2.1 g2).2
        have v := ((E i hi).2.1 g).2
        have w := h2 i g
        omega
      · rw [(D i).2.2 (by omega), (E i hi).2.2 g]
    rw [pkW_d h h6, wd_pk k hk, S 0 (by decide), S 1 (by decide), S 2 (by decide), S 3 (by decide), S 4 (by decide), S 5 (by decide)]
  · rintro ⟨h6, h7⟩
    rw [pkW_d h h6, wd_pk k hk] at h7
    obtain ⟨e0, e1, e2, e3, e4, e5⟩ := dg6 (D 0).1 (D 1).1 (D 2).1 (D 3).1 (D 4).1 (D 5).1 (E 0 (by decide)).1 (E 1 (by decide)).1 (E 2 (by decide)).1 (E 3 (by decide)).1 (E 4 (by decide)).1 (E 5 (by decide)).1 h7
    have S : ∀ i, i < 6 → dW B a b i = wDg k i := by
      intro i hi
      rcases (by omega : i = 0 ∨ i = 1 ∨ i = 2 ∨ i = 3 ∨ i = 4 ∨ i = 5) with rfl | rfl | rfl | rfl | rfl | rfl <;> assumption
    have el : wln k = b - a := by
      rcases Nat.lt_trichotomy (wln k) (b - a) with g | g | g
      · have s := S (wln k) (by omega)
        have u := ((D (wln k)).2.1 (by omega)).1
        have v := (E (wln k) (by omega)).2.2 (by omega)
        omega
      · exact g
      · have s := S (b - a) (by omega)
        have u := ((E (b - a) (by omega)).2.1 g).1
        have v := (D (b - a)).2.2 (by omega)
        omega
    refine ⟨el, fun i hi => ?_⟩
    have s := S i (by omega)
    have u := ((D i).2.1 (by omega)).2
    have v := ((E i (by omega)).2.1 hi).2
    omega
