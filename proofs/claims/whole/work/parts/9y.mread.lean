/-! READING, the model: a line -/
def mLq (F : Nat) (L : zL) (x : aS) (q : Nat) : Prop := 0 < L.1 ∧ ∃ (f : Nat) (P O : Nat → Nat), x.1 (bM + 44) (3 + q) = nI f ∧ x.1 (bM + 45) (3 + q) = nI (f + L.1) ∧ f + L.1 ≤ F ∧ rLM L (shr x) P O f
def mK (n : Nat) (B : Nat → Nat) (P : pS) (x : aS) : Prop := mBt n B x ∧ mP n B P.2.2.2 x ∧ tBd P.1 ∧ pLw P ∧ (P.2.2.2.2.1 = 0 → rTM P.1 (shr x) ∧ x.1 (bM + 25) 0 = bI (P.2.2.1 0) ∧ x.1 (bM + 25) 1 = bI (P.2.2.1 1) ∧ x.1 bM 53 = nI (P.1.1 7) ∧ ∀ q, q < 3 → x.1 (bM + 43) (3 + q) = bI (P.2.2.1 (2 + q)) ∧ (P.2.2.1 (2 + q) = true → mLq (P.1.1 7) (P.2.1 q) x q))
/-- the cells that reading may change -/
def rC (m j : Nat) : Prop := (m = bM ∧ ((18 ≤ j ∧ j ≤ 23) ∨ (50 ≤ j ∧ j ≤ 55))) ∨ m = bM + 25 ∨ m = bM + 49 ∨ m = bM + 50 ∨ (bM + 26 ≤ m ∧ m ≤ bM + 48 ∧ hlf (m - bM) ≤ j)
theorem rC_b : ∀ m j, rC m j → (m = bM ∧ 18 ≤ j) ∨ bM + 25 ≤ m := fun m j e => by unfold rC at e; omega
section qBF
variable {l : Launch} {d : Nat} {D : Nat → Bool} {x y : aS} {n f : Nat} {B : Nat → Nat} {P : pS} {T : zT} {r r' : zP}
theorem rC_ln {a lo hi h k : Nat} (ha : 18 ≤ a ∧ a ≤ 23) (hlo : 26 ≤ lo) (hhi : hi ≤ 48) (hh : ∀ c, lo ≤ c → c ≤ hi → hlf c = h) : ∀ m j, lnC a lo hi (h + k) m j → rC m j := by
  intro m j e
  rcases e with e | ⟨e1, e2, e3⟩
  · exact Or.inl ⟨e.1, Or.inl (by omega)⟩
  · exact Or.inr (Or.inr (Or.inr (Or.inr ⟨by omega, by omega, by rw [hh (m - bM) (by omega) (by omega)]; omega⟩)))
theorem rC_o {k : Nat} : ∀ m j, oC k m j → rC m j := by
  intro m j e
  rcases e with e | e
  · exact Or.inr (Or.inl e.1)
  · exact Or.inr (Or.inr (Or.inr (Or.inr ⟨by omega, by omega, by rw [e.1, show bM + 26 - bM = 26 by omega, show hlf 26 = 2 from rfl]; omega⟩)))
theorem rC_e : ∀ m j, eC f m j → rC m j := by
  intro m j e
  rcases e with e | e | e | ⟨e1, e2, e3⟩
  · exact Or.inl ⟨e.1, by omega⟩
  · exact Or.inr (Or.inr (Or.inl e))
  · exact Or.inr (Or.inr (Or.inr (Or.inl e)))
  · refine Or.inr (Or.inr (Or.inr (Or.inr ⟨by omega, by omega, ?_⟩)))
    rcases (by omega : m = bM + 46 ∨ m = bM + 47 ∨ m = bM + 48) with g | g | g
    · rw [g, show bM + 46 - bM = 46 by omega, show hlf 46 = 64 from rfl]; omega
    · rw [g, show bM + 47 - bM = 47 by omega, show hlf 47 = 64 from rfl]; omega
    · rw [g, show bM + 48 - bM = 48 by omega, show hlf 48 = 64 from rfl]; omega
theorem rC_q {c q : Nat} (h1 : 43 ≤ c) (h2 : c ≤ 45) : rC (bM + c) (3 + q) := by
  refine Or.inr (Or.inr (Or.inr (Or.inr ⟨by omega, by omega, ?_⟩)))
  rw [show bM + c - bM = c by omega]
  rcases (by omega : c = 43 ∨ c = 44 ∨ c = 45) with rfl | rfl | rfl <;> exact Nat.le_add_right 3 q
theorem rLM_f {L : zL} {x y : aS} {P O : Nat → Nat} {f : Nat} (h : rLM L x P O f) (e : ∀ m j, bM + 46 ≤ m → m ≤ bM + 48 → j < f + L.1 → y.1 m j = x.1 m j) : rLM L y P O f := by
  obtain ⟨h1, h2, h3, h4⟩ := h
  refine ⟨h1, fun i a b => ?_, fun j hj => ?_, h4⟩
  · rw [e (bM + 46) i (by omega) (by omega) b, e (bM + 47) i (by omega) (by omega) b, e (bM + 48) i (by omega) (by omega) b]
    exact h2 i a b
  · obtain ⟨J, a, b⟩ := h3 j hj
    refine ⟨J, a, ?_⟩
    unfold mNd at b ⊢
    rw [e (bM + 46) (f + j) (by omega) (by omega) (by omega), e (bM + 47) (f + j) (by omega) (by omega) (by omega)]
    exact b
theorem mLq_f {F F' q : Nat} {L : zL} (h : mLq F L x q) (hF : F ≤ F') (e1 : ∀ m, m = bM + 44 ∨ m = bM + 45 → y.1 m (3 + q) = x.1 m (3 + q)) (e : ∀ m j, bM + 46 ≤ m → m ≤ bM + 48 → j < F → y.1 m (64 + j) = x.1 m (64 + j)) : mLq F' L y q := by
  obtain ⟨h0, f, P, O, h1, h2, h3, h4⟩ := h
  exact ⟨h0, f, P, O, by rw [e1 _ (Or.inl rfl)]; exact h1, by rw [e1 _ (Or.inr rfl)]; exact h2, by omega, rLM_f h4 (fun m j a b c => by rw [shr_6 _ a b, shr_6 _ a b]; exact e m j a b (by omega))⟩
theorem rTM_knots {k : Nat} (h : rTM T x) (bd : tBd T) (fr : ∀ m j, bM ≤ m → (m = bM → 12 ≤ j ∧ j ≤ 17) → ¬ ((m = bM ∧ j = 17) ∨ bM + 43 ≤ m) → y.1 m j = x.1 m j) (hc : y.1 bM 17 = nI k) : rTM (tu1 T 7 k) y := by
  obtain ⟨b0, b1, b2, b3, b4⟩ := bd
  obtain ⟨h1, h2, h3, h4, h5, h6, h7, h8, h9, h10, h11, h12, h13⟩ := h
  refine ⟨by rw [fr _ _ (by omega) (by omega) (by omega)]; exact h1, by rw [fr _ _ (by omega) (by omega) (by omega)]; exact h2, by rw [fr _ _ (by omega) (by omega) (by omega)]; exact h3, by rw [fr _ _ (by omega) (by omega) (by omega)]; exact h4, by rw [fr _ _ (by omega) (by omega) (by omega)]; exact h5, hc, by rw [fr _ _ (by omega) (by omega) (by omega)]; exact h7, by rw [fr _ _ (by omega) (by omega) (by omega)]; exact h8, fun i hi => ?_, fun i hi => ?_, fun i hi => ?_, fun i hi => ?_, fun i hi => ?_⟩
  · have hi : i < T.1 0 := hi
    rw [fr _ _ (by omega) (by omega) (by omega), fr _ _ (by omega) (by omega) (by omega)]; exact h9 i hi
  · have hi : i < T.1 1 := hi
    rw [fr _ _ (by omega) (by omega) (by omega), fr _ _ (by omega) (by omega) (by omega), fr _ _ (by omega) (by omega) (by omega), fr _ _ (by omega) (by omega) (by omega), fr _ _ (by omega) (by omega) (by omega)]; exact h10 i hi
  · have hi : i < T.1 2 := hi
    rw [fr _ _ (by omega) (by omega) (by omega), fr _ _ (by omega) (by omega) (by omega), fr _ _ (by omega) (by omega) (by omega), fr _ _ (by omega) (by omega) (by omega), fr _ _ (by omega) (by omega) (by omega)]; exact h11 i hi
  · have hi : i < T.1 3 := hi
    rw [fr _ _ (by omega) (by omega) (by omega), fr _ _ (by omega) (by omega) (by omega), fr _ _ (by omega) (by omega) (by omega)]; exact h12 i hi
  · have hi : i < T.1 4 := hi
    rw [fr _ _ (by omega) (by omega) (by omega)]; exact h13 i hi
theorem pLw_ln {T' : zT} (h : pLw P) (h7 : T'.1 7 = P.1.1 7) (hm : mon n P.2.2.2 r') : pLw (T', P.2.1, P.2.2.1, r') := fun e => by
  have := h (hm e).1
  exact ⟨by show T'.1 7 ≤ 64; rw [h7]; exact this.1, this.2⟩
theorem mK_ln {T' : zT} (K : mK n B P x) (h0 : P.2.2.2.2.1 = 0) (hb : mBt n B y) (hp : mP n B r' y) (bd : tBd T') (h7 : T'.1 7 = P.1.1 7) (hm : mon n P.2.2.2 r') (hT : r'.2.1 = 0 → rTM T' (shr y)) (fr : ∀ m j, (m = bM ∧ j = 53) ∨ m = bM + 25 ∨ (bM + 43 ≤ m ∧ m ≤ bM + 48) → y.1 m j = x.1 m j) : mK n B (T', P.2.1, P.2.2.1, r') y := by
  obtain ⟨-, -, -, k4, k5⟩ := K
  obtain ⟨-, f0, f1, f2, f3⟩ := k5 h0
  refine ⟨hb, hp, bd, pLw_ln k4 h7 hm, fun e => ⟨hT e, by rw [fr _ _ (by omega)]; exact f0, by rw [fr _ _ (by omega)]; exact f1, by rw [fr _ _ (by omega)]; show _ = nI (T'.1 7); rw [h7]; exact f2, fun q hq => ⟨by rw [fr _ _ (by omega)]; exact (f3 q hq).1, fun g => ?_⟩⟩⟩
  show mLq (T'.1 7) (P.2.1 q) y q
  rw [h7]
  exact mLq_f ((f3 q hq).2 g) (Nat.le_refl _) (fun m hm => fr _ _ (by omega)) (fun m j a b _ => fr _ _ (by omega))
/-- a line that is good: flags of damp, seed -/
theorem mK_up {T' : zT} {k : Nat} (hk : k < 2) (K : mK n B P x) (h0 : P.2.2.2.2.1 = 0) (hb : mBt n B y) (hp : mP n B r' y) (bd : tBd T') (h7 : T'.1 7 = P.1.1 7) (hm : mon n P.2.2.2 r') (hT : r'.2.1 = 0 → rTM T' (shr y) ∧ y.1 (bM + 25) k = 1) (F : mW (oC k) x y) : mK n B (T', P.2.1, gup P.2.2.1 k, r') y := by
  obtain ⟨-, -, -, k4, k5⟩ := K
  obtain ⟨-, f0, f1, f2, f3⟩ := k5 h0
  have fr : ∀ m j, (m = bM ∧ j = 53) ∨ (m = bM + 25 ∧ ¬ j = k) ∨ (bM + 43 ≤ m ∧ m ≤ bM + 48) → y.1 m j = x.1 m j := fun m j h => F.1 m j (fun e => by unfold mUc at e; omega) (fun e => by unfold oC at e; omega)
  have gq : ∀ q, gup P.2.2.1 k (2 + q) = P.2.2.1 (2 + q) := fun q => if_neg (by omega)
  refine ⟨hb, hp, bd, fun e => ?_, fun e => ⟨(hT e).1, ?_, ?_, by rw [fr _ _ (by omega)]; show _ = nI (T'.1 7); rw [h7]; exact f2, fun q hq => ⟨?_, fun g => ?_⟩⟩⟩
  · have := k4 (hm e).1
    refine ⟨by show T'.1 7 ≤ 64; rw [h7]; exact this.1, fun q hq => ⟨(this.2 q hq).1, fun g => (this.2 q hq).2 ?_⟩⟩
    rw [← gq q]; exact g
  · show y.1 (bM + 25) 0 = bI (gup P.2.2.1 k 0)
    rcases (by omega : k = 0 ∨ k = 1) with rfl | rfl
    · exact (hT e).2
    · rw [fr _ _ (by omega)]; exact f0
  · show y.1 (bM + 25) 1 = bI (gup P.2.2.1 k 1)
    rcases (by omega : k = 0 ∨ k = 1) with rfl | rfl
    · rw [fr _ _ (by omega)]; exact f1
    · exact (hT e).2
  · show _ = bI (gup P.2.2.1 k (2 + q))
    rw [gq, fr _ _ (by omega)]; exact (f3 q hq).1
  · have g : gup P.2.2.1 k (2 + q) = true := g
    rw [gq] at g
    show mLq (T'.1 7) (P.2.1 q) y q
    rw [h7]
    exact mLq_f ((f3 q hq).2 g) (Nat.le_refl _) (fun m hm => fr _ _ (by omega)) (fun m j a b _ => fr _ _ (by omega))
/-- a place with a fault holds whatever else stands there -/
theorem mK_bad (hb : mBt n B y) (hp : mP n B P.2.2.2 y) (bd : tBd P.1) (h : ¬ P.2.2.2.2.1 = 0) : mK n B P y := ⟨hb, hp, bd, fun e => absurd e h, fun e => absurd e h⟩
theorem tBd_l (h : tBd P.1) : tBd (rdL B n P).1 := by
  unfold rdL
  split; exact tBd_house h
  split; exact tBd_man h
  split; exact tBd_deed h
  split; exact tBd_deed h
  split; exact tBd_wed h
  split; exact tBd_strip h
  split; exact tBd_damp h
  split; exact tBd_seed h
  split
  · unfold lnLaw
    split
    · exact h
    · split
      · exact h
      · exact h
  exact h
theorem sfin_b {R : eS} (h : ¬ (sfin B n R).2.1 = 0) : (lnEnd B n T R.1).2 = sfin B n R := by
  unfold lnEnd sfin at *
  by_cases a : R.1.2.1 = 0
  · rw [if_neg (fun e => e a)] at h ⊢
    by_cases b : (tok B n R.1.1).1 = 26
    · rw [if_neg (fun e => e b)] at h; exact absurd a h
    · rw [if_pos b, if_neg (fun e => e a), if_pos b]
  · rw [if_pos a, if_pos a]
theorem sfin_g {R : eS} (h : (sfin B n R).2.1 = 0) : R.1.2.1 = 0 ∧ (tok B n R.1.1).1 = 26 ∧ sfin B n R = R.1 := by
  unfold sfin at *
  by_cases a : R.1.2.1 = 0
  · rw [if_neg (fun e => e a)] at h ⊢
    by_cases b : (tok B n R.1.1).1 = 26
    · rw [if_neg (fun e => e b)]; exact ⟨a, b, rfl⟩
    · rw [if_pos b] at h; exact absurd h (by show ¬ 1 = 0; decide)
  · rw [if_pos a] at h; exact absurd h a
/-- what an E that ended well leaves: the law's nodes -/
theorem mEs_law {S : eS} {z : aS} (h : mEs f S y) (hd : S.2.1 = false) (hw : S.2.2.1 = 0) (h64 : f + S.2.2.2.2.1.1 ≤ 64) (e : ∀ m j, bM + 46 ≤ m → m ≤ bM + 48 → z.1 m j = y.1 m j) : 0 < S.2.2.2.2.1.1 ∧ ∃ P O, rLM S.2.2.2.2.1 (shr z) P O f := by
  obtain ⟨-, -, -, -, -, -, -, I, P, O, -, -, eN, el⟩ := h
  rw [hd, hw, if_neg Bool.false_ne_true] at el
  have el : I.length + 0 = 1 + 0 := el
  obtain ⟨a, rfl⟩ : ∃ a, I = [a] := by
    cases I with
    | nil => exact absurd el (by decide)
    | cons a R =>
      cases R with
      | nil => exact ⟨a, rfl⟩
      | cons b R => exact absurd el (by simp)
  have eN := nds_f (y := shr z) eN (fun m j a b c => by rw [shr_6 _ a b, shr_6 _ a b]; exact e _ _ a b)
  obtain ⟨n1, n2, n3, n4, n5⟩ := eN
  have a1 := n5 a [] rfl
  have pos : 0 < S.2.2.2.2.1.1 := by
    rcases Nat.eq_zero_or_pos S.2.2.2.2.1.1 with g | g
    · rw [g] at n3
      exact absurd n3 (by show ¬ some [] = some [a]; simp)
    · exact g
  exact ⟨pos, P, O, h64, n1, n2, by rw [n3, show f + S.2.2.2.2.1.1 - 1 = a by omega]⟩
theorem shr_u (F : mU x y) {m j : Nat} (h1 : bM ≤ m) (h2 : m = bM → 12 ≤ j) : (shr y).1 m j = (shr x).1 m j := by
  by_cases e : m = bM
  · subst e
    rw [shr_0, shr_0]
    exact F.1 _ _ (fun g => by unfold mUc at g; omega) (fun g => g)
  · obtain ⟨c, rfl⟩ : ∃ c, m = bM + c := ⟨m - bM, by omega⟩
    rw [shr_r _ (by omega) rfl, shr_r _ (by omega) rfl]
    exact F.1 _ _ (fun g => by unfold mUc at g; omega) (fun g => g)
theorem rTM_fr (h : rTM T x) (fr : ∀ m j, bM ≤ m → (m = bM → 12 ≤ j) → y.1 m j = x.1 m j) : rTM T y := by
  obtain ⟨h1, h2, h3, h4, h5, h6, h7, h8, h9, h10, h11, h12, h13⟩ := h
  refine ⟨by rw [fr _ _ (by omega) (by omega)]; exact h1, by rw [fr _ _ (by omega) (by omega)]; exact h2, by rw [fr _ _ (by omega) (by omega)]; exact h3, by rw [fr _ _ (by omega) (by omega)]; exact h4, by rw [fr _ _ (by omega) (by omega)]; exact h5, by rw [fr _ _ (by omega) (by omega)]; exact h6, by rw [fr _ _ (by omega) (by omega)]; exact h7, by rw [fr _ _ (by omega) (by omega)]; exact h8, fun i hi => ?_, fun i hi => ?_, fun i hi => ?_, fun i hi => ?_, fun i hi => ?_⟩
  · rw [fr _ _ (by omega) (by omega), fr _ _ (by omega) (by omega)]; exact h9 i hi
  · rw [fr _ _ (by omega) (by omega), fr _ _ (by omega) (by omega), fr _ _ (by omega) (by omega), fr _ _ (by omega) (by omega), fr _ _ (by omega) (by omega)]; exact h10 i hi
  · rw [fr _ _ (by omega) (by omega), fr _ _ (by omega) (by omega), fr _ _ (by omega) (by omega), fr _ _ (by omega) (by omega), fr _ _ (by omega) (by omega)]; exact h11 i hi
  · rw [fr _ _ (by omega) (by omega), fr _ _ (by omega) (by omega), fr _ _ (by omega) (by omega)]; exact h12 i hi
  · rw [fr _ _ (by omega) (by omega)]; exact h13 i hi
end qBF
