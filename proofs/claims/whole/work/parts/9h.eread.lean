/-! READING an E: pure; the class's binding, release, await, takeClose. A state: (place, is a part due, how many wait, who waits, what was put out, open, knots) -/
def kBd (k : Nat) : Nat := if k = 12 then 1 else if k = 13 then 2 else if k = 14 then 3 else if k = 33 ∨ k = 34 then 5 else if k = 35 ∨ k = 36 then 6 else if 27 ≤ k ∧ k ≤ 32 then 4 else 0
def kBc (c : Int32) : Int32 := if c = 12 then 1 else if c = 13 then 2 else if c = 14 then 3 else if c = 33 ∨ c = 34 then 5 else if c = 35 ∨ c = 36 then 6 else if 27 ≤ c ∧ c ≤ 32 then 4 else 0
theorem kBc_n : ∀ k, k < 39 → kBc (nI k) = nI (kBd k) ∧ kBd k ≤ 6 := by decide +kernel
def lAp (L : zL) (a u : Int32) : zL := (L.1 + 1, fun i => if i = L.1 then a else L.2.1 i, fun i => if i = L.1 then u else L.2.2 i)
def rel (s : Nat → Nat) (b : Nat) : Nat → zL → Nat × zL
  | 0, L => (0, L)
  | w + 1, L => if b ≤ kBd (s w) then rel s b w (lAp L (nI (s w)) 0) else (w + 1, L)
/-- who waits: signs, open ones -/
def wcn (s : Nat → Nat) : Nat → Nat
  | 0 => 0
  | w + 1 => wcn s w + (if s w = 24 then 0 else 1)
def wop (s : Nat → Nat) : Nat → Nat
  | 0 => 0
  | w + 1 => wop s w + (if s w = 24 then 1 else 0)
theorem wc_o (s : Nat → Nat) (w : Nat) : wcn s w + wop s w = w := by
  induction w with
  | zero => rfl
  | succ w ih => show wcn s w + (if s w = 24 then 0 else 1) + (wop s w + (if s w = 24 then 1 else 0)) = w + 1; split <;> omega
abbrev eS : Type := zP × Bool × Nat × (Nat → Nat) × zL × Nat × Nat
def sps (s : Nat → Nat) (w k : Nat) : Nat → Nat := fun j => if j = w then k else s j
/-- a sign begins to wait -/
def eAw (B : Nat → Nat) (n k : Nat) (a : Bool) (S : eS) : eS := if a = true ∧ S.2.2.1 < 72 then (S.1, S.2.1, S.2.2.1 + 1, sps S.2.2.2.1 S.2.2.1 k, S.2.2.2.2) else (pFl B n 2 S.1, S.2)
def eRl (b : Nat) (S : eS) : eS := (S.1, S.2.1, (rel S.2.2.2.1 b S.2.2.1 S.2.2.2.2.1).1, S.2.2.2.1, (rel S.2.2.2.1 b S.2.2.1 S.2.2.2.2.1).2, S.2.2.2.2.2)
def eKn (S : eS) : eS := (S.1, S.2.1, S.2.2.1, S.2.2.2.1, S.2.2.2.2.1, S.2.2.2.2.2.1, S.2.2.2.2.2.2 + 1)
def eFl (B : Nat → Nat) (n c : Nat) (S : eS) : eS := (pFl B n c S.1, S.2)
def eCl (S : eS) : eS := ((eRl 1 S).1, (eRl 1 S).2.1, (eRl 1 S).2.2.1 - 1, (eRl 1 S).2.2.2.1, (eRl 1 S).2.2.2.2.1, (eRl 1 S).2.2.2.2.2.1 - 1, (eRl 1 S).2.2.2.2.2.2)
def eSg (B : Nat → Nat) (n k : Nat) (S : eS) : eS :=
  if kBd k = 4 ∧ 0 < (eRl (if kBd k = 4 then 5 else kBd k) S).2.2.1 ∧ kBd (S.2.2.2.1 ((eRl (if kBd k = 4 then 5 else kBd k) S).2.2.1 - 1)) = 4 then eFl B n 1 (eRl (if kBd k = 4 then 5 else kBd k) S)
  else eAw B n k (decide (S.2.2.2.2.2.2 + 1 ≤ 64)) (eKn (eRl (if kBd k = 4 then 5 else kBd k) S))
def eAp (k v : Nat) (S : eS) : eS := (S.1, S.2.1, S.2.2.1, S.2.2.2.1, lAp S.2.2.2.2.1 (nI k) (nI v), S.2.2.2.2.2)
def eOp (S : eS) : eS := (S.1, S.2.1, S.2.2.1, S.2.2.2.1, S.2.2.2.2.1, S.2.2.2.2.2.1 + 1, S.2.2.2.2.2.2)
def eSt (B : Nat → Nat) (n k : Nat) (S : eS) : eS :=
  if k = 24 then eAw B n 24 (decide (S.2.2.2.2.2.1 + 1 ≤ 8)) (eOp S)
  else if k = 14 then (if 0 < S.2.2.1 ∧ 3 < kBd (S.2.2.2.1 (S.2.2.1 - 1)) then eFl B n 1 S else eAw B n 14 (decide (S.2.2.2.2.2.2 + 1 ≤ 64)) (eKn S))
  else if k = 23 ∨ (15 ≤ k ∧ k ≤ 21) then (if 64 < S.2.2.2.2.2.2 + 1 ∨ (k = 23 ∧ 9999 < (tok B n S.1.1).2.1) then eFl B n 2 (eKn S) else eAp k (tok B n S.1.1).2.1 (eKn S))
  else eFl B n 1 S
def rLw (L : zL) (x : aS) (a : Nat) : Prop := x.1 a 1 = nI L.1 ∧ ∀ i, i < L.1 → x.1 (a + 10) i = L.2.1 i ∧ x.1 (a + 20) i = L.2.2 i
/-- the class holds the state -/
def cE (n : Nat) (B : Nat → Nat) (t a : Nat) (S : eS) (x : aS) : Prop := cJ n B t S.1 x ∧ x.1 bRd 5 = nI S.2.2.1 ∧ (∀ j, j < S.2.2.1 → x.1 (bRd + 5) j = nI (S.2.2.2.1 j)) ∧ rLw S.2.2.2.2.1 x a ∧ x.1 bRd 6 = nI S.2.2.2.2.2.1 ∧ x.1 t 18 = nI S.2.2.2.2.2.2
/-- the cells that an E may change -/
def cFe (t a : Nat) (x y : aS) : Prop := (∀ m j, ¬ (m = bTp ∧ 3 ≤ j ∧ j ≤ 6) → ¬ (m = bRd ∧ 5 ≤ j ∧ j ≤ 8) → ¬ m = bRd + 5 → ¬ (m = t ∧ j = 18) → ¬ (m = a ∧ j = 1) → ¬ m = a + 10 → ¬ m = a + 20 → y.1 m j = x.1 m j) ∧ y.2 = x.2
theorem cFe_r (t a : Nat) (x : aS) : cFe t a x x := ⟨fun _ _ _ _ _ _ _ _ _ => rfl, rfl⟩
theorem cFe_t {t a : Nat} {x y z : aS} (h : cFe t a x y) (g : cFe t a y z) : cFe t a x z := ⟨fun m j e1 e2 e3 e4 e5 e6 e7 => (g.1 m j e1 e2 e3 e4 e5 e6 e7).trans (h.1 m j e1 e2 e3 e4 e5 e6 e7), g.2.trans h.2⟩
theorem cFe_u {t a : Nat} {x y : aS} (h : cU x y) : cFe t a x y := ⟨fun m j e1 e2 _ _ _ _ _ => h.1 m j e1 (by omega), h.2⟩
theorem cFe_w {t a m j : Nat} {v : Int32} {x : aS} (h : (m = bRd ∧ 5 ≤ j ∧ j ≤ 8) ∨ m = bRd + 5 ∨ (m = t ∧ j = 18) ∨ (m = a ∧ j = 1) ∨ m = a + 10 ∨ m = a + 20) : cFe t a x (aWr x m j v) := ⟨fun p i _ e2 e3 e4 e5 e6 e7 => aWr_o _ _ (by omega), rfl⟩
section qAO
variable {l : Launch} {d : Nat} {D : Nat → Bool} {x y : aS} {n t a k b : Nat} {B : Nat → Nat} {S : eS} {r r' : zP}
set_option maxHeartbeats 4000000 in
set_option maxRecDepth 100000 in
theorem c_X3_binding {c : Int32} : aDI l mX3_binding d D [.int c] x (kBc c) x := by
  refine a_metI (by decide) (Nat.le_of_ble_eq_true rfl) rfl ?_
  refine a_iload_n (i := 0) dX3_binding_0 rfl rfl ?_
  refine sX3_binding_1 dX3_binding_1 (fun s_1 => ?_) (fun s_1 => ?_) (fun s_1 => ?_) (fun s_1 => ?_) (fun s_1 => ?_) (fun s_1 => ?_) (fun s_1 => ?_) (fun s_1_0 s_1_1 s_1_2 s_1_3 s_1_4 s_1_5 s_1_6 => ?_)
  · refine a_iconst (v := 1) dX3_binding_116 (by decide) ?_
    exact a_iret dX3_binding_117 (by rw [s_1]; exact ⟨rfl, rfl⟩)
  · refine a_iconst (v := 2) dX3_binding_118 (by decide) ?_
    exact a_iret dX3_binding_119 (by rw [s_1]; exact ⟨rfl, rfl⟩)
  · refine a_iconst (v := 3) dX3_binding_120 (by decide) ?_
    exact a_iret dX3_binding_121 (by rw [s_1]; exact ⟨rfl, rfl⟩)
  · refine a_iconst (v := 5) dX3_binding_122 (by decide) ?_
    exact a_iret dX3_binding_123 (by rw [s_1]; exact ⟨rfl, rfl⟩)
  · refine a_iconst (v := 5) dX3_binding_122 (by decide) ?_
    exact a_iret dX3_binding_123 (by rw [s_1]; exact ⟨rfl, rfl⟩)
  · refine a_bipush (v := 6) dX3_binding_124 (by decide) ?_
    exact a_iret dX3_binding_126 (by rw [s_1]; exact ⟨rfl, rfl⟩)
  · refine a_bipush (v := 6) dX3_binding_124 (by decide) ?_
    exact a_iret dX3_binding_126 (by rw [s_1]; exact ⟨rfl, rfl⟩)
  · refine a_iload_n (i := 0) dX3_binding_127 rfl rfl ?_
    refine a_bipush (v := 27) dX3_binding_128 (by decide) ?_
    refine a_icmp_lt (tg := 143) dX3_binding_130 (by decide) (fun c_130 => ?_) (fun c_130 => ?_)
    · have q : kBc c = 0 := by unfold kBc; rw [if_neg s_1_0, if_neg s_1_1, if_neg s_1_2, if_neg (by intro e; rcases e with e | e; exact s_1_3 e; exact s_1_4 e), if_neg (by intro e; rcases e with e | e; exact s_1_5 e; exact s_1_6 e), if_neg (fun e => absurd e.1 (Int32.not_le.mpr c_130))]
      refine a_iconst (v := 0) dX3_binding_143 (by decide) ?_
      exact a_iret dX3_binding_144 (by rw [q]; exact ⟨rfl, rfl⟩)
    · refine a_iload_n (i := 0) dX3_binding_133 rfl rfl ?_
      refine a_bipush (v := 32) dX3_binding_134 (by decide) ?_
      refine a_icmp_gt (tg := 143) dX3_binding_136 (by decide) (fun c_136 => ?_) (fun c_136 => ?_)
      · have q : kBc c = 0 := by unfold kBc; rw [if_neg s_1_0, if_neg s_1_1, if_neg s_1_2, if_neg (by intro e; rcases e with e | e; exact s_1_3 e; exact s_1_4 e), if_neg (by intro e; rcases e with e | e; exact s_1_5 e; exact s_1_6 e), if_neg (fun e => absurd e.2 (Int32.not_le.mpr c_136))]
        refine a_iconst (v := 0) dX3_binding_143 (by decide) ?_
        exact a_iret dX3_binding_144 (by rw [q]; exact ⟨rfl, rfl⟩)
      · have q : kBc c = 4 := by unfold kBc; rw [if_neg s_1_0, if_neg s_1_1, if_neg s_1_2, if_neg (by intro e; rcases e with e | e; exact s_1_3 e; exact s_1_4 e), if_neg (by intro e; rcases e with e | e; exact s_1_5 e; exact s_1_6 e), if_pos ⟨Int32.not_lt.mp c_130, Int32.not_lt.mp c_136⟩]
        refine a_iconst (v := 4) dX3_binding_139 (by decide) ?_
        refine a_goto (tg := 144) dX3_binding_140 (by decide) ?_
        exact a_iret dX3_binding_144 (by rw [q]; exact ⟨rfl, rfl⟩)
theorem cJ_f {j : Nat} {v : Int32} (h : cJ n B t r x) (hj : j = 2 ∨ j = 3 ∨ j = 5 ∨ j = 6) : cJ n B t r (aWr x bRd j v) := by
  obtain ⟨ht, h1, h2, h3⟩ := h
  have e1 : bTp ≠ bRd := by decide
  have e2 : bTp + 2 ≠ bRd := by decide
  refine ⟨ht, by rw [aWr_j _ _ _ (by omega)]; exact h1, ⟨by rw [aWr_n _ _ _ e1]; exact h2.1, h2.2.1, fun i hi => ⟨(h2.2.2 i hi).1, by rw [aWr_n _ _ _ e2]; exact (h2.2.2 i hi).2⟩⟩, ?_⟩
  obtain ⟨p1, p2, p3, p4⟩ := h3
  refine ⟨by rw [aWr_j _ _ _ (by omega)]; exact p1, p2, fun e => ?_, fun e => by rw [aWr_j _ _ _ (by omega)]; exact p4 e⟩
  obtain ⟨a, ⟨k1, k2, k3, k4⟩, b⟩ := p3 e
  exact ⟨a, ⟨by rw [aWr_n _ _ _ e1]; exact k1, by rw [aWr_n _ _ _ e1]; exact k2, by rw [aWr_n _ _ _ e1]; exact k3, by rw [aWr_n _ _ _ e1]; exact k4⟩, by rw [aWr_j _ _ _ (by omega)]; exact b⟩
theorem rLw_ap {L : zL} {u v : Int32} (h : rLw L x a) : rLw (lAp L u v) (wApp x a L.1 u v) a := by
  obtain ⟨h1, h2⟩ := h
  refine ⟨aWr_s _ _ _ _, fun i hi => ?_⟩
  have hi : i < L.1 + 1 := hi
  unfold wApp lAp
  by_cases e : i = L.1
  · subst e
    rw [aWr_n _ _ _ (show a + 10 ≠ a by omega), aWr_n _ _ _ (show a + 10 ≠ a + 20 by omega), aWr_s, aWr_n _ _ _ (show a + 20 ≠ a by omega), aWr_s]
    simp
  · rw [aWr_n _ _ _ (show a + 10 ≠ a by omega), aWr_n _ _ _ (show a + 10 ≠ a + 20 by omega), aWr_j _ _ _ e, aWr_n _ _ _ (show a + 20 ≠ a by omega), aWr_j _ _ _ e, aWr_n _ _ _ (show a + 20 ≠ a + 10 by omega)]
    have := h2 i (by omega)
    simp [e, this]
theorem cFe_ap {s : Nat} {u v : Int32} : cFe t a x (wApp x a s u v) := cFe_t (cFe_t (cFe_w (m := a + 10) (by omega)) (cFe_w (m := a + 20) (by omega))) (cFe_w (m := a) (j := 1) (by omega))
theorem cE_w {m j : Nat} {v : Int32} (h : cJ n B t r x) (hm : t ≤ m) : cJ n B t r (aWr x m j v) := cJ_w h hm
theorem cJ_ap {s : Nat} {u v : Int32} (h : cJ n B t r x) (ha : t ≤ a) : cJ n B t r (wApp x a s u v) := cJ_w (cJ_w (cJ_w h (by omega)) (by omega)) ha
/-- a law's cells -/
def aLw (D : Nat → Bool) (t a : Nat) : Prop := t + 130 ≤ a ∧ aIs D a 2 0 ∧ aIs D (a + 10) 14 64 ∧ aIs D (a + 20) 14 64
theorem bRd_5 (ht : aTdB t) {m : Nat} (hm : t ≤ m) : bRd ≠ m ∧ bRd + 5 ≠ m := by
  have e2 : bRd = 256 := by decide
  rcases ht with rfl | rfl <;> omega
set_option maxHeartbeats 4000000 in
set_option maxRecDepth 100000 in
theorem c_X3_release (hD : aDC D) (hA : aLw D t a) (hb1 : 1 ≤ b) (hb : b < 2 ^ 31) (h : cE n B t a S x) (hw : S.2.2.1 ≤ 72) (hs : ∀ j, j < S.2.2.1 → S.2.2.2.1 j < 39) (hL : S.2.2.2.2.1.1 + wcn S.2.2.2.1 S.2.2.1 ≤ 64) : aCt l mX3_release (d + 5) D [.ref bRd, .ref a, .int (nI b)] x (fun v y => v = none ∧ cE n B t a (eRl b S) y ∧ cFe t a x y) := by
  obtain ⟨a1, a2, a3, a4⟩ := hA
  obtain ⟨r, du, ws, s, L, op, kn⟩ := S
  have ht := h.1.1
  have M : ∀ (w : Nat) (L : zL) (y : aS), w ≤ 72 → (∀ j, j < w → s j < 39) → L.1 + wcn s w ≤ 64 → cE n B t a (r, du, w, s, L, op, kn) y → cFe t a x y → aV l mX3_release (d + 5) D none 0 [(0, .ref bRd), (1, .ref a), (2, .int (nI b))] [] y (fun v y => v = none ∧ cE n B t a (eRl b (r, du, w, s, L, op, kn)) y ∧ cFe t a x y) := by
    intro w
    induction w with
    | zero =>
      intro L y hw hs hL E F
      have e5 : y.1 bRd 5 = 0 := E.2.1
      refine a_aload_n (i := 0) dX3_release_0 rfl rfl ?_
      refine gX3_210 rfl dX3_release_1 (isRd_0 hD) ?_
      rw [e5]
      refine a_if_le (tg := 52) dX3_release_4 (by decide) (fun c_4 => ?_) (fun c_4 => ?_)
      · exact a_vret dX3_release_52 (by exact ⟨rfl, E, F⟩)
      · exact absurd (Int32.le_refl _) c_4
    | succ w ih =>
      intro L y hw hs hL E F
      obtain ⟨J, e5, e6, eL, e7, e8⟩ := id E
      have e5 : y.1 bRd 5 = nI (w + 1) := e5
      have es : y.1 (bRd + 5) w = nI (s w) := e6 w (Nat.lt_succ_self w)
      obtain ⟨kb, kb6⟩ := kBc_n (s w) (hs w (Nat.lt_succ_self w))
      by_cases g : b ≤ kBd (s w)
      · have n24 : ¬ s w = 24 := fun e => by rw [e] at g; exact absurd g (by show ¬ b ≤ 0; omega)
        have hL2 : L.1 + (wcn s w + (if s w = 24 then 0 else 1)) ≤ 64 := hL
        rw [if_neg n24] at hL2
        obtain ⟨Y, hY⟩ : ∃ Y, Y = aWr y bRd 5 (nI w) := ⟨_, rfl⟩
        have YL : Y.1 a 1 = nI L.1 := by rw [hY, aWr_n _ _ _ (bRd_5 ht (show t ≤ a by omega)).1.symm]; exact eL.1
        have Y5 : Y.1 bRd 5 = nI w := by rw [hY, aWr_s]
        have Ys : Y.1 (bRd + 5) w = nI (s w) := by rw [hY, aWr_n _ _ _ (by decide)]; exact es
        have ELY : rLw L Y a := ⟨YL, fun i hi => by rw [hY, aWr_n _ _ _ (bRd_5 ht (show t ≤ a + 10 by omega)).1.symm, aWr_n _ _ _ (bRd_5 ht (show t ≤ a + 20 by omega)).1.symm]; exact eL.2 i hi⟩
        have nW : ∀ m j, ¬ m = a → ¬ m = a + 10 → ¬ m = a + 20 → (wApp Y a L.1 (nI (s w)) 0).1 m j = Y.1 m j := fun m j q1 q2 q3 => by unfold wApp; rw [aWr_n _ _ _ q1, aWr_n _ _ _ q3, aWr_n _ _ _ q2]
        have E2 : cE n B t a (r, du, w, s, lAp L (nI (s w)) 0, op, kn) (wApp Y a L.1 (nI (s w)) 0) := by
          refine ⟨cJ_ap (by rw [hY]; exact cJ_f J (by omega)) (by omega), ?_, fun j hj => ?_, rLw_ap ELY, ?_, ?_⟩
          · show (wApp Y a L.1 (nI (s w)) 0).1 bRd 5 = nI w
            rw [nW _ _ (bRd_5 ht (show t ≤ a by omega)).1 (bRd_5 ht (show t ≤ a + 10 by omega)).1 (bRd_5 ht (show t ≤ a + 20 by omega)).1]; exact Y5
          · rw [nW _ _ (bRd_5 ht (show t ≤ a by omega)).2 (bRd_5 ht (show t ≤ a + 10 by omega)).2 (bRd_5 ht (show t ≤ a + 20 by omega)).2, hY, aWr_n _ _ _ (by decide)]
            have hj : j < w := hj
            exact e6 j (by show j < w + 1; omega)
          · rw [nW _ _ (bRd_5 ht (show t ≤ a by omega)).1 (bRd_5 ht (show t ≤ a + 10 by omega)).1 (bRd_5 ht (show t ≤ a + 20 by omega)).1, hY, aWr_j _ _ _ (by decide)]; exact e7
          · rw [nW _ _ (by omega) (by omega) (by omega), hY, aWr_n _ _ _ (bRd_5 ht (Nat.le_refl t)).1.symm]; exact e8
        have F2 : cFe t a x (wApp Y a L.1 (nI (s w)) 0) := cFe_t (cFe_t F (by rw [hY]; exact cFe_w (by omega))) cFe_ap
        have ih2 := ih (lAp L (nI (s w)) 0) _ (by omega) (fun j hj => hs j (by omega)) (by show L.1 + 1 + wcn s w ≤ 64; omega) E2 F2
        have er : eRl b (r, du, w, s, lAp L (nI (s w)) 0, op, kn) = eRl b (r, du, w + 1, s, L, op, kn) := by
          unfold eRl
          show (r, du, (rel s b w (lAp L (nI (s w)) 0)).1, s, (rel s b w (lAp L (nI (s w)) 0)).2, op, kn) = (r, du, (if b ≤ kBd (s w) then rel s b w (lAp L (nI (s w)) 0) else (w + 1, L)).1, s, (if b ≤ kBd (s w) then rel s b w (lAp L (nI (s w)) 0) else (w + 1, L)).2, op, kn)
          rw [if_pos g]
        rw [er] at ih2
        refine a_aload_n (i := 0) dX3_release_0 rfl rfl ?_
        refine gX3_210 rfl dX3_release_1 (isRd_0 hD) ?_
        rw [e5]
        refine a_if_le (tg := 52) dX3_release_4 (by decide) (fun c_4 => ?_) (fun c_4 => ?_)
        · exact absurd c_4 (nI_nle (by omega) (by omega))
        · refine a_aload_n (i := 0) dX3_release_7 rfl rfl ?_
          refine gX3_25 rfl dX3_release_8 (isRd_0 hD) ?_
          refine a_aload_n (i := 0) dX3_release_11 rfl rfl ?_
          refine gX3_210 rfl dX3_release_12 (isRd_0 hD) ?_
          rw [e5]
          refine a_iconst (v := 1) dX3_release_15 (by decide) ?_
          refine a_isub dX3_release_16 ?_
          rw [nI_pred]
          refine a_ialdN dX3_release_17 (isRd_5 hD) (by first | with_reducible exact rfl | with_reducible exact ix8 _ _ | with_reducible exact ix12 _ _ | exact rfl) (by omega) (by decide) ?_
          rw [es]
          refine kX3_220 rfl dX3_release_18 (Nat.le_of_ble_eq_true rfl) (c_X3_binding) ?_
          rw [kb]
          refine a_iload_n (i := 2) dX3_release_21 rfl rfl ?_
          refine a_icmp_lt (tg := 52) dX3_release_22 (by decide) (fun c_22 => ?_) (fun c_22 => ?_)
          · exact absurd c_22 (nI_nlt g (by omega))
          · refine a_aload_n (i := 0) dX3_release_25 rfl rfl ?_
            refine a_dup dX3_release_26 rfl ?_
            refine gX3_210 rfl dX3_release_27 (isRd_0 hD) ?_
            rw [e5]
            refine a_iconst (v := 1) dX3_release_30 (by decide) ?_
            refine a_isub dX3_release_31 ?_
            rw [nI_pred]
            refine pX3_210 rfl dX3_release_32 (isRd_0 hD) ?_
            rw [← hY]
            refine a_aload_n (i := 1) dX3_release_35 rfl rfl ?_
            refine a_aload_n (i := 0) dX3_release_36 rfl rfl ?_
            refine gX3_25 rfl dX3_release_37 (isRd_0 hD) ?_
            refine a_aload_n (i := 0) dX3_release_40 rfl rfl ?_
            refine gX3_210 rfl dX3_release_41 (isRd_0 hD) ?_
            rw [Y5]
            refine a_ialdN dX3_release_44 (isRd_5 hD) (by first | with_reducible exact rfl | with_reducible exact ix8 _ _ | with_reducible exact ix12 _ _ | exact rfl) (by omega) (by decide) ?_
            rw [Ys]
            refine a_iconst (v := 0) dX3_release_45 (by decide) ?_
            refine kX3_240 rfl dX3_release_46 (Nat.le_of_ble_eq_true rfl) (a2) (c_X2_append a2 a3 a4 YL (by omega)) ?_
            refine a_goto (tg := 0) dX3_release_49 (by decide) ?_
            exact a_loc _ rfl ih2
      · have er : eRl b (r, du, w + 1, s, L, op, kn) = (r, du, w + 1, s, L, op, kn) := by
          unfold eRl
          show (r, du, (if b ≤ kBd (s w) then rel s b w (lAp L (nI (s w)) 0) else (w + 1, L)).1, s, (if b ≤ kBd (s w) then rel s b w (lAp L (nI (s w)) 0) else (w + 1, L)).2, op, kn) = _
          rw [if_neg g]
        rw [er]
        refine a_aload_n (i := 0) dX3_release_0 rfl rfl ?_
        refine gX3_210 rfl dX3_release_1 (isRd_0 hD) ?_
        rw [e5]
        refine a_if_le (tg := 52) dX3_release_4 (by decide) (fun c_4 => ?_) (fun c_4 => ?_)
        · exact absurd c_4 (nI_nle (by omega) (by omega))
        · refine a_aload_n (i := 0) dX3_release_7 rfl rfl ?_
          refine gX3_25 rfl dX3_release_8 (isRd_0 hD) ?_
          refine a_aload_n (i := 0) dX3_release_11 rfl rfl ?_
          refine gX3_210 rfl dX3_release_12 (isRd_0 hD) ?_
          rw [e5]
          refine a_iconst (v := 1) dX3_release_15 (by decide) ?_
          refine a_isub dX3_release_16 ?_
          rw [nI_pred]
          refine a_ialdN dX3_release_17 (isRd_5 hD) (by first | with_reducible exact rfl | with_reducible exact ix8 _ _ | with_reducible exact ix12 _ _ | exact rfl) (by omega) (by decide) ?_
          rw [es]
          refine kX3_220 rfl dX3_release_18 (Nat.le_of_ble_eq_true rfl) (c_X3_binding) ?_
          rw [kb]
          refine a_iload_n (i := 2) dX3_release_21 rfl rfl ?_
          refine a_icmp_lt (tg := 52) dX3_release_22 (by decide) (fun c_22 => ?_) (fun c_22 => ?_)
          · exact a_vret dX3_release_52 (by exact ⟨rfl, E, F⟩)
          · exact absurd (nI_lt (by omega) hb) c_22
  refine a_met (by decide) (Nat.le_of_ble_eq_true rfl) (fun v y q => Or.inr (Or.inr (Or.inr ⟨rfl, q.1⟩))) ?_
  exact a_loc _ rfl (M ws L x hw hs hL h (cFe_r t a x))
end qAO
