/-! text, the model: copies, keepText, begin -/
/-- rows up to c (not with) are copied down -/
def kpR (c : Nat) (x y : aS) : Prop := (∀ m j, bM + 26 ≤ m → m < bM + c → j < hlf (m - bM) → y.1 m j = x.1 m (hlf (m - bM) + j)) ∧ (∀ m j, ¬ (bM + 26 ≤ m ∧ m < bM + c ∧ j < hlf (m - bM)) → y.1 m j = x.1 m j) ∧ y.2 = x.2
def cpR (a c : Nat) (x y : aS) : Prop := (∀ j, j < c → y.1 a j = x.1 a (c + j)) ∧ (∀ j, c ≤ j → y.1 a j = x.1 a j) ∧ (∀ m, m ≠ a → y.1 m = x.1 m) ∧ y.2 = x.2
section qBK
variable {l : Launch} {d : Nat} {D : Nat → Bool} {x y z : aS} {n : Nat} {B : Nat → Nat} {P : pS} {T : zT} {W : Nat → zL} {Z : zS}
set_option maxHeartbeats 4000000 in
set_option maxRecDepth 100000 in
theorem c_X12_copies {a c len : Nat} (ha : aIs D a 14 len) (hc : c + c ≤ len) (hl : len < 2147483648) : aCt l mX12_copies d D [.ref a, .int (nI c)] x (fun v y => v = none ∧ cpR a c x y) := by
  refine a_met (by decide) (Nat.le_of_ble_eq_true rfl) (fun v y q => Or.inr (Or.inr (Or.inr ⟨rfl, q.1⟩))) ?_
  have L : ∀ F k, k + F = c → ∀ y : aS, (∀ j, j < k → y.1 a j = x.1 a (c + j)) → (∀ j, k ≤ j → y.1 a j = x.1 a j) → (∀ m, m ≠ a → y.1 m = x.1 m) → y.2 = x.2 → aV l mX12_copies d D none 2 [(0, .ref a), (1, .int (nI c)), (2, .int (nI k))] [] y (fun v y => v = none ∧ cpR a c x y) := by
    intro F
    induction F with
    | zero =>
      intro k hk y h1 h2 h3 h4
      have e : k = c := by omega
      subst e
      refine a_iload_n (i := 2) dX12_copies_2 rfl rfl ?_
      refine a_iload_n (i := 1) dX12_copies_3 rfl rfl ?_
      refine a_icmp_ge (tg := 21) dX12_copies_4 (by decide) (fun c_4 => ?_) (fun c_4 => ?_)
      · exact a_vret dX12_copies_21 (by exact ⟨rfl, h1, h2, h3, h4⟩)
      · exact absurd (Int32.le_refl _) c_4
    | succ F ih =>
      intro k hk y h1 h2 h3 h4
      have X := ih (k + 1) (by omega) (aWr y a k (y.1 a (c + k))) (fun j hj => by
        by_cases e : j = k
        · subst e; rw [aWr_s]; exact h2 _ (by omega)
        · rw [aWr_j _ _ _ e]; exact h1 j (by omega)) (fun j hj => by rw [aWr_j _ _ _ (by omega)]; exact h2 j (by omega)) (fun m hm => by rw [aWr_n _ _ _ hm]; exact h3 m hm) h4
      refine a_iload_n (i := 2) dX12_copies_2 rfl rfl ?_
      refine a_iload_n (i := 1) dX12_copies_3 rfl rfl ?_
      refine a_icmp_ge (tg := 21) dX12_copies_4 (by decide) (fun c_4 => ?_) (fun c_4 => ?_)
      · exact absurd c_4 (nI_ge (by omega) (by omega))
      · refine a_aload_n (i := 0) dX12_copies_7 rfl rfl ?_
        refine a_iload_n (i := 2) dX12_copies_8 rfl rfl ?_
        refine a_aload_n (i := 0) dX12_copies_9 rfl rfl ?_
        refine a_iload_n (i := 1) dX12_copies_10 rfl rfl ?_
        refine a_iload_n (i := 2) dX12_copies_11 rfl rfl ?_
        refine a_iadd dX12_copies_12 ?_
        refine a_ialdN dX12_copies_13 (by exact ha) (by first | exact nI_add _ _ | with_reducible exact rfl | with_reducible exact ix8 _ _ | with_reducible exact ix12 _ _ | exact rfl) (by omega) (by exact hl) ?_
        refine a_iastN dX12_copies_14 (by exact ha) (by first | with_reducible exact rfl | with_reducible exact ix8 _ _ | with_reducible exact ix12 _ _ | exact rfl) (by omega) (by exact hl) ?_
        refine a_iincK (i := 2) (u := 1) dX12_copies_15 rfl (by decide) (by decide) ?_
        rw [nI_1]
        refine a_goto (tg := 2) dX12_copies_18 (by decide) ?_
        exact a_loc _ rfl X
  refine a_iconst (v := 0) dX12_copies_0 (by decide) ?_
  refine a_istore_n (i := 2) dX12_copies_1 rfl (by decide) ?_
  exact a_loc _ rfl (L c 0 (Nat.zero_add c) x (fun j hj => absurd hj (Nat.not_lt_zero j)) (fun _ _ => rfl) (fun _ _ => rfl) rfl)
theorem kp_0 : kpR 26 x x := ⟨fun m j h1 h2 => by omega, fun _ _ _ => rfl, rfl⟩
theorem kp_s {c h : Nat} (hc : 26 ≤ c) (e : hlf c = h) (K : kpR c x y) (Q : cpR (bM + c) h y z) : kpR (c + 1) x z := by
  obtain ⟨k1, k2, k3⟩ := K
  obtain ⟨q1, q2, q3, q4⟩ := Q
  have eb : bM + c - bM = c := by omega
  refine ⟨fun m j h1 h2 h3 => ?_, fun m j hn => ?_, q4.trans k3⟩
  · by_cases em : m = bM + c
    · subst em
      rw [eb, e] at h3 ⊢
      rw [q1 j h3]
      exact k2 _ _ (by omega)
    · rw [q3 m em]; exact k1 m j h1 (by omega) h3
  · by_cases em : m = bM + c
    · subst em
      rw [eb, e] at hn
      rw [q2 j (by omega)]
      exact k2 _ _ (by omega)
    · rw [q3 m em]
      exact k2 m j (fun g => hn ⟨g.1, by omega, g.2.2⟩)
/-- the text that was read is the text now -/
def mKt (x y : aS) : Prop := (∀ j, j < 6 → y.1 bM (12 + j) = x.1 bM (18 + j)) ∧ (∀ m j, bM + 26 ≤ m → m ≤ bM + 48 → j < hlf (m - bM) → y.1 m j = (shr x).1 m j)
theorem rTM_kt (bd : tBd T) (K : mKt x y) (h : rTM T (shr x)) : rTM T y := by
  obtain ⟨b0, b1, b2, b3, b4⟩ := bd
  obtain ⟨k0, k1⟩ := K
  have g : ∀ c j, 26 ≤ c → c ≤ 48 → j < hlf c → y.1 (bM + c) j = (shr x).1 (bM + c) j := fun c j h1 h2 h3 => k1 _ _ (by omega) (by omega) (by rw [show bM + c - bM = c by omega]; exact h3)
  have f : ∀ j, j < 6 → y.1 bM (12 + j) = (shr x).1 bM (12 + j) := fun j hj => by rw [shr_0, k0 j hj]; exact congrArg (x.1 bM) (by omega)
  obtain ⟨h1, h2, h3, h4, h5, h6, h7, h8, h9, h10, h11, h12, h13⟩ := h
  have e27 : hlf 27 = 6 := rfl
  have e28 : hlf 28 = 6 := rfl
  refine ⟨(f 0 (by decide)).trans h1, (f 1 (by decide)).trans h2, (f 2 (by decide)).trans h3, (f 3 (by decide)).trans h4, (f 4 (by decide)).trans h5, (f 5 (by decide)).trans h6, (g 26 0 (by decide) (by decide) (by decide)).trans h7, (g 26 1 (by decide) (by decide) (by decide)).trans h8, fun i hi => ?_, fun i hi => ?_, fun i hi => ?_, fun i hi => ?_, fun i hi => ?_⟩
  · rw [g 27 i (by decide) (by decide) (by rw [hlf_27 _ (by decide) (by decide)]; omega), g 28 i (by decide) (by decide) (by rw [hlf_27 _ (by decide) (by decide)]; omega)]; exact h9 i hi
  · rw [g 29 i (by decide) (by decide) (by rw [hlf_29 _ (by decide) (by decide)]; omega), g 30 i (by decide) (by decide) (by rw [hlf_29 _ (by decide) (by decide)]; omega), g 31 i (by decide) (by decide) (by rw [hlf_29 _ (by decide) (by decide)]; omega), g 32 i (by decide) (by decide) (by rw [hlf_29 _ (by decide) (by decide)]; omega), g 33 i (by decide) (by decide) (by rw [hlf_29 _ (by decide) (by decide)]; omega)]; exact h10 i hi
  · rw [g 34 i (by decide) (by decide) (by rw [hlf_34 _ (by decide) (by decide)]; omega), g 35 i (by decide) (by decide) (by rw [hlf_34 _ (by decide) (by decide)]; omega), g 36 i (by decide) (by decide) (by rw [hlf_34 _ (by decide) (by decide)]; omega), g 37 i (by decide) (by decide) (by rw [hlf_34 _ (by decide) (by decide)]; omega), g 38 i (by decide) (by decide) (by rw [hlf_34 _ (by decide) (by decide)]; omega)]; exact h11 i hi
  · rw [g 39 i (by decide) (by decide) (by rw [hlf_39 _ (by decide) (by decide)]; omega), g 40 i (by decide) (by decide) (by rw [hlf_39 _ (by decide) (by decide)]; omega), g 41 i (by decide) (by decide) (by rw [hlf_39 _ (by decide) (by decide)]; omega)]; exact h12 i hi
  · rw [g 42 i (by decide) (by decide) (by rw [hlf_42 _ (by decide) (by decide)]; omega)]; exact h13 i hi
theorem rWM_kt (K : mKt x y) (M : mK n B P x) (h0 : P.2.2.2.2.1 = 0) : rWM P.2.1 y := by
  obtain ⟨-, -, -, pl, hf⟩ := M
  obtain ⟨-, -, -, -, hl⟩ := hf h0
  obtain ⟨-, pW⟩ := pl h0
  obtain ⟨k0, k1⟩ := K
  have g : ∀ c j, 26 ≤ c → c ≤ 48 → j < hlf c → y.1 (bM + c) j = x.1 (bM + c) (hlf c + j) := fun c j h1 h2 h3 => by
    rw [k1 _ _ (by omega) (by omega) (by rw [show bM + c - bM = c by omega]; exact h3)]
    exact shr_r x (by omega) rfl
  intro q hq
  obtain ⟨a1, a2⟩ := hl q hq
  have e43 : y.1 (bM + 43) q = bI (P.2.2.1 (2 + q)) := (g 43 q (by decide) (by decide) hq).trans a1
  cases hg : P.2.2.1 (2 + q) with
  | true =>
    obtain ⟨p0, f, P', O', b1, b2, b3, b4⟩ := a2 hg
    rw [hg] at e43
    refine ⟨by rw [e43, decide_eq_true p0], fun _ => ⟨f, P', O', (g 44 q (by decide) (by decide) hq).trans b1, (g 45 q (by decide) (by decide) hq).trans b2, rLM_f b4 (fun m j h1 h2 h3 => ?_)⟩⟩
    have := b4.1
    refine k1 m j (by omega) (by omega) ?_
    rcases (by omega : m = bM + 46 ∨ m = bM + 47 ∨ m = bM + 48) with e | e | e
    · rw [e, show bM + 46 - bM = 46 by omega, show hlf 46 = 64 from rfl]; omega
    · rw [e, show bM + 47 - bM = 47 by omega, show hlf 47 = 64 from rfl]; omega
    · rw [e, show bM + 48 - bM = 48 by omega, show hlf 48 = 64 from rfl]; omega
  | false =>
    have w0 := (pW q hq).2 hg
    rw [hg] at e43
    exact ⟨by rw [e43, w0]; rfl, fun e => absurd e (by rw [w0]; decide)⟩
theorem rTM_sm (h : rTM T x) (s : ∀ m j, (bM + 26 ≤ m ∧ m ≤ bM + 48) ∨ (m = bM ∧ j ≤ 17) ∨ m < bM ∨ m = bM + 4 → y.1 m j = x.1 m j) : rTM T y := by
  obtain ⟨h1, h2, h3, h4, h5, h6, h7, h8, h9, h10, h11, h12, h13⟩ := h
  refine ⟨by rw [s _ _ (by omega)]; exact h1, by rw [s _ _ (by omega)]; exact h2, by rw [s _ _ (by omega)]; exact h3, by rw [s _ _ (by omega)]; exact h4, by rw [s _ _ (by omega)]; exact h5, by rw [s _ _ (by omega)]; exact h6, by rw [s _ _ (by omega)]; exact h7, by rw [s _ _ (by omega)]; exact h8, fun i hi => ?_, fun i hi => ?_, fun i hi => ?_, fun i hi => ?_, fun i hi => ?_⟩
  · rw [s _ _ (by omega), s _ _ (by omega)]; exact h9 i hi
  · rw [s _ _ (by omega), s _ _ (by omega), s _ _ (by omega), s _ _ (by omega), s _ _ (by omega)]; exact h10 i hi
  · rw [s _ _ (by omega), s _ _ (by omega), s _ _ (by omega), s _ _ (by omega), s _ _ (by omega)]; exact h11 i hi
  · rw [s _ _ (by omega), s _ _ (by omega), s _ _ (by omega)]; exact h12 i hi
  · rw [s _ _ (by omega)]; exact h13 i hi
theorem rWM_sm (h : rWM W x) (s : ∀ m j, (bM + 26 ≤ m ∧ m ≤ bM + 48) ∨ (m = bM ∧ j ≤ 17) ∨ m < bM ∨ m = bM + 4 → y.1 m j = x.1 m j) : rWM W y := rWM_same (fun n h1 h2 => funext (fun j => s _ _ (by omega))) h
/-- begin -/
def bgC (m j : Nat) : Prop := mIn 0 m j ∨ (m = bM ∧ ((70 ≤ j ∧ j ≤ 74) ∨ j = 78 ∨ j = 79 ∨ j = 83 ∨ j = 85))
def mBg (T : zT) (x y : aS) : Prop := rM T (zFirst T) y 0 ∧ rNum (zFirst T) y ∧ rFl 5 y ∧ y.1 bM 78 = 0 ∧ y.1 bM 79 = -1 ∧ y.1 bM 83 = 0 ∧ y.1 bM 85 = 0 ∧ (∀ m j, ¬ bgC m j → y.1 m j = x.1 m j) ∧ (∀ m j, ¬ (m = bM ∧ j = 69) → y.2 m j = x.2 m j)
set_option maxHeartbeats 4000000 in
set_option maxRecDepth 100000 in
theorem c_X12_begin (hM : D 12 = true) (ok : zTok T) (hT : rTM T x) : aCt l mX12_begin (d + 2) D [.ref bM] x (fun v y => v = none ∧ mBg T x y) := by
  refine a_met (by decide) (Nat.le_of_ble_eq_true rfl) (fun v y q => Or.inr (Or.inr (Or.inr ⟨rfl, q.1⟩))) ?_
  have h6 := ok.2.2.2.2.2.2.1
  have a := c_X12_atFirst (l := l) (d := d) (D := D) (i := 0) hM (by decide) ok hT
  have FIN : ∀ y1 : aS, rM T (zFirst T) y1 0 → mOn 0 x y1 → mBg T x (aWr (aWr (aWr (aWr (mFl0 (aWl y1 bM 69 (lN (T.1 6)))) bM 78 0) bM 79 (-1)) bM 83 0) bM 85 0) := by
    intro y1 r1 F1
    have nin : ∀ j, ¬ mIn 0 bM j := fun j e => by unfold mIn at e; omega
    obtain ⟨w, hw⟩ : ∃ w, w = aWr (aWr (aWr (aWr (mFl0 (aWl y1 bM 69 (lN (T.1 6)))) bM 78 0) bM 79 (-1)) bM 83 0) bM 85 0 := ⟨_, rfl⟩
    rw [← hw]
    have wo : ∀ m j, ¬ (m = bM ∧ ((70 ≤ j ∧ j ≤ 74) ∨ j = 78 ∨ j = 79 ∨ j = 83 ∨ j = 85)) → w.1 m j = y1.1 m j := fun m j e => by
      rw [hw, aWr_o _ _ (by omega), aWr_o _ _ (by omega), aWr_o _ _ (by omega), aWr_o _ _ (by omega)]
      unfold mFl0
      rw [aWr_o _ _ (by omega), aWr_o _ _ (by omega), aWr_o _ _ (by omega), aWr_o _ _ (by omega), aWr_o _ _ (by omega)]
      rfl
    have w2 : ∀ m j, w.2 m j = (aWl y1 bM 69 (lN (T.1 6))).2 m j := fun m j => by rw [hw]; rfl
    refine ⟨rM_same ok (zOk_first ok) (fun m j h => wo _ _ (by unfold mIn at h; omega)) r1, ⟨T.1 6, by omega, rfl, by rw [w2]; simp [aWl]⟩, ⟨?_, ?_, ?_, ?_, ?_⟩, ?_, ?_, ?_, ?_, fun m j e => ?_, fun m j e => ?_⟩
    · rw [hw]; unfold mFl0; repeat (first | rw [aWr_s] | rw [aWr_j _ _ _ (by decide)])
      rfl
    · rw [hw]; unfold mFl0; repeat (first | rw [aWr_s] | rw [aWr_j _ _ _ (by decide)])
      rfl
    · rw [hw]; unfold mFl0; repeat (first | rw [aWr_s] | rw [aWr_j _ _ _ (by decide)])
      rfl
    · rw [hw]; unfold mFl0; repeat (first | rw [aWr_s] | rw [aWr_j _ _ _ (by decide)])
      rfl
    · rw [hw]; unfold mFl0; repeat (first | rw [aWr_s] | rw [aWr_j _ _ _ (by decide)])
      rfl
    · rw [hw, aWr_j _ _ _ (by decide), aWr_j _ _ _ (by decide), aWr_j _ _ _ (by decide), aWr_s]
    · rw [hw, aWr_j _ _ _ (by decide), aWr_j _ _ _ (by decide), aWr_s]
    · rw [hw, aWr_j _ _ _ (by decide), aWr_s]
    · rw [hw, aWr_s]
    · unfold bgC at e
      rw [wo _ _ (fun g => e (Or.inr g)), F1.1 _ _ (fun g => e (Or.inl g))]
    · rw [w2, ← F1.2]
      simp only [aWl]
      by_cases em : m = bM
      · subst em
        simp only [if_true]
        by_cases ej : j = 69
        · exact absurd ⟨rfl, ej⟩ e
        · simp [ej]
      · simp [em]
  refine a_aload_n (i := 0) dX12_begin_0 rfl rfl ?_
  refine a_iconst (v := 0) dX12_begin_1 (by decide) ?_
  refine kgX12_388 rfl dX12_begin_2 (Nat.le_of_ble_eq_true rfl) (isM_0 hM) (a) ?_
  rintro v y1 ⟨rfl, r1, F1⟩
  have e1 : y1.1 (bM + 26) 1 = nI (T.1 6) := by rw [F1.1 _ _ (fun e => by unfold mIn at e; omega)]; exact hT.2.2.2.2.2.2.2.1
  refine a_aload_n (i := 0) dX12_begin_5 rfl rfl ?_
  refine a_aload_n (i := 0) dX12_begin_6 rfl rfl ?_
  refine gX12_24 rfl dX12_begin_7 (isM_0 hM) ?_
  refine a_iconst (v := 1) dX12_begin_10 (by decide) ?_
  refine a_ialdN dX12_begin_11 (isM_26 hM) (by first | exact (show (1 : Int32) = nI 1 from rfl) | with_reducible exact rfl | with_reducible exact ix8 _ _ | with_reducible exact ix12 _ _ | exact rfl) (by omega) (by decide) ?_
  rw [e1]
  refine a_i2l dX12_begin_12 ?_
  rw [nI_l (by omega)]
  refine pX12_391 rfl dX12_begin_13 (isM_0 hM) ?_
  refine a_aload_n (i := 0) dX12_begin_16 rfl rfl ?_
  refine kX12_395 rfl dX12_begin_17 (Nat.le_of_ble_eq_true rfl) (isM_0 hM) (c_X12_plainTried hM) ?_
  refine a_aload_n (i := 0) dX12_begin_20 rfl rfl ?_
  refine a_iconst (v := 0) dX12_begin_21 (by decide) ?_
  refine pX12_398 rfl dX12_begin_22 (isM_0 hM) ?_
  refine a_aload_n (i := 0) dX12_begin_25 rfl rfl ?_
  refine a_iconst (v := (-1)) dX12_begin_26 (by decide) ?_
  refine pX12_145 rfl dX12_begin_27 (isM_0 hM) ?_
  refine a_aload_n (i := 0) dX12_begin_30 rfl rfl ?_
  refine a_iconst (v := 0) dX12_begin_31 (by decide) ?_
  refine pX12_401 rfl dX12_begin_32 (isM_0 hM) ?_
  refine a_aload_n (i := 0) dX12_begin_35 rfl rfl ?_
  refine a_iconst (v := 0) dX12_begin_36 (by decide) ?_
  refine pX12_404 rfl dX12_begin_37 (isM_0 hM) (by first | exact Or.inl rfl | exact Or.inr rfl | assumption) ?_
  exact a_vret dX12_begin_40 (by exact ⟨rfl, FIN y1 r1 F1⟩)
set_option maxHeartbeats 8000000 in
set_option maxRecDepth 100000 in
theorem c_X12_keepText (hM : D 12 = true) (M : mK n B P x) (h0 : P.2.2.2.2.1 = 0) (tg : tG P.1) : aCt l mX12_keepText (d + 3) D [.ref bM] x (fun v y => v = none ∧ mR P.1 P.2.1 (zFirst P.1) y ∧ rNum (zFirst P.1) y ∧ rFl 5 y ∧ y.1 bM 78 = 0 ∧ y.1 bM 79 = -1 ∧ y.1 bM 83 = 0 ∧ y.1 bM 85 = 0 ∧ (∀ m j, (m = bM ∧ j ≤ 11) ∨ m < bM ∨ m = bM + 4 → y.1 m j = x.1 m j) ∧ (∀ m j, ¬ m = bM → y.2 m j = x.2 m j)) := by
  refine a_met (by decide) (Nat.le_of_ble_eq_true rfl) (fun v y q => Or.inr (Or.inr (Or.inr ⟨rfl, q.1⟩))) ?_
  obtain ⟨z0, hz0⟩ : ∃ z0, z0 = aWr (aWr (aWr (aWr (aWr (aWr x bM 12 (x.1 bM 18)) bM 13 (x.1 bM 19)) bM 14 (x.1 bM 20)) bM 15 (x.1 bM 21)) bM 16 (x.1 bM 22)) bM 17 (x.1 bM 23) := ⟨_, rfl⟩
  have zo : ∀ m j, ¬ (m = bM ∧ 12 ≤ j ∧ j ≤ 17) → z0.1 m j = x.1 m j := fun m j e => by rw [hz0, aWr_o _ _ (by omega), aWr_o _ _ (by omega), aWr_o _ _ (by omega), aWr_o _ _ (by omega), aWr_o _ _ (by omega), aWr_o _ _ (by omega)]
  have zc : ∀ j, j < 6 → z0.1 bM (12 + j) = x.1 bM (18 + j) := by
    intro j hj
    rw [hz0]
    rcases (by omega : j = 0 ∨ j = 1 ∨ j = 2 ∨ j = 3 ∨ j = 4 ∨ j = 5) with rfl | rfl | rfl | rfl | rfl | rfl <;> repeat (first | rw [aWr_s] | rw [aWr_j _ _ _ (by decide)])
  -- when all rows are copied
  have FIN : ∀ y : aS, kpR 49 z0 y → mKt x y := by
    intro y K
    refine ⟨fun j hj => by rw [K.2.1 _ _ (by omega)]; exact zc j hj, fun m j h1 h2 h3 => ?_⟩
    obtain ⟨c, rfl⟩ : ∃ c, m = bM + c := ⟨m - bM, by omega⟩
    rw [K.1 _ _ h1 (by omega) h3, show bM + c - bM = c by omega, shr_r x (by omega) rfl]
    exact zo _ _ (by omega)
  have fr49 : ∀ y : aS, kpR 49 z0 y → ∀ m j, (m = bM ∧ j ≤ 11) ∨ m < bM ∨ m = bM + 4 → y.1 m j = x.1 m j := fun y K m j h => by rw [K.2.1 _ _ (by omega), zo _ _ (by omega)]
  have fr2 : ∀ y : aS, kpR 49 z0 y → y.2 = x.2 := fun y K => by rw [K.2.2, hz0]; rfl
  have END : ∀ y : aS, kpR 49 z0 y → aV l mX12_keepText (d + 3) D none 269 [(0, .ref bM), (1, .int 3)] [] y (fun v y => v = none ∧ mR P.1 P.2.1 (zFirst P.1) y ∧ rNum (zFirst P.1) y ∧ rFl 5 y ∧ y.1 bM 78 = 0 ∧ y.1 bM 79 = -1 ∧ y.1 bM 83 = 0 ∧ y.1 bM 85 = 0 ∧ (∀ m j, (m = bM ∧ j ≤ 11) ∨ m < bM ∨ m = bM + 4 → y.1 m j = x.1 m j) ∧ (∀ m j, ¬ m = bM → y.2 m j = x.2 m j)) := by
    intro y K
    have kt := FIN y K
    have hT := rTM_kt M.2.2.1 kt (M.2.2.2.2 h0).1
    have hW := rWM_kt kt M h0
    refine a_aload_n (i := 0) dX12_keepText_269 rfl rfl ?_
    refine kgX12_280 rfl dX12_keepText_270 (Nat.le_of_ble_eq_true rfl) (isM_0 hM) (c_X12_begin hM tg.1 hT) ?_
    rintro v y2 ⟨rfl, g1, g2, g3, g4, g5, g6, g7, g8, g9⟩
    have s : ∀ m j, (bM + 26 ≤ m ∧ m ≤ bM + 48) ∨ (m = bM ∧ j ≤ 17) ∨ m < bM ∨ m = bM + 4 → y2.1 m j = y.1 m j := fun m j h => g8 m j (fun e => by unfold bgC mIn at e; omega)
    exact a_vret dX12_keepText_273 (by exact ⟨rfl, ⟨tg.1, zOk_first tg.1, rTM_sm hT s, rWM_sm hW s, g1⟩, g2, g3, g4, g5, g6, g7, fun m j h => (s m j (by omega)).trans (fr49 y K m j h), fun m j h => by rw [g9 m j (fun e => h e.1), fr2 y K]⟩)
  have L43 : ∀ F q, q + F = 3 → ∀ y0 y : aS, kpR 43 z0 y0 → (∀ j, j < q → y.1 (bM + 43) j = y0.1 (bM + 43) (3 + j)) → (∀ j, q ≤ j → y.1 (bM + 43) j = y0.1 (bM + 43) j) → (∀ m, m ≠ bM + 43 → y.1 m = y0.1 m) → y.2 = y0.2 → (∀ z, kpR 44 z0 z → aV l mX12_keepText (d + 3) D none 226 [(0, .ref bM), (1, .int 3)] [] z (fun v y => v = none ∧ mR P.1 P.2.1 (zFirst P.1) y ∧ rNum (zFirst P.1) y ∧ rFl 5 y ∧ y.1 bM 78 = 0 ∧ y.1 bM 79 = -1 ∧ y.1 bM 83 = 0 ∧ y.1 bM 85 = 0 ∧ (∀ m j, (m = bM ∧ j ≤ 11) ∨ m < bM ∨ m = bM + 4 → y.1 m j = x.1 m j) ∧ (∀ m j, ¬ m = bM → y.2 m j = x.2 m j))) → aV l mX12_keepText (d + 3) D none 201 [(0, .ref bM), (1, .int (nI q))] [] y (fun v y => v = none ∧ mR P.1 P.2.1 (zFirst P.1) y ∧ rNum (zFirst P.1) y ∧ rFl 5 y ∧ y.1 bM 78 = 0 ∧ y.1 bM 79 = -1 ∧ y.1 bM 83 = 0 ∧ y.1 bM 85 = 0 ∧ (∀ m j, (m = bM ∧ j ≤ 11) ∨ m < bM ∨ m = bM + 4 → y.1 m j = x.1 m j) ∧ (∀ m j, ¬ m = bM → y.2 m j = x.2 m j)) := by
    intro F
    induction F with
    | zero =>
      intro q hq y0 y K0 h1 h2 h3 h4 C
      have e : q = 3 := by omega
      subst e
      have X := C y (kp_s (c := 43) (h := 3) (by decide) rfl K0 ⟨h1, h2, h3, h4⟩)
      refine a_iload_n (i := 1) dX12_keepText_201 rfl rfl ?_
      refine a_iconst (v := 3) dX12_keepText_202 (by decide) ?_
      refine a_icmp_ge (tg := 226) dX12_keepText_203 (by decide) (fun c_203 => ?_) (fun c_203 => ?_)
      · exact a_loc _ rfl X
      · exact absurd (Int32.le_refl _) c_203
    | succ F ih =>
      intro q hq y0 y K0 h1 h2 h3 h4 C
      have v01 : y.1 (bM + 43) (3 + q) = 0 ∨ y.1 (bM + 43) (3 + q) = 1 := by
        rw [h2 _ (by omega), K0.2.1 _ _ (by omega), zo _ _ (by omega), ((M.2.2.2.2 h0).2.2.2.2 q (by omega)).1]
        exact bI_01 _
      have X := ih (q + 1) (by omega) y0 (aWr y (bM + 43) q (y.1 (bM + 43) (3 + q))) K0 (fun j hj => by
        by_cases e : j = q
        · subst e; rw [aWr_s]; exact h2 _ (by omega)
        · rw [aWr_j _ _ _ e]; exact h1 j (by omega)) (fun j hj => by rw [aWr_j _ _ _ (by omega)]; exact h2 j (by omega)) (fun m hm => by rw [aWr_n _ _ _ hm]; exact h3 m hm) h4 C
      refine a_iload_n (i := 1) dX12_keepText_201 rfl rfl ?_
      refine a_iconst (v := 3) dX12_keepText_202 (by decide) ?_
      refine a_icmp_ge (tg := 226) dX12_keepText_203 (by decide) (fun c_203 => ?_) (fun c_203 => ?_)
      · exact absurd c_203 (nI_ge (b := 3) (by omega) (by decide))
      · refine a_aload_n (i := 0) dX12_keepText_206 rfl rfl ?_
        refine gX12_75 rfl dX12_keepText_207 (isM_0 hM) ?_
        refine a_iload_n (i := 1) dX12_keepText_210 rfl rfl ?_
        refine a_aload_n (i := 0) dX12_keepText_211 rfl rfl ?_
        refine gX12_75 rfl dX12_keepText_212 (isM_0 hM) ?_
        refine a_iconst (v := 3) dX12_keepText_215 (by decide) ?_
        refine a_iload_n (i := 1) dX12_keepText_216 rfl rfl ?_
        refine a_iadd dX12_keepText_217 ?_
        refine a_zaldN dX12_keepText_218 (isM_43 hM) (by first | exact nI_add 3 _ | with_reducible exact rfl | with_reducible exact ix8 _ _ | with_reducible exact ix12 _ _ | exact rfl) (by omega) (by decide) ?_
        refine a_zastN dX12_keepText_219 (isM_43 hM) (by first | with_reducible exact rfl | with_reducible exact ix8 _ _ | with_reducible exact ix12 _ _ | exact rfl) (by omega) (by decide) (by exact v01) ?_
        refine a_iincK (i := 1) (u := 1) dX12_keepText_220 rfl (by decide) (by decide) ?_
        rw [nI_1]
        refine a_goto (tg := 201) dX12_keepText_223 (by decide) ?_
        exact a_loc _ rfl X
  have C2 : ∀ z, kpR 44 z0 z → aV l mX12_keepText (d + 3) D none 226 [(0, .ref bM), (1, .int 3)] [] z (fun v y => v = none ∧ mR P.1 P.2.1 (zFirst P.1) y ∧ rNum (zFirst P.1) y ∧ rFl 5 y ∧ y.1 bM 78 = 0 ∧ y.1 bM 79 = -1 ∧ y.1 bM 83 = 0 ∧ y.1 bM 85 = 0 ∧ (∀ m j, (m = bM ∧ j ≤ 11) ∨ m < bM ∨ m = bM + 4 → y.1 m j = x.1 m j) ∧ (∀ m j, ¬ m = bM → y.2 m j = x.2 m j)) := by
    intro z K44
    refine a_aload_n (i := 0) dX12_keepText_226 rfl rfl ?_
    refine gX12_78 rfl dX12_keepText_227 (isM_0 hM) ?_
    refine a_iconst (v := 3) dX12_keepText_230 (by decide) ?_
    refine kgX12_276 rfl dX12_keepText_231 (Nat.le_of_ble_eq_true rfl) (c_X12_copies (c := 3) (isM_44 hM) (by decide) (by decide)) ?_
    rintro v y44 ⟨rfl, Q44⟩
    have K45 := kp_s (c := 44) (by decide) (by decide) K44 Q44
    clear K44 Q44
    refine a_aload_n (i := 0) dX12_keepText_234 rfl rfl ?_
    refine gX12_81 rfl dX12_keepText_235 (isM_0 hM) ?_
    refine a_iconst (v := 3) dX12_keepText_238 (by decide) ?_
    refine kgX12_276 rfl dX12_keepText_239 (Nat.le_of_ble_eq_true rfl) (c_X12_copies (c := 3) (isM_45 hM) (by decide) (by decide)) ?_
    rintro v y45 ⟨rfl, Q45⟩
    have K46 := kp_s (c := 45) (by decide) (by decide) K45 Q45
    clear K45 Q45
    refine a_aload_n (i := 0) dX12_keepText_242 rfl rfl ?_
    refine gX12_84 rfl dX12_keepText_243 (isM_0 hM) ?_
    refine a_bipush (v := 64) dX12_keepText_246 (by decide) ?_
    refine kgX12_276 rfl dX12_keepText_248 (Nat.le_of_ble_eq_true rfl) (c_X12_copies (c := 64) (isM_46 hM) (by decide) (by decide)) ?_
    rintro v y46 ⟨rfl, Q46⟩
    have K47 := kp_s (c := 46) (by decide) (by decide) K46 Q46
    clear K46 Q46
    refine a_aload_n (i := 0) dX12_keepText_251 rfl rfl ?_
    refine gX12_87 rfl dX12_keepText_252 (isM_0 hM) ?_
    refine a_bipush (v := 64) dX12_keepText_255 (by decide) ?_
    refine kgX12_276 rfl dX12_keepText_257 (Nat.le_of_ble_eq_true rfl) (c_X12_copies (c := 64) (isM_47 hM) (by decide) (by decide)) ?_
    rintro v y47 ⟨rfl, Q47⟩
    have K48 := kp_s (c := 47) (by decide) (by decide) K47 Q47
    clear K47 Q47
    refine a_aload_n (i := 0) dX12_keepText_260 rfl rfl ?_
    refine gX12_90 rfl dX12_keepText_261 (isM_0 hM) ?_
    refine a_bipush (v := 64) dX12_keepText_264 (by decide) ?_
    refine kgX12_276 rfl dX12_keepText_266 (Nat.le_of_ble_eq_true rfl) (c_X12_copies (c := 64) (isM_48 hM) (by decide) (by decide)) ?_
    rintro v y48 ⟨rfl, Q48⟩
    have K49 := kp_s (c := 48) (by decide) (by decide) K48 Q48
    clear K48 Q48
    exact a_loc _ rfl (END y48 K49)
  have K26 : kpR 26 z0 z0 := kp_0
  refine a_aload_n (i := 0) dX12_keepText_0 rfl rfl ?_
  refine a_aload_n (i := 0) dX12_keepText_1 rfl rfl ?_
  refine gX12_237 rfl dX12_keepText_2 (isM_0 hM) ?_
  refine pX12_258 rfl dX12_keepText_5 (isM_0 hM) ?_
  refine a_aload_n (i := 0) dX12_keepText_8 rfl rfl ?_
  refine a_aload_n (i := 0) dX12_keepText_9 rfl rfl ?_
  refine gX12_240 rfl dX12_keepText_10 (isM_0 hM) ?_
  rw [aWr_j _ _ _ (by decide)]
  refine pX12_261 rfl dX12_keepText_13 (isM_0 hM) ?_
  refine a_aload_n (i := 0) dX12_keepText_16 rfl rfl ?_
  refine a_aload_n (i := 0) dX12_keepText_17 rfl rfl ?_
  refine gX12_243 rfl dX12_keepText_18 (isM_0 hM) ?_
  rw [aWr_j _ _ _ (by decide), aWr_j _ _ _ (by decide)]
  refine pX12_264 rfl dX12_keepText_21 (isM_0 hM) ?_
  refine a_aload_n (i := 0) dX12_keepText_24 rfl rfl ?_
  refine a_aload_n (i := 0) dX12_keepText_25 rfl rfl ?_
  refine gX12_246 rfl dX12_keepText_26 (isM_0 hM) ?_
  rw [aWr_j _ _ _ (by decide), aWr_j _ _ _ (by decide), aWr_j _ _ _ (by decide)]
  refine pX12_267 rfl dX12_keepText_29 (isM_0 hM) ?_
  refine a_aload_n (i := 0) dX12_keepText_32 rfl rfl ?_
  refine a_aload_n (i := 0) dX12_keepText_33 rfl rfl ?_
  refine gX12_249 rfl dX12_keepText_34 (isM_0 hM) ?_
  rw [aWr_j _ _ _ (by decide), aWr_j _ _ _ (by decide), aWr_j _ _ _ (by decide), aWr_j _ _ _ (by decide)]
  refine pX12_270 rfl dX12_keepText_37 (isM_0 hM) ?_
  refine a_aload_n (i := 0) dX12_keepText_40 rfl rfl ?_
  refine a_aload_n (i := 0) dX12_keepText_41 rfl rfl ?_
  refine gX12_252 rfl dX12_keepText_42 (isM_0 hM) ?_
  rw [aWr_j _ _ _ (by decide), aWr_j _ _ _ (by decide), aWr_j _ _ _ (by decide), aWr_j _ _ _ (by decide), aWr_j _ _ _ (by decide)]
  refine pX12_273 rfl dX12_keepText_45 (isM_0 hM) ?_
  rw [← hz0]
  refine a_aload_n (i := 0) dX12_keepText_48 rfl rfl ?_
  refine gX12_24 rfl dX12_keepText_49 (isM_0 hM) ?_
  refine a_iconst (v := 2) dX12_keepText_52 (by decide) ?_
  refine kgX12_276 rfl dX12_keepText_53 (Nat.le_of_ble_eq_true rfl) (c_X12_copies (c := 2) (isM_26 hM) (by decide) (by decide)) ?_
  rintro v y26 ⟨rfl, Q26⟩
  have K27 := kp_s (c := 26) (by decide) (by decide) K26 Q26
  clear K26 Q26
  refine a_aload_n (i := 0) dX12_keepText_56 rfl rfl ?_
  refine gX12_27 rfl dX12_keepText_57 (isM_0 hM) ?_
  refine a_bipush (v := 6) dX12_keepText_60 (by decide) ?_
  refine kgX12_276 rfl dX12_keepText_62 (Nat.le_of_ble_eq_true rfl) (c_X12_copies (c := 6) (isM_27 hM) (by decide) (by decide)) ?_
  rintro v y27 ⟨rfl, Q27⟩
  have K28 := kp_s (c := 27) (by decide) (by decide) K27 Q27
  clear K27 Q27
  refine a_aload_n (i := 0) dX12_keepText_65 rfl rfl ?_
  refine gX12_30 rfl dX12_keepText_66 (isM_0 hM) ?_
  refine a_bipush (v := 6) dX12_keepText_69 (by decide) ?_
  refine kgX12_276 rfl dX12_keepText_71 (Nat.le_of_ble_eq_true rfl) (c_X12_copies (c := 6) (isM_28 hM) (by decide) (by decide)) ?_
  rintro v y28 ⟨rfl, Q28⟩
  have K29 := kp_s (c := 28) (by decide) (by decide) K28 Q28
  clear K28 Q28
  refine a_aload_n (i := 0) dX12_keepText_74 rfl rfl ?_
  refine gX12_33 rfl dX12_keepText_75 (isM_0 hM) ?_
  refine a_bipush (v := 8) dX12_keepText_78 (by decide) ?_
  refine kgX12_276 rfl dX12_keepText_80 (Nat.le_of_ble_eq_true rfl) (c_X12_copies (c := 8) (isM_29 hM) (by decide) (by decide)) ?_
  rintro v y29 ⟨rfl, Q29⟩
  have K30 := kp_s (c := 29) (by decide) (by decide) K29 Q29
  clear K29 Q29
  refine a_aload_n (i := 0) dX12_keepText_83 rfl rfl ?_
  refine gX12_36 rfl dX12_keepText_84 (isM_0 hM) ?_
  refine a_bipush (v := 8) dX12_keepText_87 (by decide) ?_
  refine kgX12_276 rfl dX12_keepText_89 (Nat.le_of_ble_eq_true rfl) (c_X12_copies (c := 8) (isM_30 hM) (by decide) (by decide)) ?_
  rintro v y30 ⟨rfl, Q30⟩
  have K31 := kp_s (c := 30) (by decide) (by decide) K30 Q30
  clear K30 Q30
  refine a_aload_n (i := 0) dX12_keepText_92 rfl rfl ?_
  refine gX12_39 rfl dX12_keepText_93 (isM_0 hM) ?_
  refine a_bipush (v := 8) dX12_keepText_96 (by decide) ?_
  refine kgX12_276 rfl dX12_keepText_98 (Nat.le_of_ble_eq_true rfl) (c_X12_copies (c := 8) (isM_31 hM) (by decide) (by decide)) ?_
  rintro v y31 ⟨rfl, Q31⟩
  have K32 := kp_s (c := 31) (by decide) (by decide) K31 Q31
  clear K31 Q31
  refine a_aload_n (i := 0) dX12_keepText_101 rfl rfl ?_
  refine gX12_42 rfl dX12_keepText_102 (isM_0 hM) ?_
  refine a_bipush (v := 8) dX12_keepText_105 (by decide) ?_
  refine kgX12_276 rfl dX12_keepText_107 (Nat.le_of_ble_eq_true rfl) (c_X12_copies (c := 8) (isM_32 hM) (by decide) (by decide)) ?_
  rintro v y32 ⟨rfl, Q32⟩
  have K33 := kp_s (c := 32) (by decide) (by decide) K32 Q32
  clear K32 Q32
  refine a_aload_n (i := 0) dX12_keepText_110 rfl rfl ?_
  refine gX12_45 rfl dX12_keepText_111 (isM_0 hM) ?_
  refine a_bipush (v := 8) dX12_keepText_114 (by decide) ?_
  refine kgX12_276 rfl dX12_keepText_116 (Nat.le_of_ble_eq_true rfl) (c_X12_copies (c := 8) (isM_33 hM) (by decide) (by decide)) ?_
  rintro v y33 ⟨rfl, Q33⟩
  have K34 := kp_s (c := 33) (by decide) (by decide) K33 Q33
  clear K33 Q33
  refine a_aload_n (i := 0) dX12_keepText_119 rfl rfl ?_
  refine gX12_48 rfl dX12_keepText_120 (isM_0 hM) ?_
  refine a_bipush (v := 14) dX12_keepText_123 (by decide) ?_
  refine kgX12_276 rfl dX12_keepText_125 (Nat.le_of_ble_eq_true rfl) (c_X12_copies (c := 14) (isM_34 hM) (by decide) (by decide)) ?_
  rintro v y34 ⟨rfl, Q34⟩
  have K35 := kp_s (c := 34) (by decide) (by decide) K34 Q34
  clear K34 Q34
  refine a_aload_n (i := 0) dX12_keepText_128 rfl rfl ?_
  refine gX12_51 rfl dX12_keepText_129 (isM_0 hM) ?_
  refine a_bipush (v := 14) dX12_keepText_132 (by decide) ?_
  refine kgX12_276 rfl dX12_keepText_134 (Nat.le_of_ble_eq_true rfl) (c_X12_copies (c := 14) (isM_35 hM) (by decide) (by decide)) ?_
  rintro v y35 ⟨rfl, Q35⟩
  have K36 := kp_s (c := 35) (by decide) (by decide) K35 Q35
  clear K35 Q35
  refine a_aload_n (i := 0) dX12_keepText_137 rfl rfl ?_
  refine gX12_54 rfl dX12_keepText_138 (isM_0 hM) ?_
  refine a_bipush (v := 14) dX12_keepText_141 (by decide) ?_
  refine kgX12_276 rfl dX12_keepText_143 (Nat.le_of_ble_eq_true rfl) (c_X12_copies (c := 14) (isM_36 hM) (by decide) (by decide)) ?_
  rintro v y36 ⟨rfl, Q36⟩
  have K37 := kp_s (c := 36) (by decide) (by decide) K36 Q36
  clear K36 Q36
  refine a_aload_n (i := 0) dX12_keepText_146 rfl rfl ?_
  refine gX12_57 rfl dX12_keepText_147 (isM_0 hM) ?_
  refine a_bipush (v := 14) dX12_keepText_150 (by decide) ?_
  refine kgX12_276 rfl dX12_keepText_152 (Nat.le_of_ble_eq_true rfl) (c_X12_copies (c := 14) (isM_37 hM) (by decide) (by decide)) ?_
  rintro v y37 ⟨rfl, Q37⟩
  have K38 := kp_s (c := 37) (by decide) (by decide) K37 Q37
  clear K37 Q37
  refine a_aload_n (i := 0) dX12_keepText_155 rfl rfl ?_
  refine gX12_60 rfl dX12_keepText_156 (isM_0 hM) ?_
  refine a_bipush (v := 14) dX12_keepText_159 (by decide) ?_
  refine kgX12_276 rfl dX12_keepText_161 (Nat.le_of_ble_eq_true rfl) (c_X12_copies (c := 14) (isM_38 hM) (by decide) (by decide)) ?_
  rintro v y38 ⟨rfl, Q38⟩
  have K39 := kp_s (c := 38) (by decide) (by decide) K38 Q38
  clear K38 Q38
  refine a_aload_n (i := 0) dX12_keepText_164 rfl rfl ?_
  refine gX12_63 rfl dX12_keepText_165 (isM_0 hM) ?_
  refine a_bipush (v := 6) dX12_keepText_168 (by decide) ?_
  refine kgX12_276 rfl dX12_keepText_170 (Nat.le_of_ble_eq_true rfl) (c_X12_copies (c := 6) (isM_39 hM) (by decide) (by decide)) ?_
  rintro v y39 ⟨rfl, Q39⟩
  have K40 := kp_s (c := 39) (by decide) (by decide) K39 Q39
  clear K39 Q39
  refine a_aload_n (i := 0) dX12_keepText_173 rfl rfl ?_
  refine gX12_66 rfl dX12_keepText_174 (isM_0 hM) ?_
  refine a_bipush (v := 6) dX12_keepText_177 (by decide) ?_
  refine kgX12_276 rfl dX12_keepText_179 (Nat.le_of_ble_eq_true rfl) (c_X12_copies (c := 6) (isM_40 hM) (by decide) (by decide)) ?_
  rintro v y40 ⟨rfl, Q40⟩
  have K41 := kp_s (c := 40) (by decide) (by decide) K40 Q40
  clear K40 Q40
  refine a_aload_n (i := 0) dX12_keepText_182 rfl rfl ?_
  refine gX12_69 rfl dX12_keepText_183 (isM_0 hM) ?_
  refine a_bipush (v := 6) dX12_keepText_186 (by decide) ?_
  refine kgX12_276 rfl dX12_keepText_188 (Nat.le_of_ble_eq_true rfl) (c_X12_copies (c := 6) (isM_41 hM) (by decide) (by decide)) ?_
  rintro v y41 ⟨rfl, Q41⟩
  have K42 := kp_s (c := 41) (by decide) (by decide) K41 Q41
  clear K41 Q41
  refine a_aload_n (i := 0) dX12_keepText_191 rfl rfl ?_
  refine gX12_72 rfl dX12_keepText_192 (isM_0 hM) ?_
  refine a_iconst (v := 4) dX12_keepText_195 (by decide) ?_
  refine kgX12_276 rfl dX12_keepText_196 (Nat.le_of_ble_eq_true rfl) (c_X12_copies (c := 4) (isM_42 hM) (by decide) (by decide)) ?_
  rintro v y42 ⟨rfl, Q42⟩
  have K43 := kp_s (c := 42) (by decide) (by decide) K42 Q42
  clear K42 Q42
  refine a_iconst (v := 0) dX12_keepText_199 (by decide) ?_
  refine a_istore_n (i := 1) dX12_keepText_200 rfl (by decide) ?_
  exact a_loc _ rfl (L43 3 0 rfl y42 y42 K43 (fun j hj => absurd hj (Nat.not_lt_zero j)) (fun _ _ => rfl) (fun _ _ => rfl) rfl C2)
end qBK
