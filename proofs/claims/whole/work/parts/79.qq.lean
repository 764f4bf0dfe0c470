/-! keep, back -/
/-- the model's image -/
def rIM (T : zT) (Z : zS) (x : aS) : Prop := snap T Z x (bM + 87) 0 ∧ (∀ h, h < T.1 0 → ∀ z, z < 8 → x.1 (bM + 88) (8 * h + z) = Z.1 1 (h * 8 + z)) ∧ (∀ m, m < T.1 1 → x.1 (bM + 88) (48 + m) = Z.1 3 m ∧ x.1 (bM + 88) (56 + m) = Z.1 4 m ∧ x.1 (bM + 89) m = if (Z.2 0 0).testBit m then 1 else 0) ∧ x.1 (bM + 88) 64 = Z.1 0 1 ∧ x.1 (bM + 88) 65 = Z.1 0 0 ∧ ∃ a, a < 2 ^ 31 ∧ Z.1 0 2 = nI a ∧ x.2 bM 89 = lN a
def cKp (x y : aS) : Prop := (∀ n j, n / 256 ≠ 6 → ¬ (n = bLH ∧ j = 5) → y.1 n j = x.1 n j) ∧ ∀ n, n / 256 ≠ 6 → y.2 n = x.2 n
def cBk (x y : aS) : Prop := ∀ n, n / 256 ≠ 5 → n ≠ bDn → y.1 n = x.1 n ∧ y.2 n = x.2 n
def mKp (x y : aS) : Prop := (∀ n j, ¬ (n = bM ∧ (j = 2 ∨ j = 85)) → ¬ n = bM + 87 → ¬ n = bM + 88 → ¬ n = bM + 89 → y.1 n j = x.1 n j) ∧ ∀ n j, ¬ (n = bM ∧ j = 89) → y.2 n j = x.2 n j
def mBk (x y : aS) : Prop := (∀ n j, ¬ (n = bM ∧ (j = 2 ∨ j = 83)) → ¬ mIn 0 n j → y.1 n j = x.1 n j) ∧ ∀ n j, ¬ (n = bM ∧ j = 69) → y.2 n j = x.2 n j
theorem mTk_o {x y : aS} {n c m j : Nat} (h : mTk (tf 72 72 6 8) x n c y) (g : ¬ mIn 0 m j) : y.1 m j = x.1 m j := by
  rw [h.2, if_neg]
  intro q
  refine g ?_
  unfold mIn
  by_cases e1 : m = bM + 61
  · subst e1; rw [show tf 72 72 6 8 (bM + 61) = 72 from rfl] at q; omega
  by_cases e2 : m = bM + 62
  · subst e2; rw [show tf 72 72 6 8 (bM + 62) = 72 from rfl] at q; omega
  by_cases e3 : m = bM + 63
  · subst e3; rw [show tf 72 72 6 8 (bM + 63) = 6 from rfl] at q; omega
  by_cases e4 : m = bM + 64
  · subst e4; rw [show tf 72 72 6 8 (bM + 64) = 8 from rfl] at q; omega
  rw [tf_o e1 e2 e3 e4] at q
  omega
section qQ
variable {l : Launch} {d : Nat} {D : Nat → Bool} {T : zT} {W : Nat → zL} {Z Y : zS} {t : Nat} {x : aS} {u : zU}
set_option maxHeartbeats 4000000 in
set_option maxRecDepth 100000 in
theorem c_X11_keep (hD : aDC D) (h : cR T W Z x t) : aCt l mX11_keep (d + 2) D [.ref bLH] x (fun v y => v = some (.int (Z.1 0 0)) ∧ rS T Z y bIm ∧ y.1 bLH 5 = 1 ∧ cKp x y) := by
  obtain ⟨ht, hp, ok, hZ, hT, hW, hS⟩ := h
  refine a_met (by decide) (Nat.le_of_ble_eq_true rfl) (fun v y q => Or.inl ⟨rfl, _, q.1⟩) ?_
  have F1 := aFy_copy (x := x) hbIm hbNow (show bNow ≠ bIm by decide)
  have S1 : rS T Z (sCopy x bIm bNow) bIm := rS_copy hbIm hbNow (by decide) ok hZ hS
  have F0 := sCopy_at (x := x) hbIm hbNow (show bNow ≠ bIm by decide)
  have S2 : rS T Z (aWr (sCopy x bIm bNow) bLH 5 1) bIm := rS_same (fun k hk => aWr_n _ _ _ (by unfold bIm bLH; omega)) S1
  have e0 : (aWr (sCopy x bIm bNow) bLH 5 1).1 bNow 0 = Z.1 0 0 := by
    rw [aWr_n _ _ _ (by decide)]
    have := hS.1 0 (by decide)
    rw [← this]
    exact congrFun (F1 bNow (by decide) (by decide)).1 0
  obtain ⟨_, _, _, _, _, c6, c7⟩ := F0
  have F2 : cKp x (aWr (sCopy x bIm bNow) bLH 5 1) := ⟨fun n j a b => by rw [aWr_o _ _ b, c6 n (by show n < 1536 ∨ 1536 + 256 ≤ n; omega)], fun n a => by show (sCopy x bIm bNow).2 n = _; rw [c7]⟩
  refine a_aload_n (i := 0) dX11_keep_0 rfl rfl ?_
  refine gX11_34 rfl dX11_keep_1 (isLH_0 hD) ?_
  refine a_aload_n (i := 0) dX11_keep_4 rfl rfl ?_
  refine gX11_30 rfl dX11_keep_5 (isLH_0 hD) ?_
  refine kX11_268 rfl dX11_keep_8 (Nat.le_of_ble_eq_true rfl) (isS_0 hD hbIm) (c_X6_copyFrom hD hbIm hbNow (by decide)) ?_
  refine a_aload_n (i := 0) dX11_keep_11 rfl rfl ?_
  refine a_iconst (v := 1) dX11_keep_12 (by decide) ?_
  refine pX11_95 rfl dX11_keep_13 (isLH_0 hD) (by first | exact Or.inl rfl | exact Or.inr rfl | assumption) ?_
  refine a_aload_n (i := 0) dX11_keep_16 rfl rfl ?_
  refine gX11_30 rfl dX11_keep_17 (isLH_0 hD) ?_
  refine gX11_221 rfl dX11_keep_20 (isS_0 hD hbNow) ?_
  rw [e0]
  exact a_iret dX11_keep_23 (by exact ⟨rfl, S2, aWr_s _ _ _ _, F2⟩)
set_option maxHeartbeats 4000000 in
set_option maxRecDepth 100000 in
theorem c_X11_back {k : Bool} (hD : aDC D) (h : cR T W Z x t) (hk : x.1 bLH 5 = bI k) (hI : k = true → zOk T Y ∧ rS T Y x bIm) : aCt l mX11_back (d + 2) D [.ref bLH] x (fun v y => (k = false → v = some (.int (-1)) ∧ y = x) ∧ (k = true → v = some (.int (Y.1 0 0)) ∧ cR T W Y y t ∧ y.1 bDn 0 = 0 ∧ cBk x y)) := by
  have hh := h
  obtain ⟨ht, hp, ok, hZ, hT, hW, hS⟩ := h
  refine a_met (by decide) (Nat.le_of_ble_eq_true rfl) (fun v' y q => Or.inl ⟨rfl, by cases k; exact ⟨_, (q.1 rfl).1⟩; exact ⟨_, (q.2 rfl).1⟩⟩) ?_
  cases k with
  | false =>
    refine a_aload_n (i := 0) dX11_back_0 rfl rfl ?_
    refine gX11_95 rfl dX11_back_1 (isLH_0 hD) ?_
    rw [hk]
    refine a_if_ne (tg := 9) dX11_back_4 (by decide) (fun c_4 => ?_) (fun c_4 => ?_)
    · exact absurd rfl c_4
    · refine a_iconst (v := (-1)) dX11_back_7 (by decide) ?_
      exact a_iret dX11_back_8 (by exact ⟨fun _ => ⟨rfl, rfl⟩, fun g => absurd g (by decide)⟩)
  | true =>
    obtain ⟨hY, hSI⟩ := hI rfl
    have F1 := aFy_copy (x := x) hbNow hbIm (show bIm ≠ bNow by decide)
    have S1 : rS T Y (sCopy x bNow bIm) bNow := rS_copy hbNow hbIm (by decide) ok hY hSI
    obtain ⟨_, _, _, _, _, c6, c7⟩ := sCopy_at (x := x) hbNow hbIm (show bIm ≠ bNow by decide)
    have R1 := cR_n hh F1 hY S1
    have R2 : cR T W Y (aWr (sCopy x bNow bIm) bDn 0 0) t := cR_o (fun n g => aWr_n _ _ _ (fun e => by subst e; exact absurd g (by decide))) R1
    have e0 : (aWr (sCopy x bNow bIm) bDn 0 0).1 bNow 0 = Y.1 0 0 := by
      rw [aWr_n _ _ _ (by decide)]
      exact S1.1 0 (by decide)
    have F2 : cBk x (aWr (sCopy x bNow bIm) bDn 0 0) := fun n a b => ⟨by rw [aWr_n _ _ _ b, c6 n (by show n < 1280 ∨ 1280 + 256 ≤ n; omega)], by show (sCopy x bNow bIm).2 n = _; rw [c7]⟩
    refine a_aload_n (i := 0) dX11_back_0 rfl rfl ?_
    refine gX11_95 rfl dX11_back_1 (isLH_0 hD) ?_
    rw [hk]
    refine a_if_ne (tg := 9) dX11_back_4 (by decide) (fun c_4 => ?_) (fun c_4 => ?_)
    · refine a_aload_n (i := 0) dX11_back_9 rfl rfl ?_
      refine gX11_30 rfl dX11_back_10 (isLH_0 hD) ?_
      refine a_aload_n (i := 0) dX11_back_13 rfl rfl ?_
      refine gX11_34 rfl dX11_back_14 (isLH_0 hD) ?_
      refine kX11_268 rfl dX11_back_17 (Nat.le_of_ble_eq_true rfl) (isS_0 hD hbNow) (c_X6_copyFrom hD hbNow hbIm (by decide)) ?_
      refine a_aload_n (i := 0) dX11_back_20 rfl rfl ?_
      refine gX11_57 rfl dX11_back_21 (isLH_0 hD) ?_
      refine a_iconst (v := 0) dX11_back_24 (by decide) ?_
      refine pX11_94 rfl dX11_back_25 (isDn_0 hD) ?_
      refine a_aload_n (i := 0) dX11_back_28 rfl rfl ?_
      refine gX11_30 rfl dX11_back_29 (isLH_0 hD) ?_
      refine gX11_221 rfl dX11_back_32 (isS_0 hD hbNow) ?_
      rw [e0]
      exact a_iret dX11_back_35 (by exact ⟨fun g => absurd g (by decide), fun _ => ⟨rfl, R2, aWr_s _ _ _ _, F2⟩⟩)
    · exact absurd c_4 (by decide)
theorem nb_tb {b : Bool} : nb (if b = true then 1 else 0) = if b = true then 1 else 0 := by cases b <;> rfl
set_option maxHeartbeats 4000000 in
set_option maxRecDepth 100000 in
theorem c_X12_keep (hM : D 12 = true) (h : mQ T W Z x) : aCt l mX12_keep (d + 1) D [.ref bM] x (fun v y => v = some (.int (Z.1 0 0)) ∧ mQ T W Z y ∧ rIM T Z y ∧ y.1 bM 85 = 1 ∧ mKp x y) := by
  have hq := mQ_0 h
  refine a_met (by decide) (Nat.le_of_ble_eq_true rfl) (fun v y q => Or.inl ⟨rfl, _, q.1⟩) ?_
  obtain ⟨X, hX⟩ : ∃ X, X = aWr (aWr x bM 2 0) bM 85 1 := ⟨_, rfl⟩
  have hXo : ∀ n j, ¬ (n = bM ∧ (j = 2 ∨ j = 85)) → X.1 n j = x.1 n j := fun n j g => by rw [hX, aWr_o _ _ (fun e => g ⟨e.1, Or.inr e.2⟩), aWr_o _ _ (fun e => g ⟨e.1, Or.inl e.2⟩)]
  have hX2 : X.2 = x.2 := by rw [hX]; rfl
  have hXQ : mQ T W Z X := mQ_o (fun n j g => hXo n j (by unfold mKq mIn at g; omega)) (by rw [hX2]) h
  have hX85 : X.1 bM 85 = 1 := by rw [hX, aWr_s]
  obtain ⟨ok, hZ, hT, hW, hS⟩ := hXQ.1
  have h6 := ok.1
  have h8 := ok.2.1
  have E : ∀ w, mPw 72 158 X (bM + 87) 0 w → ∀ y : aS, y.2 = w.2 → (∀ n, n ≠ bM + 88 → n ≠ bM + 89 → y.1 n = w.1 n) → (∀ j, j < 48 → y.1 (bM + 88) j = w.1 (bM + 60) j) → (∀ m, m < 8 → y.1 (bM + 88) (48 + m) = w.1 (bM + 65) m ∧ y.1 (bM + 88) (56 + m) = w.1 (bM + 66) m ∧ y.1 (bM + 89) m = nb (w.1 (bM + 67) m)) → aV l mX12_keep (d + 1) D none 101 [(0, .ref bM)] [] y (fun v y => v = some (.int (Z.1 0 0)) ∧ mQ T W Z y ∧ rIM T Z y ∧ y.1 bM 85 = 1 ∧ mKp x y) := by
    intro w hw y y2 yo y48 ym
    obtain ⟨R, hR⟩ : ∃ R, R = aWl (aWr (aWr y (bM + 88) 64 (Z.1 0 1)) (bM + 88) 65 (Z.1 0 0)) bM 89 (X.2 bM 69) := ⟨_, rfl⟩
    have r1 : ∀ n j, ¬ (n = bM + 88 ∧ (j = 64 ∨ j = 65)) → R.1 n j = y.1 n j := fun n j g => by rw [hR, aWl_1, aWr_o _ _ (fun e => g ⟨e.1, Or.inr e.2⟩), aWr_o _ _ (fun e => g ⟨e.1, Or.inl e.2⟩)]
    have rw0 : ∀ n j, n ≠ bM + 87 → n ≠ bM + 88 → n ≠ bM + 89 → R.1 n j = X.1 n j := fun n j a b c => by rw [r1 n j (fun e => b e.1), yo n b c, hw.2.1 n a]
    have R2 : ∀ n j, ¬ (n = bM ∧ j = 89) → R.2 n j = X.2 n j := fun n j g => by
      rw [hR]
      by_cases e : n = bM
      · subst e; rw [aWl_j _ _ _ (fun e => g ⟨rfl, e⟩)]; show y.2 bM j = _; rw [y2, hw.1]
      · rw [aWl_n _ _ _ e]; show y.2 n j = _; rw [y2, hw.1]
    have QR : mQ T W Z R := mQ_o (fun n j g => rw0 n j (by unfold mKq mIn at g; omega) (by unfold mKq mIn at g; omega) (by unfold mKq mIn at g; omega)) (R2 _ _ (by omega)) hXQ
    have sn : snap T Z R (bM + 87) 0 := by
      have := snap_put ok hZ hS hw
      have e : R.1 (bM + 87) = w.1 (bM + 87) := by funext j; rw [r1 _ _ (by omega), yo _ (by decide) (by decide)]
      unfold snap at this ⊢
      rw [e]
      exact this
    have IR : rIM T Z R := by
      refine ⟨sn, fun h hh z hz => ?_, fun m hm => ?_, ?_, ?_, ?_⟩
      · rw [r1 _ _ (by omega), y48 _ (by omega), hw.2.1 _ (by decide)]
        have := (hS.2.2.1 h hh).1 z hz
        rwa [Nat.mul_zero, Nat.zero_add] at this
      · obtain ⟨a, b, c⟩ := ym m (by omega)
        obtain ⟨_, g2, g3, g4⟩ := hS.2.2.2 m hm
        rw [Nat.mul_zero, Nat.zero_add] at g2 g3 g4
        rw [r1 _ _ (by omega), r1 _ _ (by omega), r1 _ _ (by omega), a, b, c, hw.2.1 _ (by decide), hw.2.1 _ (by decide), hw.2.1 _ (by decide), g2, g3, g4, nb_tb]
        exact ⟨rfl, rfl, rfl⟩
      · rw [hR, aWl_1, aWr_o _ _ (by omega), aWr_s]
      · rw [hR, aWl_1, aWr_s]
      · obtain ⟨a, a1, a2, a3⟩ := hXQ.2.2.1
        exact ⟨a, a1, a2, by rw [hR, aWl_s]; exact a3⟩
    have FR : mKp x R := ⟨fun n j a b c e => by rw [rw0 n j b c e, hXo n j a], fun n j g => by rw [R2 n j g, hX2]⟩
    have e85 : R.1 bM 85 = 1 := by rw [rw0 _ _ (by decide) (by decide) (by decide)]; exact hX85
    have f68 : y.1 (bM + 68) 0 = Z.1 0 1 := by rw [yo _ (by decide) (by decide), hw.2.1 _ (by decide)]; exact hS.2.1
    have f69 : (aWr y (bM + 88) 64 (Z.1 0 1)).1 (bM + 69) 0 = Z.1 0 0 := by rw [aWr_n _ _ _ (by decide), yo _ (by decide) (by decide), hw.2.1 _ (by decide)]; exact hS.1
    have f2 : (aWr (aWr y (bM + 88) 64 (Z.1 0 1)) (bM + 88) 65 (Z.1 0 0)).2 bM 69 = X.2 bM 69 := by show y.2 bM 69 = _; rw [y2, hw.1]
    have fe : R.1 (bM + 69) 0 = Z.1 0 0 := by rw [rw0 _ _ (by decide) (by decide) (by decide)]; exact hS.1
    refine a_aload_n (i := 0) dX12_keep_101 rfl rfl ?_
    refine gX12_163 rfl dX12_keep_102 (isM_0 hM) ?_
    refine a_bipush (v := 64) dX12_keep_105 (by decide) ?_
    refine a_aload_n (i := 0) dX12_keep_107 rfl rfl ?_
    refine gX12_130 rfl dX12_keep_108 (isM_0 hM) ?_
    refine a_iconst (v := 0) dX12_keep_111 (by decide) ?_
    refine a_ialdN dX12_keep_112 (isM_68 hM) (by first | exact (show (0 : Int32) = nI 0 from rfl) | with_reducible exact rfl | with_reducible exact ix8 _ _ | with_reducible exact ix12 _ _ | exact rfl) (by omega) (by decide) ?_
    rw [f68]
    refine a_iastN dX12_keep_113 (isM_88 hM) (by first | exact (show (64 : Int32) = nI 64 from rfl) | with_reducible exact rfl | with_reducible exact ix8 _ _ | with_reducible exact ix12 _ _ | exact rfl) (by omega) (by decide) ?_
    refine a_aload_n (i := 0) dX12_keep_114 rfl rfl ?_
    refine gX12_163 rfl dX12_keep_115 (isM_0 hM) ?_
    refine a_bipush (v := 65) dX12_keep_118 (by decide) ?_
    refine a_aload_n (i := 0) dX12_keep_120 rfl rfl ?_
    refine gX12_133 rfl dX12_keep_121 (isM_0 hM) ?_
    refine a_iconst (v := 0) dX12_keep_124 (by decide) ?_
    refine a_ialdN dX12_keep_125 (isM_69 hM) (by first | exact (show (0 : Int32) = nI 0 from rfl) | with_reducible exact rfl | with_reducible exact ix8 _ _ | with_reducible exact ix12 _ _ | exact rfl) (by omega) (by decide) ?_
    rw [f69]
    refine a_iastN dX12_keep_126 (isM_88 hM) (by first | exact (show (65 : Int32) = nI 65 from rfl) | with_reducible exact rfl | with_reducible exact ix8 _ _ | with_reducible exact ix12 _ _ | exact rfl) (by omega) (by decide) ?_
    refine a_aload_n (i := 0) dX12_keep_127 rfl rfl ?_
    refine a_aload_n (i := 0) dX12_keep_128 rfl rfl ?_
    refine gX12_391 rfl dX12_keep_129 (isM_0 hM) ?_
    rw [f2]
    refine pX12_577 rfl dX12_keep_132 (isM_0 hM) ?_
    rw [← hR]
    refine a_aload_n (i := 0) dX12_keep_135 rfl rfl ?_
    refine gX12_133 rfl dX12_keep_136 (isM_0 hM) ?_
    refine a_iconst (v := 0) dX12_keep_139 (by decide) ?_
    refine a_ialdN dX12_keep_140 (isM_69 hM) (by first | exact (show (0 : Int32) = nI 0 from rfl) | with_reducible exact rfl | with_reducible exact ix8 _ _ | with_reducible exact ix12 _ _ | exact rfl) (by omega) (by decide) ?_
    rw [fe]
    exact a_iret dX12_keep_141 (by exact ⟨rfl, QR, IR, e85, FR⟩)
  have L2 : ∀ w, mPw 72 158 X (bM + 87) 0 w → ∀ (f i : Nat), i + f = 8 → ∀ y : aS, y.2 = w.2 → (∀ n, n ≠ bM + 88 → n ≠ bM + 89 → y.1 n = w.1 n) → (∀ j, j < 48 → y.1 (bM + 88) j = w.1 (bM + 60) j) → (∀ m, m < i → y.1 (bM + 88) (48 + m) = w.1 (bM + 65) m ∧ y.1 (bM + 88) (56 + m) = w.1 (bM + 66) m ∧ y.1 (bM + 89) m = nb (w.1 (bM + 67) m)) → aV l mX12_keep (d + 1) D none 47 [(0, .ref bM), (1, .int (nI i))] [] y (fun v y => v = some (.int (Z.1 0 0)) ∧ mQ T W Z y ∧ rIM T Z y ∧ y.1 bM 85 = 1 ∧ mKp x y) := by
    intro w hw f
    induction f with
    | zero =>
      intro i hi y h1 h2 h3 h4
      rw [Nat.add_zero] at hi
      subst hi
      refine a_iload_n (i := 1) dX12_keep_47 rfl rfl ?_
      refine a_bipush (v := 8) dX12_keep_48 (by decide) ?_
      refine a_icmp_ge (tg := 101) dX12_keep_50 (by decide) (fun c_50 => ?_) (fun c_50 => ?_)
      · exact a_loc _ rfl (E w hw y h1 h2 h3 h4)
      · exact absurd (Int32.le_refl _) c_50
    | succ f ih =>
      intro i hi y h1 h2 h3 h4
      obtain ⟨y1, hy1⟩ : ∃ y1, y1 = aWr y (bM + 88) (48 + i) (w.1 (bM + 65) i) := ⟨_, rfl⟩
      obtain ⟨y2, hy2⟩ : ∃ y2, y2 = aWr y1 (bM + 88) (56 + i) (w.1 (bM + 66) i) := ⟨_, rfl⟩
      have e1 : y.1 (bM + 65) i = w.1 (bM + 65) i := by rw [h2 _ (by decide) (by decide)]
      have e2 : y1.1 (bM + 66) i = w.1 (bM + 66) i := by rw [hy1, aWr_n _ _ _ (by decide), h2 _ (by decide) (by decide)]
      have e3 : y2.1 (bM + 67) i = w.1 (bM + 67) i := by rw [hy2, aWr_n _ _ _ (by decide), hy1, aWr_n _ _ _ (by decide), h2 _ (by decide) (by decide)]
      have ih2 := ih (i + 1) (by omega) (aWr y2 (bM + 89) i (nb (w.1 (bM + 67) i))) (by show y2.2 = _; rw [hy2, hy1]; exact h1) (fun n a b => by rw [aWr_n _ _ _ b, hy2, aWr_n _ _ _ a, hy1, aWr_n _ _ _ a, h2 n a b]) (fun j hj => by rw [aWr_n _ _ _ (by decide), hy2, aWr_o _ _ (by omega), hy1, aWr_o _ _ (by omega), h3 j hj]) (fun m hm => by
        by_cases e : m = i
        · subst e
          refine ⟨?_, ?_, aWr_s _ _ _ _⟩
          · rw [aWr_n _ _ _ (by decide), hy2, aWr_o _ _ (by omega), hy1, aWr_s]
          · rw [aWr_n _ _ _ (by decide), hy2, aWr_s]
        · obtain ⟨a, b, c⟩ := h4 m (by omega)
          refine ⟨?_, ?_, ?_⟩
          · rw [aWr_n _ _ _ (by decide), hy2, aWr_o _ _ (by omega), hy1, aWr_o _ _ (by omega), a]
          · rw [aWr_n _ _ _ (by decide), hy2, aWr_o _ _ (by omega), hy1, aWr_o _ _ (by omega), b]
          · rw [aWr_j _ _ _ e, hy2, aWr_n _ _ _ (by decide), hy1, aWr_n _ _ _ (by decide), c])
      refine a_iload_n (i := 1) dX12_keep_47 rfl rfl ?_
      refine a_bipush (v := 8) dX12_keep_48 (by decide) ?_
      refine a_icmp_ge (tg := 101) dX12_keep_50 (by decide) (fun c_50 => ?_) (fun c_50 => ?_)
      · exact absurd c_50 (nI_ge (show i < 8 by omega) (by decide))
      · refine a_aload_n (i := 0) dX12_keep_53 rfl rfl ?_
        refine gX12_163 rfl dX12_keep_54 (isM_0 hM) ?_
        refine a_bipush (v := 48) dX12_keep_57 (by decide) ?_
        refine a_iload_n (i := 1) dX12_keep_59 rfl rfl ?_
        refine a_iadd dX12_keep_60 ?_
        refine a_aload_n (i := 0) dX12_keep_61 rfl rfl ?_
        refine gX12_121 rfl dX12_keep_62 (isM_0 hM) ?_
        refine a_iload_n (i := 1) dX12_keep_65 rfl rfl ?_
        refine a_ialdN dX12_keep_66 (isM_65 hM) (by first | with_reducible exact rfl | with_reducible exact ix8 _ _ | with_reducible exact ix12 _ _ | exact rfl) (by omega) (by decide) ?_
        rw [e1]
        refine a_iastN dX12_keep_67 (isM_88 hM) (by first | exact nI_add 48 i | with_reducible exact rfl | with_reducible exact ix8 _ _ | with_reducible exact ix12 _ _ | exact rfl) (by omega) (by decide) ?_
        rw [← hy1]
        refine a_aload_n (i := 0) dX12_keep_68 rfl rfl ?_
        refine gX12_163 rfl dX12_keep_69 (isM_0 hM) ?_
        refine a_bipush (v := 56) dX12_keep_72 (by decide) ?_
        refine a_iload_n (i := 1) dX12_keep_74 rfl rfl ?_
        refine a_iadd dX12_keep_75 ?_
        refine a_aload_n (i := 0) dX12_keep_76 rfl rfl ?_
        refine gX12_124 rfl dX12_keep_77 (isM_0 hM) ?_
        refine a_iload_n (i := 1) dX12_keep_80 rfl rfl ?_
        refine a_ialdN dX12_keep_81 (isM_66 hM) (by first | with_reducible exact rfl | with_reducible exact ix8 _ _ | with_reducible exact ix12 _ _ | exact rfl) (by omega) (by decide) ?_
        rw [e2]
        refine a_iastN dX12_keep_82 (isM_88 hM) (by first | exact nI_add 56 i | with_reducible exact rfl | with_reducible exact ix8 _ _ | with_reducible exact ix12 _ _ | exact rfl) (by omega) (by decide) ?_
        rw [← hy2]
        refine a_aload_n (i := 0) dX12_keep_83 rfl rfl ?_
        refine gX12_166 rfl dX12_keep_84 (isM_0 hM) ?_
        refine a_iload_n (i := 1) dX12_keep_87 rfl rfl ?_
        refine a_aload_n (i := 0) dX12_keep_88 rfl rfl ?_
        refine gX12_127 rfl dX12_keep_89 (isM_0 hM) ?_
        refine a_iload_n (i := 1) dX12_keep_92 rfl rfl ?_
        refine a_zaldN dX12_keep_93 (isM_67 hM) (by first | with_reducible exact rfl | with_reducible exact ix8 _ _ | with_reducible exact ix12 _ _ | exact rfl) (by omega) (by decide) ?_
        rw [e3]
        refine a_zastR dX12_keep_94 (isM_89 hM) (by first | with_reducible exact rfl | with_reducible exact ix8 _ _ | with_reducible exact ix12 _ _ | exact rfl) (by omega) (by decide) ?_
        refine a_iincK (i := 1) (u := 1) dX12_keep_95 rfl (by decide) (by decide) ?_
        refine a_goto (tg := 47) dX12_keep_98 (by decide) ?_
        rw [nI_1]; exact a_loc _ rfl ih2
  have L1 : ∀ w, mPw 72 158 X (bM + 87) 0 w → ∀ (f i : Nat), i + f = 48 → ∀ y : aS, y.2 = w.2 → (∀ n, n ≠ bM + 88 → y.1 n = w.1 n) → (∀ j, j < i → y.1 (bM + 88) j = w.1 (bM + 60) j) → aV l mX12_keep (d + 1) D none 21 [(0, .ref bM), (1, .int (nI i))] [] y (fun v y => v = some (.int (Z.1 0 0)) ∧ mQ T W Z y ∧ rIM T Z y ∧ y.1 bM 85 = 1 ∧ mKp x y) := by
    intro w hw f
    induction f with
    | zero =>
      intro i hi y h1 h2 h3
      rw [Nat.add_zero] at hi
      subst hi
      refine a_iload_n (i := 1) dX12_keep_21 rfl rfl ?_
      refine a_bipush (v := 48) dX12_keep_22 (by decide) ?_
      refine a_icmp_ge (tg := 45) dX12_keep_24 (by decide) (fun c_24 => ?_) (fun c_24 => ?_)
      · refine a_iconst (v := 0) dX12_keep_45 (by decide) ?_
        refine a_istore_n (i := 1) dX12_keep_46 rfl (by decide) ?_
        exact a_loc _ rfl (L2 w hw 8 0 rfl y h1 (fun n a _ => h2 n a) h3 (fun m hm => absurd hm (by omega)))
      · exact absurd (Int32.le_refl _) c_24
    | succ f ih =>
      intro i hi y h1 h2 h3
      have e1 : y.1 (bM + 60) i = w.1 (bM + 60) i := by rw [h2 _ (by decide)]
      have ih2 := ih (i + 1) (by omega) (aWr y (bM + 88) i (w.1 (bM + 60) i)) h1 (fun n a => by rw [aWr_n _ _ _ a, h2 n a]) (fun j hj => by
        by_cases e : j = i
        · subst e; rw [aWr_s]
        · rw [aWr_j _ _ _ e, h3 j (by omega)])
      refine a_iload_n (i := 1) dX12_keep_21 rfl rfl ?_
      refine a_bipush (v := 48) dX12_keep_22 (by decide) ?_
      refine a_icmp_ge (tg := 45) dX12_keep_24 (by decide) (fun c_24 => ?_) (fun c_24 => ?_)
      · exact absurd c_24 (nI_ge (show i < 48 by omega) (by decide))
      · refine a_aload_n (i := 0) dX12_keep_27 rfl rfl ?_
        refine gX12_163 rfl dX12_keep_28 (isM_0 hM) ?_
        refine a_iload_n (i := 1) dX12_keep_31 rfl rfl ?_
        refine a_aload_n (i := 0) dX12_keep_32 rfl rfl ?_
        refine gX12_106 rfl dX12_keep_33 (isM_0 hM) ?_
        refine a_iload_n (i := 1) dX12_keep_36 rfl rfl ?_
        refine a_ialdN dX12_keep_37 (isM_60 hM) (by first | with_reducible exact rfl | with_reducible exact ix8 _ _ | with_reducible exact ix12 _ _ | exact rfl) (by omega) (by decide) ?_
        rw [e1]
        refine a_iastN dX12_keep_38 (isM_88 hM) (by first | with_reducible exact rfl | with_reducible exact ix8 _ _ | with_reducible exact ix12 _ _ | exact rfl) (by omega) (by decide) ?_
        refine a_iincK (i := 1) (u := 1) dX12_keep_39 rfl (by decide) (by decide) ?_
        refine a_goto (tg := 21) dX12_keep_42 (by decide) ?_
        rw [nI_1]; exact a_loc _ rfl ih2
  refine a_aload_n (i := 0) dX12_keep_0 rfl rfl ?_
  refine a_iconst (v := 0) dX12_keep_1 (by decide) ?_
  refine pX12_175 rfl dX12_keep_2 (isM_0 hM) ?_
  refine a_aload_n (i := 0) dX12_keep_5 rfl rfl ?_
  refine a_iconst (v := 1) dX12_keep_6 (by decide) ?_
  refine pX12_404 rfl dX12_keep_7 (isM_0 hM) (by first | exact Or.inl rfl | exact Or.inr rfl | assumption) ?_
  rw [← hX]
  refine a_aload_n (i := 0) dX12_keep_10 rfl rfl ?_
  refine a_aload_n (i := 0) dX12_keep_11 rfl rfl ?_
  refine gX12_160 rfl dX12_keep_12 (isM_0 hM) ?_
  refine a_iconst (v := 0) dX12_keep_15 (by decide) ?_
  refine kgX12_571 rfl dX12_keep_16 (Nat.le_of_ble_eq_true rfl) (isM_0 hM) (c_X12_put (c := 0) hM (isM_87 hM) (by decide) (by decide) (by decide)) ?_
  rintro v w ⟨rfl, hw⟩
  refine a_iconst (v := 0) dX12_keep_19 (by decide) ?_
  refine a_istore_n (i := 1) dX12_keep_20 rfl (by decide) ?_
  exact a_loc _ rfl (L1 w hw 48 0 rfl w rfl (fun _ _ => rfl) (fun j hj => absurd hj (by omega)))
set_option maxHeartbeats 4000000 in
set_option maxRecDepth 100000 in
theorem c_X12_back {k : Bool} (hM : D 12 = true) (h : mQ T W Z x) (hk : x.1 bM 85 = bI k) (hI : k = true → zOk T Y ∧ zB T Y ∧ rIM T Y x) : aCt l mX12_back (d + 1) D [.ref bM] x (fun v y => (k = false → v = some (.int (-1)) ∧ y = aWr x bM 2 0) ∧ (k = true → v = some (.int (Y.1 0 0)) ∧ mQ T W Y y ∧ y.1 bM 83 = 0 ∧ mBk x y)) := by
  have hq := mQ_0 h
  have hX2 : (aWr x bM 2 0).2 = x.2 := rfl
  have hXo : ∀ n j, ¬ (n = bM ∧ j = 2) → (aWr x bM 2 0).1 n j = x.1 n j := fun n j g => aWr_o _ _ g
  refine a_met (by decide) (Nat.le_of_ble_eq_true rfl) (fun v' y q => Or.inl ⟨rfl, by cases k; exact ⟨_, (q.1 rfl).1⟩; exact ⟨_, (q.2 rfl).1⟩⟩) ?_
  refine a_aload_n (i := 0) dX12_back_0 rfl rfl ?_
  refine a_iconst (v := 0) dX12_back_1 (by decide) ?_
  refine pX12_175 rfl dX12_back_2 (isM_0 hM) ?_
  refine a_loc [(0, .ref bM)] rfl ?_
  generalize aWr x bM 2 0 = X at *
  have hk2 : X.1 bM 85 = bI k := by rw [hXo _ _ (by omega)]; exact hk
  obtain ⟨ok, hZ, hT, hW, hS⟩ := hq.1
  have h6 := ok.1
  have h8 := ok.2.1
  cases k with
  | false =>
    refine a_aload_n (i := 0) dX12_back_5 rfl rfl ?_
    refine gX12_404 rfl dX12_back_6 (isM_0 hM) ?_
    rw [hk2]
    refine a_if_ne (tg := 14) dX12_back_9 (by decide) (fun c_9 => ?_) (fun c_9 => ?_)
    · exact absurd rfl c_9
    · refine a_iconst (v := (-1)) dX12_back_12 (by decide) ?_
      exact a_iret dX12_back_13 (by exact ⟨fun _ => ⟨rfl, rfl⟩, fun g => absurd g (by decide)⟩)
  | true =>
    obtain ⟨hY, hB, sn, i1, i2, i3, i4, a, a1, a2, a3⟩ := hI rfl
    have G : ∀ (v : Option Value) (y : aS), (v = some (.int (Y.1 0 0)) ∧ mQ T W Y y ∧ y.1 bM 83 = 0 ∧ mBk x y) → ((true = false → v = some (.int (-1)) ∧ y = X) ∧ (true = true → v = some (.int (Y.1 0 0)) ∧ mQ T W Y y ∧ y.1 bM 83 = 0 ∧ mBk x y)) := fun v y g => ⟨fun c => absurd c (by decide), fun _ => g⟩
    have E : ∀ w, mTk (tf 72 72 6 8) X (bM + 87) 0 w → ∀ y : aS, y.2 = w.2 → (∀ n j, ¬ mIn 0 n j → y.1 n j = w.1 n j) → (∀ n, n ≠ bM + 60 → n ≠ bM + 65 → n ≠ bM + 66 → n ≠ bM + 67 → y.1 n = w.1 n) → (∀ j, j < 48 → y.1 (bM + 60) j = w.1 (bM + 88) j) → (∀ m, m < 8 → y.1 (bM + 65) m = w.1 (bM + 88) (48 + m) ∧ y.1 (bM + 66) m = w.1 (bM + 88) (56 + m) ∧ y.1 (bM + 67) m = nb (w.1 (bM + 89) m)) → aV l mX12_back (d + 1) D none 105 [(0, .ref bM)] [] y (fun v y => v = some (.int (Y.1 0 0)) ∧ mQ T W Y y ∧ y.1 bM 83 = 0 ∧ mBk x y) := by
      intro w hw y y2 yo yr y48 ym
      have wo : ∀ m, m ≠ bM + 61 → m ≠ bM + 62 → m ≠ bM + 63 → m ≠ bM + 64 → w.1 m = X.1 m := fun m b1 b2 b3 b4 => by funext j; rw [hw.2, tf_o b1 b2 b3 b4, if_neg (by omega)]
      have w88 : ∀ j, w.1 (bM + 88) j = x.1 (bM + 88) j := fun j => by rw [wo _ (by decide) (by decide) (by decide) (by decide), hXo _ _ (by omega)]
      have w89 : ∀ j, w.1 (bM + 89) j = x.1 (bM + 89) j := fun j => by rw [wo _ (by decide) (by decide) (by decide) (by decide), hXo _ _ (by omega)]
      have f64 : y.1 (bM + 88) 64 = Y.1 0 1 := by rw [yr _ (by decide) (by decide) (by decide) (by decide), w88]; exact i3
      have f65 : (aWr y (bM + 68) 0 (Y.1 0 1)).1 (bM + 88) 65 = Y.1 0 0 := by rw [aWr_n _ _ _ (by decide), yr _ (by decide) (by decide) (by decide) (by decide), w88]; exact i4
      have f89 : (aWr (aWr y (bM + 68) 0 (Y.1 0 1)) (bM + 69) 0 (Y.1 0 0)).2 bM 89 = lN a := by show y.2 bM 89 = _; rw [y2, hw.1, hX2]; exact a3
      obtain ⟨R, hR⟩ : ∃ R, R = aWr (aWl (aWr (aWr y (bM + 68) 0 (Y.1 0 1)) (bM + 69) 0 (Y.1 0 0)) bM 69 (lN a)) bM 83 0 := ⟨_, rfl⟩
      have r1 : ∀ n j, n ≠ bM + 68 → n ≠ bM + 69 → ¬ (n = bM ∧ j = 83) → R.1 n j = y.1 n j := fun n j b c e => by rw [hR, aWr_o _ _ e, aWl_1, aWr_n _ _ _ c, aWr_n _ _ _ b]
      have snX : snap T Y X (bM + 87) 0 := by
        have e : X.1 (bM + 87) = x.1 (bM + 87) := by funext j; exact hXo _ _ (by omega)
        unfold snap at sn ⊢
        rw [e]
        exact sn
      have S3 : rM T (zTk Z Y) w 0 := rM_take ok hY snX hS hw
      have SR : rM T Y R 0 := by
        obtain ⟨_, _, s3, s4⟩ := S3
        refine ⟨?_, ?_, fun g hg => ⟨fun z hz => ?_, ?_, fun q hq => ?_⟩, fun m hm => ?_⟩
        · rw [hR, aWr_n _ _ _ (by decide), aWl_1, aWr_s]
        · rw [hR, aWr_n _ _ _ (by decide), aWl_1, aWr_n _ _ _ (by decide), aWr_s]
        · rw [r1 _ _ (by decide) (by decide) (by omega), Nat.mul_zero, Nat.zero_add, y48 _ (by omega), w88]
          exact i1 g hg z hz
        · rw [r1 _ _ (by decide) (by decide) (by omega), yr _ (by decide) (by decide) (by decide) (by decide), (s3 g hg).2.1]
          simp [zTk]
        · have := (s3 g hg).2.2 q (by simpa [zTk] using hq)
          rw [r1 _ _ (by decide) (by decide) (by omega), r1 _ _ (by decide) (by decide) (by omega), yr _ (by decide) (by decide) (by decide) (by decide), yr _ (by decide) (by decide) (by decide) (by decide), this.1, this.2]
          simp [zTk]
        · obtain ⟨m1, m2, m3⟩ := ym m (by omega)
          obtain ⟨j1, j2, j3⟩ := i2 m hm
          rw [r1 _ _ (by decide) (by decide) (by omega), r1 _ _ (by decide) (by decide) (by omega), r1 _ _ (by decide) (by decide) (by omega), r1 _ _ (by decide) (by decide) (by omega), yr (bM + 64) (by decide) (by decide) (by decide) (by decide), (s4 m hm).1, Nat.mul_zero, Nat.zero_add, m1, m2, m3, w88, w88, w89, j1, j2, j3, nb_tb]
          exact ⟨by simp [zTk], rfl, rfl, rfl⟩
      have FR : mBk X R := by
        refine ⟨fun n j b c => ?_, fun n j b => ?_⟩
        · have c2 : ¬ (n = bM + 68 ∧ j = 0) ∧ ¬ (n = bM + 69 ∧ j = 0) := by unfold mIn at c; omega
          rw [hR, aWr_o _ _ (fun e => b ⟨e.1, Or.inr e.2⟩), aWl_1, aWr_o _ _ c2.2, aWr_o _ _ c2.1, yo n j c]
          exact mTk_o hw c
        · rw [hR]
          by_cases e : n = bM
          · subst e; show (aWl _ bM 69 _).2 bM j = _; rw [aWl_j _ _ _ (fun e => b ⟨rfl, e⟩)]; show y.2 bM j = _; rw [y2, hw.1]
          · show (aWl _ bM 69 _).2 n j = _; rw [aWl_n _ _ _ e]; show y.2 n j = _; rw [y2, hw.1]
      have e69 : R.2 bM 69 = lN a := by rw [hR]; exact aWl_s (aWr (aWr y (bM + 68) 0 (Y.1 0 1)) (bM + 69) 0 (Y.1 0 0)) bM 69 (lN a)
      have QR : mQ T W Y R := by
        obtain ⟨_, _, _, f0, f1, f2, f3, f4⟩ := hq
        have ef : ∀ j, 70 ≤ j → j ≤ 74 → R.1 bM j = X.1 bM j := fun j g1 g2 => FR.1 _ _ (by omega) (by unfold mIn; omega)
        exact ⟨⟨ok, hY, rTM_o (fun n j g => FR.1 n j (by omega) (by unfold mIn; omega)) hT, rWM_o (fun n j g => FR.1 n j (by omega) (by unfold mIn; omega)) hW, SR⟩, hB, ⟨a, a1, a2, e69⟩, by rw [ef _ (by decide) (by decide)]; exact f0, by rw [ef _ (by decide) (by decide)]; exact f1, by rw [ef _ (by decide) (by decide)]; exact f2, by rw [ef _ (by decide) (by decide)]; exact f3, by rw [ef _ (by decide) (by decide)]; exact f4⟩
      have FX : mBk x R := ⟨fun n j b c => (FR.1 n j b c).trans (hXo n j (fun e => b ⟨e.1, Or.inl e.2⟩)), fun n j b => (FR.2 n j b).trans (by rw [hX2])⟩
      have e83 : R.1 bM 83 = 0 := by rw [hR, aWr_s]
      refine a_aload_n (i := 0) dX12_back_105 rfl rfl ?_
      refine gX12_130 rfl dX12_back_106 (isM_0 hM) ?_
      refine a_iconst (v := 0) dX12_back_109 (by decide) ?_
      refine a_aload_n (i := 0) dX12_back_110 rfl rfl ?_
      refine gX12_163 rfl dX12_back_111 (isM_0 hM) ?_
      refine a_bipush (v := 64) dX12_back_114 (by decide) ?_
      refine a_ialdN dX12_back_116 (isM_88 hM) (by first | exact (show (64 : Int32) = nI 64 from rfl) | with_reducible exact rfl | with_reducible exact ix8 _ _ | with_reducible exact ix12 _ _ | exact rfl) (by omega) (by decide) ?_
      rw [f64]
      refine a_iastN dX12_back_117 (isM_68 hM) (by first | exact (show (0 : Int32) = nI 0 from rfl) | with_reducible exact rfl | with_reducible exact ix8 _ _ | with_reducible exact ix12 _ _ | exact rfl) (by omega) (by decide) ?_
      refine a_aload_n (i := 0) dX12_back_118 rfl rfl ?_
      refine gX12_133 rfl dX12_back_119 (isM_0 hM) ?_
      refine a_iconst (v := 0) dX12_back_122 (by decide) ?_
      refine a_aload_n (i := 0) dX12_back_123 rfl rfl ?_
      refine gX12_163 rfl dX12_back_124 (isM_0 hM) ?_
      refine a_bipush (v := 65) dX12_back_127 (by decide) ?_
      refine a_ialdN dX12_back_129 (isM_88 hM) (by first | exact (show (65 : Int32) = nI 65 from rfl) | with_reducible exact rfl | with_reducible exact ix8 _ _ | with_reducible exact ix12 _ _ | exact rfl) (by omega) (by decide) ?_
      rw [f65]
      refine a_iastN dX12_back_130 (isM_69 hM) (by first | exact (show (0 : Int32) = nI 0 from rfl) | with_reducible exact rfl | with_reducible exact ix8 _ _ | with_reducible exact ix12 _ _ | exact rfl) (by omega) (by decide) ?_
      refine a_aload_n (i := 0) dX12_back_131 rfl rfl ?_
      refine a_aload_n (i := 0) dX12_back_132 rfl rfl ?_
      refine gX12_577 rfl dX12_back_133 (isM_0 hM) ?_
      rw [f89]
      refine pX12_391 rfl dX12_back_136 (isM_0 hM) ?_
      refine a_aload_n (i := 0) dX12_back_139 rfl rfl ?_
      refine a_iconst (v := 0) dX12_back_140 (by decide) ?_
      refine pX12_401 rfl dX12_back_141 (isM_0 hM) ?_
      rw [← hR]
      refine a_aload_n (i := 0) dX12_back_144 rfl rfl ?_
      refine gX12_133 rfl dX12_back_145 (isM_0 hM) ?_
      refine a_iconst (v := 0) dX12_back_148 (by decide) ?_
      refine a_ialdN dX12_back_149 (isM_69 hM) (by first | exact (show (0 : Int32) = nI 0 from rfl) | with_reducible exact rfl | with_reducible exact ix8 _ _ | with_reducible exact ix12 _ _ | exact rfl) (by omega) (by decide) ?_
      rw [SR.1]
      exact a_iret dX12_back_150 (by exact ⟨rfl, QR, e83, FX⟩)
    have L2 : ∀ w, mTk (tf 72 72 6 8) X (bM + 87) 0 w → ∀ (f i : Nat), i + f = 8 → ∀ y : aS, y.2 = w.2 → (∀ n j, ¬ mIn 0 n j → y.1 n j = w.1 n j) → (∀ n, n ≠ bM + 60 → n ≠ bM + 65 → n ≠ bM + 66 → n ≠ bM + 67 → y.1 n = w.1 n) → (∀ j, j < 48 → y.1 (bM + 60) j = w.1 (bM + 88) j) → (∀ m, m < i → y.1 (bM + 65) m = w.1 (bM + 88) (48 + m) ∧ y.1 (bM + 66) m = w.1 (bM + 88) (56 + m) ∧ y.1 (bM + 67) m = nb (w.1 (bM + 89) m)) → aV l mX12_back (d + 1) D none 51 [(0, .ref bM), (1, .int (nI i))] [] y (fun v y => v = some (.int (Y.1 0 0)) ∧ mQ T W Y y ∧ y.1 bM 83 = 0 ∧ mBk x y) := by
      intro w hw f
      induction f with
      | zero =>
        intro i hi y h1 h2 h3 h4 h5
        rw [Nat.add_zero] at hi
        subst hi
        refine a_iload_n (i := 1) dX12_back_51 rfl rfl ?_
        refine a_bipush (v := 8) dX12_back_52 (by decide) ?_
        refine a_icmp_ge (tg := 105) dX12_back_54 (by decide) (fun c_54 => ?_) (fun c_54 => ?_)
        · exact a_loc _ rfl (E w hw y h1 h2 h3 h4 h5)
        · exact absurd (Int32.le_refl _) c_54
      | succ f ih =>
        intro i hi y h1 h2 h3 h4 h5
        obtain ⟨y1, hy1⟩ : ∃ y1, y1 = aWr y (bM + 65) i (w.1 (bM + 88) (48 + i)) := ⟨_, rfl⟩
        obtain ⟨y2, hy2⟩ : ∃ y2, y2 = aWr y1 (bM + 66) i (w.1 (bM + 88) (56 + i)) := ⟨_, rfl⟩
        have e1 : y.1 (bM + 88) (48 + i) = w.1 (bM + 88) (48 + i) := by rw [h3 _ (by decide) (by decide) (by decide) (by decide)]
        have e2 : y1.1 (bM + 88) (56 + i) = w.1 (bM + 88) (56 + i) := by rw [hy1, aWr_n _ _ _ (by decide), h3 _ (by decide) (by decide) (by decide) (by decide)]
        have e3 : y2.1 (bM + 89) i = w.1 (bM + 89) i := by rw [hy2, aWr_n _ _ _ (by decide), hy1, aWr_n _ _ _ (by decide), h3 _ (by decide) (by decide) (by decide) (by decide)]
        have ih2 := ih (i + 1) (by omega) (aWr y2 (bM + 67) i (nb (w.1 (bM + 89) i))) (by show y2.2 = _; rw [hy2, hy1]; exact h1) (fun n j g => by rw [aWr_o _ _ (by unfold mIn at g; omega), hy2, aWr_o _ _ (by unfold mIn at g; omega), hy1, aWr_o _ _ (by unfold mIn at g; omega), h2 n j g]) (fun n a b c e => by rw [aWr_n _ _ _ e, hy2, aWr_n _ _ _ c, hy1, aWr_n _ _ _ b, h3 n a b c e]) (fun j hj => by rw [aWr_n _ _ _ (by decide), hy2, aWr_n _ _ _ (by decide), hy1, aWr_n _ _ _ (by decide), h4 j hj]) (fun m hm => by
          by_cases e : m = i
          · subst e
            refine ⟨?_, ?_, aWr_s _ _ _ _⟩
            · rw [aWr_n _ _ _ (by decide), hy2, aWr_n _ _ _ (by decide), hy1, aWr_s]
            · rw [aWr_n _ _ _ (by decide), hy2, aWr_s]
          · obtain ⟨a, b, c⟩ := h5 m (by omega)
            refine ⟨?_, ?_, ?_⟩
            · rw [aWr_n _ _ _ (by decide), hy2, aWr_n _ _ _ (by decide), hy1, aWr_j _ _ _ e, a]
            · rw [aWr_n _ _ _ (by decide), hy2, aWr_j _ _ _ e, hy1, aWr_n _ _ _ (by decide), b]
            · rw [aWr_j _ _ _ e, hy2, aWr_n _ _ _ (by decide), hy1, aWr_n _ _ _ (by decide), c])
        refine a_iload_n (i := 1) dX12_back_51 rfl rfl ?_
        refine a_bipush (v := 8) dX12_back_52 (by decide) ?_
        refine a_icmp_ge (tg := 105) dX12_back_54 (by decide) (fun c_54 => ?_) (fun c_54 => ?_)
        · exact absurd c_54 (nI_ge (show i < 8 by omega) (by decide))
        · refine a_aload_n (i := 0) dX12_back_57 rfl rfl ?_
          refine gX12_121 rfl dX12_back_58 (isM_0 hM) ?_
          refine a_iload_n (i := 1) dX12_back_61 rfl rfl ?_
          refine a_aload_n (i := 0) dX12_back_62 rfl rfl ?_
          refine gX12_163 rfl dX12_back_63 (isM_0 hM) ?_
          refine a_bipush (v := 48) dX12_back_66 (by decide) ?_
          refine a_iload_n (i := 1) dX12_back_68 rfl rfl ?_
          refine a_iadd dX12_back_69 ?_
          refine a_ialdN dX12_back_70 (isM_88 hM) (by first | exact nI_add 48 i | with_reducible exact rfl | with_reducible exact ix8 _ _ | with_reducible exact ix12 _ _ | exact rfl) (by omega) (by decide) ?_
          rw [e1]
          refine a_iastN dX12_back_71 (isM_65 hM) (by first | with_reducible exact rfl | with_reducible exact ix8 _ _ | with_reducible exact ix12 _ _ | exact rfl) (by omega) (by decide) ?_
          rw [← hy1]
          refine a_aload_n (i := 0) dX12_back_72 rfl rfl ?_
          refine gX12_124 rfl dX12_back_73 (isM_0 hM) ?_
          refine a_iload_n (i := 1) dX12_back_76 rfl rfl ?_
          refine a_aload_n (i := 0) dX12_back_77 rfl rfl ?_
          refine gX12_163 rfl dX12_back_78 (isM_0 hM) ?_
          refine a_bipush (v := 56) dX12_back_81 (by decide) ?_
          refine a_iload_n (i := 1) dX12_back_83 rfl rfl ?_
          refine a_iadd dX12_back_84 ?_
          refine a_ialdN dX12_back_85 (isM_88 hM) (by first | exact nI_add 56 i | with_reducible exact rfl | with_reducible exact ix8 _ _ | with_reducible exact ix12 _ _ | exact rfl) (by omega) (by decide) ?_
          rw [e2]
          refine a_iastN dX12_back_86 (isM_66 hM) (by first | with_reducible exact rfl | with_reducible exact ix8 _ _ | with_reducible exact ix12 _ _ | exact rfl) (by omega) (by decide) ?_
          rw [← hy2]
          refine a_aload_n (i := 0) dX12_back_87 rfl rfl ?_
          refine gX12_127 rfl dX12_back_88 (isM_0 hM) ?_
          refine a_iload_n (i := 1) dX12_back_91 rfl rfl ?_
          refine a_aload_n (i := 0) dX12_back_92 rfl rfl ?_
          refine gX12_166 rfl dX12_back_93 (isM_0 hM) ?_
          refine a_iload_n (i := 1) dX12_back_96 rfl rfl ?_
          refine a_zaldN dX12_back_97 (isM_89 hM) (by first | with_reducible exact rfl | with_reducible exact ix8 _ _ | with_reducible exact ix12 _ _ | exact rfl) (by omega) (by decide) ?_
          rw [e3]
          refine a_zastR dX12_back_98 (isM_67 hM) (by first | with_reducible exact rfl | with_reducible exact ix8 _ _ | with_reducible exact ix12 _ _ | exact rfl) (by omega) (by decide) ?_
          refine a_iincK (i := 1) (u := 1) dX12_back_99 rfl (by decide) (by decide) ?_
          refine a_goto (tg := 51) dX12_back_102 (by decide) ?_
          rw [nI_1]; exact a_loc _ rfl ih2
    have L1 : ∀ w, mTk (tf 72 72 6 8) X (bM + 87) 0 w → ∀ (f i : Nat), i + f = 48 → ∀ y : aS, y.2 = w.2 → (∀ n j, ¬ mIn 0 n j → y.1 n j = w.1 n j) → (∀ n, n ≠ bM + 60 → y.1 n = w.1 n) → (∀ j, j < i → y.1 (bM + 60) j = w.1 (bM + 88) j) → aV l mX12_back (d + 1) D none 25 [(0, .ref bM), (1, .int (nI i))] [] y (fun v y => v = some (.int (Y.1 0 0)) ∧ mQ T W Y y ∧ y.1 bM 83 = 0 ∧ mBk x y) := by
      intro w hw f
      induction f with
      | zero =>
        intro i hi y h1 h2 h3 h4
        rw [Nat.add_zero] at hi
        subst hi
        refine a_iload_n (i := 1) dX12_back_25 rfl rfl ?_
        refine a_bipush (v := 48) dX12_back_26 (by decide) ?_
        refine a_icmp_ge (tg := 49) dX12_back_28 (by decide) (fun c_28 => ?_) (fun c_28 => ?_)
        · refine a_iconst (v := 0) dX12_back_49 (by decide) ?_
          refine a_istore_n (i := 1) dX12_back_50 rfl (by decide) ?_
          exact a_loc _ rfl (L2 w hw 8 0 rfl y h1 h2 (fun n a _ _ _ => h3 n a) h4 (fun m hm => absurd hm (by omega)))
        · exact absurd (Int32.le_refl _) c_28
      | succ f ih =>
        intro i hi y h1 h2 h3 h4
        have e1 : y.1 (bM + 88) i = w.1 (bM + 88) i := by rw [h3 _ (by decide)]
        have ih2 := ih (i + 1) (by omega) (aWr y (bM + 60) i (w.1 (bM + 88) i)) h1 (fun n j g => by rw [aWr_o _ _ (by unfold mIn at g; omega), h2 n j g]) (fun n a => by rw [aWr_n _ _ _ a, h3 n a]) (fun j hj => by
          by_cases e : j = i
          · subst e; rw [aWr_s]
          · rw [aWr_j _ _ _ e, h4 j (by omega)])
        refine a_iload_n (i := 1) dX12_back_25 rfl rfl ?_
        refine a_bipush (v := 48) dX12_back_26 (by decide) ?_
        refine a_icmp_ge (tg := 49) dX12_back_28 (by decide) (fun c_28 => ?_) (fun c_28 => ?_)
        · exact absurd c_28 (nI_ge (show i < 48 by omega) (by decide))
        · refine a_aload_n (i := 0) dX12_back_31 rfl rfl ?_
          refine gX12_106 rfl dX12_back_32 (isM_0 hM) ?_
          refine a_iload_n (i := 1) dX12_back_35 rfl rfl ?_
          refine a_aload_n (i := 0) dX12_back_36 rfl rfl ?_
          refine gX12_163 rfl dX12_back_37 (isM_0 hM) ?_
          refine a_iload_n (i := 1) dX12_back_40 rfl rfl ?_
          refine a_ialdN dX12_back_41 (isM_88 hM) (by first | with_reducible exact rfl | with_reducible exact ix8 _ _ | with_reducible exact ix12 _ _ | exact rfl) (by omega) (by decide) ?_
          rw [e1]
          refine a_iastN dX12_back_42 (isM_60 hM) (by first | with_reducible exact rfl | with_reducible exact ix8 _ _ | with_reducible exact ix12 _ _ | exact rfl) (by omega) (by decide) ?_
          refine a_iincK (i := 1) (u := 1) dX12_back_43 rfl (by decide) (by decide) ?_
          refine a_goto (tg := 25) dX12_back_46 (by decide) ?_
          rw [nI_1]; exact a_loc _ rfl ih2
    refine a_aload_n (i := 0) dX12_back_5 rfl rfl ?_
    refine gX12_404 rfl dX12_back_6 (isM_0 hM) ?_
    rw [hk2]
    refine a_if_ne (tg := 14) dX12_back_9 (by decide) (fun c_9 => ?_) (fun c_9 => ?_)
    · refine a_aload_n (i := 0) dX12_back_14 rfl rfl ?_
      refine a_aload_n (i := 0) dX12_back_15 rfl rfl ?_
      refine gX12_160 rfl dX12_back_16 (isM_0 hM) ?_
      refine a_iconst (v := 0) dX12_back_19 (by decide) ?_
      refine kgX12_574 rfl dX12_back_20 (Nat.le_of_ble_eq_true rfl) (isM_0 hM) (c_X12_take (c := 0) hM (isM_87 hM) (by decide) (by decide) (by decide)) ?_
      rintro v w ⟨rfl, hw⟩
      refine a_iconst (v := 0) dX12_back_23 (by decide) ?_
      refine a_istore_n (i := 1) dX12_back_24 rfl (by decide) ?_
      exact a_loc _ rfl (a_wk (L1 w hw 48 0 rfl w rfl (fun _ _ _ => rfl) (fun _ _ => rfl) (fun j hj => absurd hj (by omega))) G)
    · exact absurd c_9 (by decide)
end qQ
