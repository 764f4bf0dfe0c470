/-! go -/
section qI
variable {l : Launch} {d : Nat} {D : Nat → Bool} {T : zT} {W : Nat → zL} {Z : zS} {t : Nat} {x : aS}
abbrev zGo (Z : zS) (n : Int32) : Prop := zIn 201 n ∧ Z.1 0 0 + n ≤ 9000
/-- frame of a call that changes now, the years' rows, and how many were done -/
def cGo (x y : aS) : Prop := ∀ n, n / 256 ≠ 5 → n / 256 ≠ 8 → n ≠ bDn → y.1 n = x.1 n ∧ y.2 n = x.2 n
theorem cR_n {Y : zS} {y : aS} (h : cR T W Z x t) (hF : aFy bNow x y) (hY : zOk T Y) (hS : rS T Y y bNow) : cR T W Y y t := by
  obtain ⟨ht, hp, ok, hT, hW⟩ := cT_y hbNow hF (cR_T h)
  exact ⟨ht, hp, ok, hY, hT, hW, hS⟩
theorem cR_o {y : aS} (hF : ∀ n, n / 256 = 0 ∨ n / 256 = 3 ∨ n / 256 = 4 ∨ n / 256 = 5 → y.1 n = x.1 n) (h : cR T W Z x t) : cR T W Z y t := by
  obtain ⟨ht, hp, ok, hZ, hT, hW, hS⟩ := h
  have et : ∀ k, k < 256 → y.1 (t + k) = x.1 (t + k) := fun k hk => hF _ (by rcases ht with rfl | rfl <;> omega)
  exact ⟨ht, by rw [hF bLH (by decide)]; exact hp, ok, hZ, rT_same et ok hT, rW_same et hW, rS_same (fun k hk => hF _ (by unfold bNow; omega)) hS⟩
theorem rTM_o {y : aS} (e : ∀ n j, (n = bM ∧ 12 ≤ j ∧ j ≤ 17) ∨ (bM + 26 ≤ n ∧ n ≤ bM + 42) → y.1 n j = x.1 n j) (h : rTM T x) : rTM T y := by
  obtain ⟨a1, a2, a3, a4, a5, a6, a7, a8, b1, b2, b3, b4, b5⟩ := h
  refine ⟨?_, ?_, ?_, ?_, ?_, ?_, ?_, ?_, fun h hh => ?_, fun m hm => ?_, fun k hk => ?_, fun k hk => ?_, fun k hk => ?_⟩
  · rw [e _ _ (by omega)]; exact a1
  · rw [e _ _ (by omega)]; exact a2
  · rw [e _ _ (by omega)]; exact a3
  · rw [e _ _ (by omega)]; exact a4
  · rw [e _ _ (by omega)]; exact a5
  · rw [e _ _ (by omega)]; exact a6
  · rw [e _ _ (by omega)]; exact a7
  · rw [e _ _ (by omega)]; exact a8
  · rw [e _ _ (by omega), e _ _ (by omega)]; exact b1 h hh
  · rw [e _ _ (by omega), e _ _ (by omega), e _ _ (by omega), e _ _ (by omega), e _ _ (by omega)]; exact b2 m hm
  · rw [e _ _ (by omega), e _ _ (by omega), e _ _ (by omega), e _ _ (by omega), e _ _ (by omega)]; exact b3 k hk
  · rw [e _ _ (by omega), e _ _ (by omega), e _ _ (by omega)]; exact b4 k hk
  · rw [e _ _ (by omega)]; exact b5 k hk
theorem rWM_o {y : aS} (e : ∀ n j, bM + 43 ≤ n ∧ n ≤ bM + 48 → y.1 n j = x.1 n j) (h : rWM W x) : rWM W y := rWM_same (fun n h1 h2 => by funext j; exact e n j ⟨h1, h2⟩) h
/-- places that hold text, laws, state and flags of the model -/
def mKq (n j : Nat) : Prop := (n = bM ∧ (12 ≤ j ∧ j ≤ 17 ∨ 70 ≤ j ∧ j ≤ 74)) ∨ (bM + 26 ≤ n ∧ n ≤ bM + 48) ∨ mIn 0 n j
theorem mQ_o {y : aS} (e : ∀ n j, mKq n j → y.1 n j = x.1 n j) (e2 : y.2 bM 69 = x.2 bM 69) (h : mQ T W Z x) : mQ T W Z y := by
  obtain ⟨⟨ok, hZ, hT, hW, hS⟩, hB, ⟨a, a1, a2, a3⟩, f0, f1, f2, f3, f4⟩ := h
  have ef : ∀ j, 70 ≤ j → j ≤ 74 → y.1 bM j = x.1 bM j := fun j h1 h2 => e _ _ (Or.inl ⟨rfl, Or.inr ⟨h1, h2⟩⟩)
  exact ⟨⟨ok, hZ, rTM_o (fun n j g => e n j (by unfold mKq; omega)) hT, rWM_o (fun n j g => e n j (by unfold mKq; omega)) hW, rM_same ok hZ (fun n j g => e n j (Or.inr (Or.inr g))) hS⟩, hB, ⟨a, a1, a2, by rw [e2]; exact a3⟩, by rw [ef _ (by decide) (by decide)]; exact f0, by rw [ef _ (by decide) (by decide)]; exact f1, by rw [ef _ (by decide) (by decide)]; exact f2, by rw [ef _ (by decide) (by decide)]; exact f3, by rw [ef _ (by decide) (by decide)]; exact f4⟩
set_option maxHeartbeats 4000000 in
set_option maxRecDepth 100000 in
theorem c_X11_go {n : Int32} (hD : aDC D) (h : cR T W Z x t) : aCt l mX11_go (d + 5) D [.ref bLH, .int n] x (fun v y => (¬ zGo Z n → v = some (.int (-1)) ∧ y = x) ∧ (zGo Z n → v = some (.int ((zYears T W 6 n.toNatClampNeg Z).1 0 0)) ∧ cR T W (zYears T W 6 n.toNatClampNeg Z) y t ∧ y.1 bDn 0 = (if 0 < n then 0 else x.1 bDn 0) ∧ cGo x y)) := by
  have hh := h
  obtain ⟨ht, hp, ok, hZ, hT, hW, hS⟩ := h
  have e0 : x.1 bNow 0 = Z.1 0 0 := hS.1 0 (by decide)
  refine a_met (by decide) (Nat.le_of_ble_eq_true rfl) (fun v y q => Or.inl ⟨rfl, by by_cases g : zGo Z n; exact ⟨_, (q.2 g).1⟩; exact ⟨_, (q.1 g).1⟩⟩) ?_
  by_cases q : zGo Z n
  · obtain ⟨q1, q2⟩ := q
    obtain ⟨N, hN, rfl⟩ := zIn_of (by decide) q1
    rw [nI_clamp (by omega)]
    have L : ∀ (k i : Nat), i + k = N → ∀ (Y : zS) (y : aS), zOk T Y → rS T Y y bNow → aFy bNow x y → aV l mX11_go (d + 5) D none 30 [(0, .ref bLH), (1, .int (nI N)), (2, .int (nI i))] [] y (fun v y => v = some (.int ((lp (fun _ Z => zYear T W 6 Z) i k Y).1 0 0)) ∧ cR T W (lp (fun _ Z => zYear T W 6 Z) i k Y) y t ∧ y.1 bDn 0 = (if 0 < nI N then 0 else x.1 bDn 0) ∧ cGo x y) := by
      intro k
      induction k with
      | zero =>
        intro i hi Y y hY hSy hF
        rw [Nat.add_zero] at hi
        subst hi
        have ey : y.1 bNow 0 = Y.1 0 0 := hSy.1 0 (by decide)
        have ed : y.1 bDn 0 = x.1 bDn 0 := by rw [(hF bDn (by decide) (by decide)).1]
        have hR := cR_n hh hF hY hSy
        refine a_iload_n (i := 2) dX11_go_30 rfl rfl ?_
        refine a_iload_n (i := 1) dX11_go_31 rfl rfl ?_
        refine a_icmp_ge (tg := 58) dX11_go_32 (by decide) (fun c_32 => ?_) (fun c_32 => ?_)
        · refine a_iload_n (i := 1) dX11_go_58 rfl rfl ?_
          refine a_if_le (tg := 70) dX11_go_59 (by decide) (fun c_59 => ?_) (fun c_59 => ?_)
          · rw [if_neg (Int32.not_lt.mpr c_59)]
            refine a_aload_n (i := 0) dX11_go_70 rfl rfl ?_
            refine gX11_30 rfl dX11_go_71 (isLH_0 hD) ?_
            refine gX11_221 rfl dX11_go_74 (isS_0 hD hbNow) ?_
            first | rw [ey] | rw [aWr_n _ _ _ (by decide), ey]
            exact a_iret dX11_go_77 (by first | exact ⟨rfl, hR, ed, fun n a b _ => hF n a b⟩ | exact ⟨rfl, cR_o (fun n g => aWr_n _ _ _ (fun e => by subst e; exact absurd g (by decide))) hR, aWr_s _ _ _ _, fun n a b c => ⟨(aWr_n _ _ _ c).trans (hF n a b).1, (hF n a b).2⟩⟩)
          · rw [if_pos (Int32.not_le.mp c_59)]
            refine a_aload_n (i := 0) dX11_go_62 rfl rfl ?_
            refine gX11_57 rfl dX11_go_63 (isLH_0 hD) ?_
            refine a_iconst (v := 0) dX11_go_66 (by decide) ?_
            refine pX11_94 rfl dX11_go_67 (isDn_0 hD) ?_
            refine a_aload_n (i := 0) dX11_go_70 rfl rfl ?_
            refine gX11_30 rfl dX11_go_71 (isLH_0 hD) ?_
            refine gX11_221 rfl dX11_go_74 (isS_0 hD hbNow) ?_
            first | rw [ey] | rw [aWr_n _ _ _ (by decide), ey]
            exact a_iret dX11_go_77 (by first | exact ⟨rfl, hR, ed, fun n a b _ => hF n a b⟩ | exact ⟨rfl, cR_o (fun n g => aWr_n _ _ _ (fun e => by subst e; exact absurd g (by decide))) hR, aWr_s _ _ _ _, fun n a b c => ⟨(aWr_n _ _ _ c).trans (hF n a b).1, (hF n a b).2⟩⟩)
        · exact absurd (Int32.le_refl _) c_32
      | succ k ih =>
        intro i hi Y y hY hSy hF
        obtain ⟨_, hpy, _, hTy, hWy⟩ := cT_y hbNow hF (cR_T hh)
        refine a_iload_n (i := 2) dX11_go_30 rfl rfl ?_
        refine a_iload_n (i := 1) dX11_go_31 rfl rfl ?_
        refine a_icmp_ge (tg := 58) dX11_go_32 (by decide) (fun c_32 => ?_) (fun c_32 => ?_)
        · exact absurd c_32 (nI_ge (show i < N by omega) (by omega))
        · refine a_aload_n (i := 0) dX11_go_35 rfl rfl ?_
          refine gX11_43 rfl dX11_go_36 (isLH_0 hD) ?_
          refine a_aload_n (i := 0) dX11_go_39 rfl rfl ?_
          refine gX11_23 rfl dX11_go_40 (isLH_0 hD) ?_
          rw [hpy]
          refine a_aload_n (i := 0) dX11_go_43 rfl rfl ?_
          refine gX11_30 rfl dX11_go_44 (isLH_0 hD) ?_
          refine a_bipush (v := 6) dX11_go_47 (by decide) ?_
          refine kgX11_272 rfl dX11_go_49 (Nat.le_of_ble_eq_true rfl) (isYr_0 hD) (c_X10_pass (way := 6) hD hbNow ht ok hY hTy hWy hSy (by decide)) ?_
          rintro v y1 ⟨rfl, hS1, hZ1, hF1⟩
          refine a_iincK (i := 2) (u := 1) dX11_go_52 rfl (by decide) (by decide) ?_
          refine a_goto (tg := 30) dX11_go_55 (by decide) ?_
          rw [nI_1]; exact a_loc _ rfl (ih (i + 1) (by omega) _ _ hZ1 hS1 (aFy_t hF hF1))
    have P : aV l mX11_go (d + 5) D none 28 [(0, .ref bLH), (1, .int (nI N))] [] x (fun v y => v = some (.int ((zYears T W 6 N Z).1 0 0)) ∧ cR T W (zYears T W 6 N Z) y t ∧ y.1 bDn 0 = (if 0 < nI N then 0 else x.1 bDn 0) ∧ cGo x y) := by
      refine a_iconst (v := 0) dX11_go_28 (by decide) ?_
      refine a_istore_n (i := 2) dX11_go_29 rfl (by decide) ?_
      exact a_loc _ rfl (L N 0 (Nat.zero_add _) Z x hZ hS aFy_r)
    have P2 := a_wk P (Q := fun v y => (¬ zGo Z (nI N) → v = some (.int (-1)) ∧ y = x) ∧ (zGo Z (nI N) → v = some (.int ((zYears T W 6 N Z).1 0 0)) ∧ cR T W (zYears T W 6 N Z) y t ∧ y.1 bDn 0 = (if 0 < nI N then 0 else x.1 bDn 0) ∧ cGo x y)) (fun v y g => ⟨fun c => absurd ⟨q1, q2⟩ c, fun _ => g⟩)
    refine a_iload_n (i := 1) dX11_go_0 rfl rfl ?_
    refine a_if_lt (tg := 26) dX11_go_1 (by decide) (fun c_1 => ?_) (fun c_1 => ?_)
    · exact absurd q1.1 (Int32.not_le.mpr c_1)
    · refine a_iload_n (i := 1) dX11_go_4 rfl rfl ?_
      refine a_sipush (v := 200) dX11_go_5 (by decide) ?_
      refine a_icmp_gt (tg := 26) dX11_go_8 (by decide) (fun c_8 => ?_) (fun c_8 => ?_)
      · exact absurd (zIn201.mpr q1).2 (Int32.not_le.mpr c_8)
      · refine a_aload_n (i := 0) dX11_go_11 rfl rfl ?_
        refine gX11_30 rfl dX11_go_12 (isLH_0 hD) ?_
        refine gX11_221 rfl dX11_go_15 (isS_0 hD hbNow) ?_
        rw [e0]
        refine a_iload_n (i := 1) dX11_go_18 rfl rfl ?_
        refine a_iadd dX11_go_19 ?_
        refine a_sipush (v := 9000) dX11_go_20 (by decide) ?_
        refine a_icmp_le (tg := 28) dX11_go_23 (by decide) (fun c_23 => ?_) (fun c_23 => ?_)
        · exact a_loc _ rfl P2
        · exact absurd q2 c_23
  · refine a_iload_n (i := 1) dX11_go_0 rfl rfl ?_
    refine a_if_lt (tg := 26) dX11_go_1 (by decide) (fun c_1 => ?_) (fun c_1 => ?_)
    · refine a_iconst (v := (-1)) dX11_go_26 (by decide) ?_
      exact a_iret dX11_go_27 (by exact ⟨fun _ => ⟨rfl, rfl⟩, fun g => absurd g q⟩)
    · refine a_iload_n (i := 1) dX11_go_4 rfl rfl ?_
      refine a_sipush (v := 200) dX11_go_5 (by decide) ?_
      refine a_icmp_gt (tg := 26) dX11_go_8 (by decide) (fun c_8 => ?_) (fun c_8 => ?_)
      · refine a_iconst (v := (-1)) dX11_go_26 (by decide) ?_
        exact a_iret dX11_go_27 (by exact ⟨fun _ => ⟨rfl, rfl⟩, fun g => absurd g q⟩)
      · refine a_aload_n (i := 0) dX11_go_11 rfl rfl ?_
        refine gX11_30 rfl dX11_go_12 (isLH_0 hD) ?_
        refine gX11_221 rfl dX11_go_15 (isS_0 hD hbNow) ?_
        rw [e0]
        refine a_iload_n (i := 1) dX11_go_18 rfl rfl ?_
        refine a_iadd dX11_go_19 ?_
        refine a_sipush (v := 9000) dX11_go_20 (by decide) ?_
        refine a_icmp_le (tg := 28) dX11_go_23 (by decide) (fun c_23 => ?_) (fun c_23 => ?_)
        · exact absurd ⟨zIn201.mp ⟨Int32.not_lt.mp c_1, Int32.not_lt.mp c_8⟩, c_23⟩ q
        · refine a_iconst (v := (-1)) dX11_go_26 (by decide) ?_
          exact a_iret dX11_go_27 (by exact ⟨fun _ => ⟨rfl, rfl⟩, fun g => absurd g q⟩)
/-- frame of the model's go -/
def mGo (x y : aS) : Prop := (∀ n j, ¬ mScr n j → ¬ mIn 0 n j → ¬ (n = bM ∧ j = 83) → y.1 n j = x.1 n j) ∧ (∀ n j, n ≠ bM + 57 → n ≠ bM + 58 → ¬ (n = bM ∧ j = 69) → y.2 n j = x.2 n j)
set_option maxHeartbeats 4000000 in
set_option maxRecDepth 100000 in
theorem c_X12_go {n : Int32} (hM : D 12 = true) (h : mQ T W Z x) : aCt l mX12_go (d + 7) D [.ref bM, .int n] x (fun v y => (¬ zGo Z n → v = some (.int (-1)) ∧ mF x y) ∧ (zGo Z n → v = some (.int ((zYears T W 6 n.toNatClampNeg Z).1 0 0)) ∧ mQ T W (zYears T W 6 n.toNatClampNeg Z) y ∧ y.1 bM 83 = (if 0 < n then 0 else x.1 bM 83) ∧ mGo x y)) := by
  have hF0 : mF x (aWr x bM 2 0) := mF_0
  have hq := mQ_0 h
  have hy2 : (aWr x bM 2 0).2 = x.2 := rfl
  refine a_met (by decide) (Nat.le_of_ble_eq_true rfl) (fun v y q => Or.inl ⟨rfl, by by_cases g : zGo Z n; exact ⟨_, (q.2 g).1⟩; exact ⟨_, (q.1 g).1⟩⟩) ?_
  refine a_aload_n (i := 0) dX12_go_0 rfl rfl ?_
  refine a_iconst (v := 0) dX12_go_1 (by decide) ?_
  refine pX12_175 rfl dX12_go_2 (isM_0 hM) ?_
  refine a_loc [(0, .ref bM), (1, .int n)] rfl ?_
  generalize aWr x bM 2 0 = y at *
  obtain ⟨hR, hB, hN, hf⟩ := hq
  have hfx : rFl 5 x := h.2.2.2
  have hT := hR.2.2.1
  have ok := hR.1
  have hZ := hR.2.1
  by_cases q : zGo Z n
  · obtain ⟨q1, q2⟩ := q
    obtain ⟨N, hN2, rfl⟩ := zIn_of (by decide) q1
    rw [nI_clamp (by omega)]
    obtain ⟨X, hX⟩ : ∃ X, X = aWr (mFl0 y) bM 70 1 := ⟨_, rfl⟩
    have hXn : ∀ n j, ¬ (n = bM ∧ 70 ≤ j ∧ j ≤ 74) → X.1 n j = y.1 n j := fun n j g => by
      rw [hX]
      by_cases e : n = bM
      · subst e; rw [aWr_j _ _ _ (fun e2 => g (by subst e2; decide)), mFl0_fr g]
      · rw [aWr_n _ _ _ e, mFl0_fr g]
    have hX2 : X.2 = y.2 := by rw [hX]; rfl
    have hXG : mG y X := ⟨fun n j _ g => hXn n j g, fun n _ _ _ => by rw [hX2], fun j _ => by rw [hX2]⟩
    have hRX := mR_G hXG hR
    have hfX : rFl 6 X := by
      obtain ⟨f0, f1, f2, f3, f4⟩ := mFl0_f (x := y) (way := 5) (Or.inl rfl)
      rw [hX]
      exact ⟨by rw [aWr_s, bI_t (by omega)], by rw [aWr_j _ _ _ (by decide), f1, bI_f (by omega), bI_f (by omega)], by rw [aWr_j _ _ _ (by decide), f2, bI_f (by omega), bI_f (by omega)], by rw [aWr_j _ _ _ (by decide), f3, bI_f (by omega), bI_f (by omega)], by rw [aWr_j _ _ _ (by decide), f4, bI_f (by omega), bI_f (by omega)]⟩
    have hYX : mY T W 6 0 Z X := by
      refine ⟨ok, hRX.2.2.1, hRX.2.2.2.1, hfX, hZ, hRX.2.2.2.2, hB.2, aFi_r, fun _ => ?_, fun g => absurd rfl g⟩
      obtain ⟨a, a1, a2, a3⟩ := hN
      exact ⟨a, a1, a2, by rw [hX2]; exact a3⟩
    have L : ∀ (k i : Nat), i + k = N → ∀ (Y : zS) (z : aS), zB T Y → yJ T 6 0 X Y z → aV l mX12_go (d + 7) D none 43 [(0, .ref bM), (1, .int (nI N)), (2, .int (nI i))] [] z (fun v w => v = some (.int ((lp (fun _ Z => zYear T W 6 Z) i k Y).1 0 0)) ∧ mQ T W (lp (fun _ Z => zYear T W 6 Z) i k Y) w ∧ w.1 bM 83 = (if 0 < nI N then 0 else x.1 bM 83) ∧ mGo x w) := by
      intro k
      induction k with
      | zero =>
        intro i hi Y z hB hJ
        rw [Nat.add_zero] at hi
        subst hi
        have hzf := rFl_i hJ.2.2.2.1 hfX
        have h83 : z.1 bM 83 = x.1 bM 83 := by rw [hJ.2.2.2.1.1 bM 83 (by unfold mIn; omega) (by omega), hXn _ _ (by omega), hF0.1 _ _ (by unfold mScr mIn; omega)]
        have K : ∀ v, aV l mX12_go (d + 7) D none 80 [(0, .ref bM)] [] (aWr (aWr z bM 70 0) bM 83 v) (fun u w => u = some (.int (Y.1 0 0)) ∧ mQ T W Y w ∧ w.1 bM 83 = v ∧ mGo x w) := by
          intro v
          have e1 : ∀ n j, ¬ (n = bM ∧ (j = 70 ∨ j = 83)) → (aWr (aWr z bM 70 0) bM 83 v).1 n j = z.1 n j := fun n j g => by
            by_cases e : n = bM
            · subst e; rw [aWr_j _ _ _ (fun e => g ⟨rfl, Or.inr e⟩), aWr_j _ _ _ (fun e => g ⟨rfl, Or.inl e⟩)]
            · rw [aWr_n _ _ _ e, aWr_n _ _ _ e]
          have gS : rM T Y (aWr (aWr z bM 70 0) bM 83 v) 0 := rM_same ok hJ.1 (fun n j hj => e1 n j (by unfold mIn at hj; omega)) hJ.2.1
          have ef : ∀ n j, (n = bM ∧ 12 ≤ j ∧ j ≤ 17) ∨ (bM + 26 ≤ n ∧ n ≤ bM + 48) → (aWr (aWr z bM 70 0) bM 83 v).1 n j = X.1 n j := fun n j g => (e1 n j (by omega)).trans (hJ.2.2.2.1.1 n j (by unfold mIn; omega) (by omega))
          obtain ⟨f0, f1, f2, f3, f4⟩ := hzf
          have gQ : mQ T W Y (aWr (aWr z bM 70 0) bM 83 v) := by
            refine ⟨⟨ok, hJ.1, rTM_o (fun n j g => ef n j (by omega)) hRX.2.2.1, rWM_o (fun n j g => ef n j (by omega)) hRX.2.2.2.1, gS⟩, hB, hJ.2.2.2.2.1 rfl, ?_, ?_, ?_, ?_, ?_⟩
            · rw [aWr_j _ _ _ (by decide), aWr_s, bI_f (by omega)]
            · rw [e1 _ _ (by omega), f1, bI_f (by omega), bI_f (by omega)]
            · rw [e1 _ _ (by omega), f2, bI_f (by omega), bI_f (by omega)]
            · rw [e1 _ _ (by omega), f3, bI_f (by omega), bI_f (by omega)]
            · rw [e1 _ _ (by omega), f4, bI_f (by omega), bI_f (by omega)]
          have gG : mGo x (aWr (aWr z bM 70 0) bM 83 v) := by
            obtain ⟨b0, b1, b2, b3, b4⟩ := hfx
            refine ⟨fun n j s1 s2 s3 => ?_, fun n j s1 s2 s3 => ?_⟩
            · by_cases hfl : n = bM ∧ 70 ≤ j ∧ j ≤ 74
              · obtain ⟨rfl, j1, j2⟩ := hfl
                have : j = 70 ∨ j = 71 ∨ j = 72 ∨ j = 73 ∨ j = 74 := by omega
                rcases this with rfl | rfl | rfl | rfl | rfl
                · rw [aWr_j _ _ _ (by decide), aWr_s, b0, bI_f (by omega)]
                · rw [e1 _ _ (by omega), f1, b1, bI_f (by omega), bI_f (by omega)]
                · rw [e1 _ _ (by omega), f2, b2, bI_f (by omega), bI_f (by omega)]
                · rw [e1 _ _ (by omega), f3, b3, bI_f (by omega), bI_f (by omega)]
                · rw [e1 _ _ (by omega), f4, b4, bI_f (by omega), bI_f (by omega)]
              · rw [e1 n j (by omega), hJ.2.2.2.1.1 n j s2 (fun g => s1 (Or.inl ⟨g.1, Or.inr g.2⟩)), hXn n j hfl]
                exact hF0.1 n j s1
            · show z.2 n j = _
              rw [hJ.2.2.2.1.2 n j s1 s2 s3, hX2, hy2]
          refine a_aload_n (i := 0) dX12_go_80 rfl rfl ?_
          refine gX12_133 rfl dX12_go_81 (isM_0 hM) ?_
          refine a_iconst (v := 0) dX12_go_84 (by decide) ?_
          refine a_ialdN dX12_go_85 (isM_69 hM) (by first | exact (show (0 : Int32) = nI 0 from rfl) | with_reducible exact rfl | with_reducible exact ix8 _ _ | with_reducible exact ix12 _ _ | exact rfl) (by omega) (by decide) ?_
          rw [gS.1]
          exact a_iret dX12_go_86 (by exact ⟨rfl, gQ, aWr_s _ _ _ _, gG⟩)
        by_cases hn : 0 < nI i
        · rw [if_pos hn]
          refine a_iload_n (i := 2) dX12_go_43 rfl rfl ?_
          refine a_iload_n (i := 1) dX12_go_44 rfl rfl ?_
          refine a_icmp_ge (tg := 59) dX12_go_45 (by decide) (fun c_45 => ?_) (fun c_45 => ?_)
          · refine a_aload_n (i := 0) dX12_go_59 rfl rfl ?_
            refine a_iconst (v := 0) dX12_go_60 (by decide) ?_
            refine pX12_411 rfl dX12_go_61 (isM_0 hM) (by first | exact Or.inl rfl | exact Or.inr rfl | assumption) ?_
            refine a_aload_n (i := 0) dX12_go_64 rfl rfl ?_
            refine a_iload_n (i := 1) dX12_go_65 rfl rfl ?_
            refine a_if_le (tg := 73) dX12_go_66 (by decide) (fun c_66 => ?_) (fun c_66 => ?_)
            · exact absurd hn (Int32.not_lt.mpr c_66)
            · refine a_iconst (v := 0) dX12_go_69 (by decide) ?_
              refine a_goto (tg := 77) dX12_go_70 (by decide) ?_
              refine pX12_401 rfl dX12_go_77 (isM_0 hM) ?_
              exact a_loc _ rfl (K 0)
          · exact absurd (Int32.le_refl _) c_45
        · rw [if_neg hn]
          have e83 : (aWr z bM 70 0).1 bM 83 = x.1 bM 83 := by rw [aWr_j _ _ _ (by decide)]; exact h83
          refine a_iload_n (i := 2) dX12_go_43 rfl rfl ?_
          refine a_iload_n (i := 1) dX12_go_44 rfl rfl ?_
          refine a_icmp_ge (tg := 59) dX12_go_45 (by decide) (fun c_45 => ?_) (fun c_45 => ?_)
          · refine a_aload_n (i := 0) dX12_go_59 rfl rfl ?_
            refine a_iconst (v := 0) dX12_go_60 (by decide) ?_
            refine pX12_411 rfl dX12_go_61 (isM_0 hM) (by first | exact Or.inl rfl | exact Or.inr rfl | assumption) ?_
            refine a_aload_n (i := 0) dX12_go_64 rfl rfl ?_
            refine a_iload_n (i := 1) dX12_go_65 rfl rfl ?_
            refine a_if_le (tg := 73) dX12_go_66 (by decide) (fun c_66 => ?_) (fun c_66 => ?_)
            · refine a_aload_n (i := 0) dX12_go_73 rfl rfl ?_
              refine gX12_401 rfl dX12_go_74 (isM_0 hM) ?_
              rw [e83]
              refine pX12_401 rfl dX12_go_77 (isM_0 hM) ?_
              exact a_loc _ rfl (K _)
            · exact absurd (Int32.not_le.mp c_66) hn
          · exact absurd (Int32.le_refl _) c_45
      | succ k ih =>
        intro i hi Y z hB hJ
        refine a_iload_n (i := 2) dX12_go_43 rfl rfl ?_
        refine a_iload_n (i := 1) dX12_go_44 rfl rfl ?_
        refine a_icmp_ge (tg := 59) dX12_go_45 (by decide) (fun c_45 => ?_) (fun c_45 => ?_)
        · exact absurd c_45 (nI_ge (show i < N by omega) (by omega))
        · refine a_aload_n (i := 0) dX12_go_48 rfl rfl ?_
          refine a_iconst (v := 0) dX12_go_49 (by decide) ?_
          refine kgX12_489 rfl dX12_go_50 (Nat.le_of_ble_eq_true rfl) (isM_0 hM) (mz_year (i := 0) hM (by decide) (mY_n hYX hJ)) ?_
          rintro v z1 ⟨rfl, hJ1⟩
          refine a_iincK (i := 2) (u := 1) dX12_go_53 rfl (by decide) (by decide) ?_
          refine a_goto (tg := 43) dX12_go_56 (by decide) ?_
          rw [nI_1]; exact a_loc _ rfl (ih (i + 1) (by omega) _ _ (zB_year ok hB) (yJ_trans hJ hJ1))
    have P : aV l mX12_go (d + 7) D none 32 [(0, .ref bM), (1, .int (nI N))] [] y (fun v w => v = some (.int ((zYears T W 6 N Z).1 0 0)) ∧ mQ T W (zYears T W 6 N Z) w ∧ w.1 bM 83 = (if 0 < nI N then 0 else x.1 bM 83) ∧ mGo x w) := by
      have L0 := L N 0 (Nat.zero_add _) Z X hB hYX.2.2.2.2
      rw [hX] at L0
      refine a_aload_n (i := 0) dX12_go_32 rfl rfl ?_
      refine kX12_395 rfl dX12_go_33 (Nat.le_of_ble_eq_true rfl) (isM_0 hM) (c_X12_plainTried hM) ?_
      refine a_aload_n (i := 0) dX12_go_36 rfl rfl ?_
      refine a_iconst (v := 1) dX12_go_37 (by decide) ?_
      refine pX12_411 rfl dX12_go_38 (isM_0 hM) (by first | exact Or.inl rfl | exact Or.inr rfl | assumption) ?_
      refine a_iconst (v := 0) dX12_go_41 (by decide) ?_
      refine a_istore_n (i := 2) dX12_go_42 rfl (by decide) ?_
      exact a_loc _ rfl L0
    have P2 := a_wk P (Q := fun v w => (¬ zGo Z (nI N) → v = some (.int (-1)) ∧ mF x w) ∧ (zGo Z (nI N) → v = some (.int ((zYears T W 6 N Z).1 0 0)) ∧ mQ T W (zYears T W 6 N Z) w ∧ w.1 bM 83 = (if 0 < nI N then 0 else x.1 bM 83) ∧ mGo x w)) (fun v y g => ⟨fun c => absurd ⟨q1, q2⟩ c, fun _ => g⟩)
    refine a_iload_n (i := 1) dX12_go_5 rfl rfl ?_
    refine a_iconst (v := 0) dX12_go_6 (by decide) ?_
    refine a_sipush (v := 200) dX12_go_7 (by decide) ?_
    refine kX12_220 rfl dX12_go_10 (Nat.le_of_ble_eq_true rfl) (c_X12_isIn) ?_
    refine a_if_eq (tg := 30) dX12_go_13 (by decide) (fun c_13 => ?_) (fun c_13 => ?_)
    · exact absurd c_13 (bI_p.mpr (zIn201.mpr q1))
    · refine a_aload_n (i := 0) dX12_go_16 rfl rfl ?_
      refine gX12_133 rfl dX12_go_17 (isM_0 hM) ?_
      refine a_iconst (v := 0) dX12_go_20 (by decide) ?_
      refine a_ialdN dX12_go_21 (isM_69 hM) (by first | exact (show (0 : Int32) = nI 0 from rfl) | with_reducible exact rfl | with_reducible exact ix8 _ _ | with_reducible exact ix12 _ _ | exact rfl) (by omega) (by decide) ?_
      rw [hR.2.2.2.2.1]
      refine a_iload_n (i := 1) dX12_go_22 rfl rfl ?_
      refine a_iadd dX12_go_23 ?_
      refine a_sipush (v := 9000) dX12_go_24 (by decide) ?_
      refine a_icmp_le (tg := 32) dX12_go_27 (by decide) (fun c_27 => ?_) (fun c_27 => ?_)
      · exact a_loc _ rfl P2
      · exact absurd q2 c_27
  · refine a_iload_n (i := 1) dX12_go_5 rfl rfl ?_
    refine a_iconst (v := 0) dX12_go_6 (by decide) ?_
    refine a_sipush (v := 200) dX12_go_7 (by decide) ?_
    refine kX12_220 rfl dX12_go_10 (Nat.le_of_ble_eq_true rfl) (c_X12_isIn) ?_
    refine a_if_eq (tg := 30) dX12_go_13 (by decide) (fun c_13 => ?_) (fun c_13 => ?_)
    · refine a_iconst (v := (-1)) dX12_go_30 (by decide) ?_
      exact a_iret dX12_go_31 (by exact ⟨fun _ => ⟨rfl, hF0⟩, fun g => absurd g q⟩)
    · refine a_aload_n (i := 0) dX12_go_16 rfl rfl ?_
      refine gX12_133 rfl dX12_go_17 (isM_0 hM) ?_
      refine a_iconst (v := 0) dX12_go_20 (by decide) ?_
      refine a_ialdN dX12_go_21 (isM_69 hM) (by first | exact (show (0 : Int32) = nI 0 from rfl) | with_reducible exact rfl | with_reducible exact ix8 _ _ | with_reducible exact ix12 _ _ | exact rfl) (by omega) (by decide) ?_
      rw [hR.2.2.2.2.1]
      refine a_iload_n (i := 1) dX12_go_22 rfl rfl ?_
      refine a_iadd dX12_go_23 ?_
      refine a_sipush (v := 9000) dX12_go_24 (by decide) ?_
      refine a_icmp_le (tg := 32) dX12_go_27 (by decide) (fun c_27 => ?_) (fun c_27 => ?_)
      · exact absurd ⟨zIn201.mp (bI_p.mp c_13), c_27⟩ q
      · refine a_iconst (v := (-1)) dX12_go_30 (by decide) ?_
        exact a_iret dX12_go_31 (by exact ⟨fun _ => ⟨rfl, hF0⟩, fun g => absurd g q⟩)
end qI
