/-! frames of whole calls; public methods that only read (2) -/
/-- a call of the class that leaves all but the trial, the years' rows, the reckoner's rows -/
def cF (x y : aS) : Prop := ∀ n, n / 256 ≠ 7 → n / 256 ≠ 8 → n / 256 ≠ 11 → y.1 n = x.1 n ∧ y.2 n = x.2 n
theorem cF_r {x : aS} : cF x x := fun _ _ _ _ => ⟨rfl, rfl⟩
theorem cF_t {x y z : aS} (h1 : cF x y) (h2 : cF y z) : cF x z := fun n a b c => ⟨(h2 n a b c).1.trans (h1 n a b c).1, (h2 n a b c).2.trans (h1 n a b c).2⟩
theorem cF_y {x y : aS} (h : aFy bTr x y) : cF x y := fun n a b _ => h n a b
theorem cF_sq {x y : aS} (h : aSq x y) : cF x y := cF_y (aFy_sq h)
theorem cF_w {x : aS} {n j : Nat} {v : Int32} (h : n / 256 = 7 ∨ n / 256 = 8 ∨ n / 256 = 11) : cF x (aWr x n j v) := fun a h1 h2 h3 => ⟨aWr_n _ _ _ (fun e => by subst e; omega), rfl⟩
/-- scratch of the model -/
def mScr (n j : Nat) : Prop := (n = bM ∧ (j = 2 ∨ j = 58)) ∨ mIn 1 n j ∨ n = bM + 76 ∨ n = bM + 77 ∨ n = bM + 78 ∨ n = bM + 82 ∨ n = bM + 83
def mF (x y : aS) : Prop := (∀ n j, ¬ mScr n j → y.1 n j = x.1 n j) ∧ (∀ n, n ≠ bM + 57 → n ≠ bM + 58 → y.2 n = x.2 n)
theorem mF_r {x : aS} : mF x x := ⟨fun _ _ _ => rfl, fun _ _ _ => rfl⟩
theorem mF_t {x y z : aS} (h1 : mF x y) (h2 : mF y z) : mF x z := ⟨fun n j a => (h2.1 n j a).trans (h1.1 n j a), fun n a b => (h2.2 n a b).trans (h1.2 n a b)⟩
theorem mF_w {x : aS} {n j : Nat} {v : Int32} (h : mScr n j) : mF x (aWr x n j v) := by
  refine ⟨fun a k h1 => ?_, fun _ _ _ => rfl⟩
  by_cases e : a = n
  · subst e
    by_cases g : k = j
    · subst g; exact absurd h h1
    · exact aWr_j _ _ _ g
  · rw [aWr_n _ _ _ e]
theorem mF_0 {x : aS} : mF x (aWr x bM 2 0) := mF_w (Or.inl ⟨rfl, Or.inl rfl⟩)
theorem mF_by {x y : aS} (h : mBy x y) : mF x y := by
  refine ⟨fun n j h1 => ?_, fun n _ h2 => h.2.2 n h2⟩
  by_cases e : n = bM
  · subst e; exact h.2.1 j (fun g => h1 (Or.inl ⟨rfl, Or.inr g⟩))
  · rw [h.1 n e]
theorem mF_1 {x y : aS} (h : y.1 = x.1) (h2 : ∀ n, n ≠ bM + 57 → n ≠ bM + 58 → y.2 n = x.2 n) : mF x y := ⟨fun n j _ => by rw [h], h2⟩
theorem mF_i {x y : aS} (h : aFi 1 x y) (h2 : y.2 bM 69 = x.2 bM 69) : mF x y := by
  refine ⟨fun n j h1 => ?_, fun n a b => ?_⟩
  · exact h.1 n j (fun g => h1 (Or.inr (Or.inl g))) (fun g => h1 (Or.inl ⟨g.1, Or.inr g.2⟩))
  · funext j
    by_cases e : n = bM ∧ j = 69
    · rw [e.1, e.2]; exact h2
    · exact h.2 n j a b e
theorem rTM_F {T : zT} {x y : aS} (hF : mF x y) (h : rTM T x) : rTM T y := by
  have e : ∀ n j, n ≤ bM + 56 → ¬ (n = bM ∧ (j = 2 ∨ j = 58)) → y.1 n j = x.1 n j := fun n j hn hj => hF.1 n j (by unfold mScr mIn; omega)
  obtain ⟨a1, a2, a3, a4, a5, a6, a7, a8, b1, b2, b3, b4, b5⟩ := h
  refine ⟨?_, ?_, ?_, ?_, ?_, ?_, ?_, ?_, fun h hh => ?_, fun m hm => ?_, fun k hk => ?_, fun k hk => ?_, fun k hk => ?_⟩
  · rw [e _ _ (by omega) (by omega)]; exact a1
  · rw [e _ _ (by omega) (by omega)]; exact a2
  · rw [e _ _ (by omega) (by omega)]; exact a3
  · rw [e _ _ (by omega) (by omega)]; exact a4
  · rw [e _ _ (by omega) (by omega)]; exact a5
  · rw [e _ _ (by omega) (by omega)]; exact a6
  · rw [e _ _ (by omega) (by omega)]; exact a7
  · rw [e _ _ (by omega) (by omega)]; exact a8
  · rw [e _ _ (by omega) (by omega), e _ _ (by omega) (by omega)]; exact b1 h hh
  · rw [e _ _ (by omega) (by omega), e _ _ (by omega) (by omega), e _ _ (by omega) (by omega), e _ _ (by omega) (by omega), e _ _ (by omega) (by omega)]; exact b2 m hm
  · rw [e _ _ (by omega) (by omega), e _ _ (by omega) (by omega), e _ _ (by omega) (by omega), e _ _ (by omega) (by omega), e _ _ (by omega) (by omega)]; exact b3 k hk
  · rw [e _ _ (by omega) (by omega), e _ _ (by omega) (by omega), e _ _ (by omega) (by omega)]; exact b4 k hk
  · rw [e _ _ (by omega) (by omega)]; exact b5 k hk
theorem mR_F {T : zT} {W : Nat → zL} {Z : zS} {x y : aS} (hF : mF x y) (h : mR T W Z x) : mR T W Z y := by
  obtain ⟨a1, a2, a3, a4, a5⟩ := h
  refine ⟨a1, a2, rTM_F hF a3, rWM_same (fun n h1 h2 => ?_) a4, rM_same a1 a2 (fun n k hk => hF.1 n k (by unfold mScr; unfold mIn at *; omega)) a5⟩
  funext j
  exact hF.1 n j (by unfold mScr mIn; omega)
theorem rT_F {T : zT} {x y : aS} {t : Nat} (ht : aTdB t) (ok : zTok T) (hF : cF x y) (h : rT T x t) : rT T y t := rT_same (fun k hk => (hF (t + k) (by rcases ht with rfl | rfl <;> omega) (by rcases ht with rfl | rfl <;> omega) (by rcases ht with rfl | rfl <;> omega)).1) ok h
theorem rS_F {T : zT} {Z : zS} {x y : aS} (hF : cF x y) (h : rS T Z x bNow) : rS T Z y bNow := rS_same (fun k hk => (hF (bNow + k) (by unfold bNow; omega) (by unfold bNow; omega) (by unfold bNow; omega)).1) h
theorem cR_F {T : zT} {W : Nat → zL} {Z : zS} {x y : aS} {t : Nat} (hF : cF x y) (h : cR T W Z x t) : cR T W Z y t := by
  obtain ⟨ht, hp, ok, hZ, hT, hW, hS⟩ := h
  refine ⟨ht, by rw [(hF bLH (by decide) (by decide) (by decide)).1]; exact hp, ok, hZ, rT_F ht ok hF hT, rW_same (fun k hk => (hF (t + k) (by rcases ht with rfl | rfl <;> omega) (by rcases ht with rfl | rfl <;> omega) (by rcases ht with rfl | rfl <;> omega)).1) hW, rS_F hF hS⟩
section qReads
variable {l : Launch} {d : Nat} {D : Nat → Bool} {T : zT} {W : Nat → zL} {Z : zS} {t : Nat} {x : aS}
def qKnee (T : zT) (Z : zS) : Int32 := if T.1 0 = 0 then -2 else nI (zArg (fun h b => decide (Z.2 1 b < Z.2 1 h)) 1 (T.1 0 - 1) 0)
set_option maxHeartbeats 4000000 in
set_option maxRecDepth 100000 in
theorem c_X11_knee (hD : aDC D) (h : cR T W Z x t) : aDI l mX11_knee d D [.ref bLH] x (qKnee T Z) x := by
  obtain ⟨ht, hp, ok, hZ, hT, hW, hS⟩ := h
  have h6 := ok.1
  have e0 : x.1 t 1 = nI (T.1 0) := hT.1
  refine a_metI (by decide) (Nat.le_of_ble_eq_true rfl) rfl ?_
  unfold qKnee
  by_cases q : T.1 0 = 0
  · rw [if_pos q]
    refine a_aload_n (i := 0) dX11_knee_0 rfl rfl ?_
    refine gX11_23 rfl dX11_knee_1 (isLH_0 hD) ?_
    rw [hp]
    refine gX11_112 rfl dX11_knee_4 (isT_0 hD ht) ?_
    rw [e0]
    refine a_if_ne (tg := 13) dX11_knee_7 (by decide) (fun c_7 => ?_) (fun c_7 => ?_)
    · exact absurd (by rw [q]; rfl) c_7
    · refine a_bipush (v := (-2)) dX11_knee_10 (by decide) ?_
      exact a_iret dX11_knee_12 (by exact ⟨rfl, rfl⟩)
  · rw [if_neg q]
    have hn : ¬ nI (T.1 0) = 0 := nI_ne0 (by omega) (by omega)
    have L : aV l mX11_knee d D none 17 [(0, .ref bLH), (1, .int (nI 0)), (2, .int (nI 1))] [] x (fun v y => v = some (.int (nI (zArg (fun h b => decide (Z.2 1 b < Z.2 1 h)) 1 (T.1 0 - 1) 0))) ∧ y = x) := by
      refine lp_inv (P := fun h b => aV l mX11_knee d D none 17 [(0, .ref bLH), (1, .int (nI b)), (2, .int (nI h))] [] x _) (fun h b => b < h) (fun h b => if decide (Z.2 1 b < Z.2 1 h) then h else b) (N := T.1 0) ?_ ?_ (T.1 0 - 1) 1 0 (by omega) (by decide) ?_
      · intro h b hh hb
        split <;> omega
      · intro h b hh hb ih
        have c1 := (hZ.2.1 h hh).1
        have c2 := (hZ.2.1 b (by omega)).1
        have f1 := (hS.2.2.1 h hh).2.1
        have f2 := (hS.2.2.1 b (by omega)).2.1
        refine a_iload_n (i := 2) dX11_knee_17 rfl rfl ?_
        refine a_aload_n (i := 0) dX11_knee_18 rfl rfl ?_
        refine gX11_23 rfl dX11_knee_19 (isLH_0 hD) ?_
        rw [hp]
        refine gX11_112 rfl dX11_knee_22 (isT_0 hD ht) ?_
        rw [e0]
        refine a_icmp_ge (tg := 57) dX11_knee_25 (by decide) (fun c_25 => ?_) (fun c_25 => ?_)
        · exact absurd c_25 (nI_ge hh (by omega))
        · refine a_aload_n (i := 0) dX11_knee_28 rfl rfl ?_
          refine gX11_30 rfl dX11_knee_29 (isLH_0 hD) ?_
          refine gX11_173 rfl dX11_knee_32 (isS_0 hD hbNow) ?_
          refine a_iload_n (i := 2) dX11_knee_35 rfl rfl ?_
          refine a_ialdN dX11_knee_36 (isS_7 hD hbNow) (by first | with_reducible exact rfl | with_reducible exact ix8 _ _ | with_reducible exact ix12 _ _ | exact rfl) (by omega) (by decide) ?_
          rw [f1]
          refine a_aload_n (i := 0) dX11_knee_37 rfl rfl ?_
          refine gX11_30 rfl dX11_knee_38 (isLH_0 hD) ?_
          refine gX11_173 rfl dX11_knee_41 (isS_0 hD hbNow) ?_
          refine a_iload_n (i := 1) dX11_knee_44 rfl rfl ?_
          refine a_ialdN dX11_knee_45 (isS_7 hD hbNow) (by first | with_reducible exact rfl | with_reducible exact ix8 _ _ | with_reducible exact ix12 _ _ | exact rfl) (by omega) (by decide) ?_
          rw [f2]
          refine a_icmp_le (tg := 51) dX11_knee_46 (by decide) (fun c_46 => ?_) (fun c_46 => ?_)
          · rw [if_neg (by intro g; exact absurd c_46 (nI_ge (of_decide_eq_true g) (by omega)))] at ih
            refine a_iincK (i := 2) (u := 1) dX11_knee_51 rfl (by decide) (by decide) ?_
            refine a_goto (tg := 17) dX11_knee_54 (by decide) ?_
            rw [nI_1]; exact a_loc _ rfl ih
          · rw [if_pos (decide_eq_true (by rcases Nat.lt_or_ge (Z.2 1 b) (Z.2 1 h) with g | g; exact g; exact absurd (nI_le g (by omega)) c_46))] at ih
            refine a_iload_n (i := 2) dX11_knee_49 rfl rfl ?_
            refine a_istore_n (i := 1) dX11_knee_50 rfl (by decide) ?_
            refine a_iincK (i := 2) (u := 1) dX11_knee_51 rfl (by decide) (by decide) ?_
            refine a_goto (tg := 17) dX11_knee_54 (by decide) ?_
            rw [nI_1]; exact a_loc _ rfl ih
      · intro _
        refine a_iload_n (i := 2) dX11_knee_17 rfl rfl ?_
        refine a_aload_n (i := 0) dX11_knee_18 rfl rfl ?_
        refine gX11_23 rfl dX11_knee_19 (isLH_0 hD) ?_
        rw [hp]
        refine gX11_112 rfl dX11_knee_22 (isT_0 hD ht) ?_
        rw [e0]
        refine a_icmp_ge (tg := 57) dX11_knee_25 (by decide) (fun c_25 => ?_) (fun c_25 => ?_)
        · refine a_iload_n (i := 1) dX11_knee_57 rfl rfl ?_
          exact a_iret dX11_knee_58 (by exact ⟨rfl, rfl⟩)
        · exact absurd (Int32.le_refl _) c_25
    refine a_aload_n (i := 0) dX11_knee_0 rfl rfl ?_
    refine gX11_23 rfl dX11_knee_1 (isLH_0 hD) ?_
    rw [hp]
    refine gX11_112 rfl dX11_knee_4 (isT_0 hD ht) ?_
    rw [e0]
    refine a_if_ne (tg := 13) dX11_knee_7 (by decide) (fun c_7 => ?_) (fun c_7 => ?_)
    · refine a_iconst (v := 0) dX11_knee_13 (by decide) ?_
      refine a_istore_n (i := 1) dX11_knee_14 rfl (by decide) ?_
      refine a_iconst (v := 1) dX11_knee_15 (by decide) ?_
      refine a_istore_n (i := 2) dX11_knee_16 rfl (by decide) ?_
      exact a_loc _ rfl L
    · exact absurd c_7 hn
set_option maxHeartbeats 4000000 in
set_option maxRecDepth 100000 in
theorem c_X12_knee (hM : D 12 = true) (h : mR T W Z x) : aDI l mX12_knee d D [.ref bM] x (qKnee T Z) (aWr x bM 2 0) := by
  obtain ⟨ok, hZ, hT, hW, hS⟩ := mR_0 h
  refine a_metI (by decide) (Nat.le_of_ble_eq_true rfl) rfl ?_
  refine a_aload_n (i := 0) dX12_knee_0 rfl rfl ?_
  refine a_iconst (v := 0) dX12_knee_1 (by decide) ?_
  refine pX12_175 rfl dX12_knee_2 (isM_0 hM) ?_
  refine a_loc [(0, .ref bM)] rfl ?_
  generalize aWr x bM 2 0 = y at *
  have h6 := ok.1
  have e0 : y.1 bM 12 = nI (T.1 0) := hT.1
  unfold qKnee
  by_cases q : T.1 0 = 0
  · rw [if_pos q]
    rw [q] at e0
    refine a_bipush (v := (-2)) dX12_knee_5 (by decide) ?_
    refine a_istore_n (i := 1) dX12_knee_7 rfl (by decide) ?_
    refine a_iconst (v := 0) dX12_knee_8 (by decide) ?_
    refine a_istore_n (i := 2) dX12_knee_9 rfl (by decide) ?_
    refine a_iload_n (i := 2) dX12_knee_10 rfl rfl ?_
    refine a_aload_n (i := 0) dX12_knee_11 rfl rfl ?_
    refine gX12_258 rfl dX12_knee_12 (isM_0 hM) ?_
    rw [e0]
    refine a_icmp_ge (tg := 49) dX12_knee_15 (by decide) (fun c_15 => ?_) (fun c_15 => ?_)
    · refine a_iload_n (i := 1) dX12_knee_49 rfl rfl ?_
      exact a_iret dX12_knee_50 (by exact ⟨rfl, rfl⟩)
    · exact absurd (Int32.le_refl _) c_15
  · rw [if_neg q]
    have L : aV l mX12_knee d D none 10 [(0, .ref bM), (1, .int (nI 0)), (2, .int (nI 1))] [] y (fun v w => v = some (.int (nI (zArg (fun h b => decide (Z.2 1 b < Z.2 1 h)) 1 (T.1 0 - 1) 0))) ∧ w = y) := by
      refine lp_inv (P := fun h b => aV l mX12_knee d D none 10 [(0, .ref bM), (1, .int (nI b)), (2, .int (nI h))] [] y _) (fun h b => b < h) (fun h b => if decide (Z.2 1 b < Z.2 1 h) then h else b) (N := T.1 0) ?_ ?_ (T.1 0 - 1) 1 0 (by omega) (by decide) ?_
      · intro h b hh hb
        split <;> omega
      · intro h b hh hb ih
        have c1 := (hZ.2.1 h hh).1
        have c2 := (hZ.2.1 b (by omega)).1
        have f1 : y.1 (bM + 63) h = nI (Z.2 1 h) := by have := (hS.2.2.1 h hh).2.1; rwa [Nat.mul_zero, Nat.zero_add] at this
        have f2 : y.1 (bM + 63) b = nI (Z.2 1 b) := by have := (hS.2.2.1 b (by omega)).2.1; rwa [Nat.mul_zero, Nat.zero_add] at this
        refine a_iload_n (i := 2) dX12_knee_10 rfl rfl ?_
        refine a_aload_n (i := 0) dX12_knee_11 rfl rfl ?_
        refine gX12_258 rfl dX12_knee_12 (isM_0 hM) ?_
        rw [e0]
        refine a_icmp_ge (tg := 49) dX12_knee_15 (by decide) (fun c_15 => ?_) (fun c_15 => ?_)
        · exact absurd c_15 (nI_ge hh (by omega))
        · refine a_iload_n (i := 1) dX12_knee_18 rfl rfl ?_
          refine a_if_lt (tg := 37) dX12_knee_19 (by decide) (fun c_19 => ?_) (fun c_19 => ?_)
          · exact absurd c_19 (nI_pos (by omega))
          · refine a_aload_n (i := 0) dX12_knee_22 rfl rfl ?_
            refine gX12_115 rfl dX12_knee_23 (isM_0 hM) ?_
            refine a_iload_n (i := 2) dX12_knee_26 rfl rfl ?_
            refine a_ialdN dX12_knee_27 (isM_63 hM) (by first | with_reducible exact rfl | with_reducible exact ix8 _ _ | with_reducible exact ix12 _ _ | exact rfl) (by omega) (by decide) ?_
            rw [f1]
            refine a_aload_n (i := 0) dX12_knee_28 rfl rfl ?_
            refine gX12_115 rfl dX12_knee_29 (isM_0 hM) ?_
            refine a_iload_n (i := 1) dX12_knee_32 rfl rfl ?_
            refine a_ialdN dX12_knee_33 (isM_63 hM) (by first | with_reducible exact rfl | with_reducible exact ix8 _ _ | with_reducible exact ix12 _ _ | exact rfl) (by omega) (by decide) ?_
            rw [f2]
            refine a_icmp_le (tg := 41) dX12_knee_34 (by decide) (fun c_34 => ?_) (fun c_34 => ?_)
            · rw [if_neg (by intro g; exact absurd c_34 (nI_ge (of_decide_eq_true g) (by omega)))] at ih
              refine a_iload_n (i := 1) dX12_knee_41 rfl rfl ?_
              refine a_istore_n (i := 1) dX12_knee_42 rfl (by decide) ?_
              refine a_iincK (i := 2) (u := 1) dX12_knee_43 rfl (by decide) (by decide) ?_
              refine a_goto (tg := 10) dX12_knee_46 (by decide) ?_
              rw [nI_1]; exact a_loc _ rfl ih
            · rw [if_pos (decide_eq_true (by rcases Nat.lt_or_ge (Z.2 1 b) (Z.2 1 h) with g | g; exact g; exact absurd (nI_le g (by omega)) c_34))] at ih
              refine a_iload_n (i := 2) dX12_knee_37 rfl rfl ?_
              refine a_goto (tg := 42) dX12_knee_38 (by decide) ?_
              refine a_istore_n (i := 1) dX12_knee_42 rfl (by decide) ?_
              refine a_iincK (i := 2) (u := 1) dX12_knee_43 rfl (by decide) (by decide) ?_
              refine a_goto (tg := 10) dX12_knee_46 (by decide) ?_
              rw [nI_1]; exact a_loc _ rfl ih
      · intro _
        refine a_iload_n (i := 2) dX12_knee_10 rfl rfl ?_
        refine a_aload_n (i := 0) dX12_knee_11 rfl rfl ?_
        refine gX12_258 rfl dX12_knee_12 (isM_0 hM) ?_
        rw [e0]
        refine a_icmp_ge (tg := 49) dX12_knee_15 (by decide) (fun c_15 => ?_) (fun c_15 => ?_)
        · refine a_iload_n (i := 1) dX12_knee_49 rfl rfl ?_
          exact a_iret dX12_knee_50 (by exact ⟨rfl, rfl⟩)
        · exact absurd (Int32.le_refl _) c_15
    have L0 : aV l mX12_knee d D none 10 [(0, .ref bM), (1, .int (-2)), (2, .int (nI 0))] [] y (fun v w => v = some (.int (nI (zArg (fun h b => decide (Z.2 1 b < Z.2 1 h)) 1 (T.1 0 - 1) 0))) ∧ w = y) := by
      refine a_iload_n (i := 2) dX12_knee_10 rfl rfl ?_
      refine a_aload_n (i := 0) dX12_knee_11 rfl rfl ?_
      refine gX12_258 rfl dX12_knee_12 (isM_0 hM) ?_
      rw [e0]
      refine a_icmp_ge (tg := 49) dX12_knee_15 (by decide) (fun c_15 => ?_) (fun c_15 => ?_)
      · exact absurd c_15 (nI_ge (show 0 < T.1 0 by omega) (by omega))
      · refine a_iload_n (i := 1) dX12_knee_18 rfl rfl ?_
        refine a_if_lt (tg := 37) dX12_knee_19 (by decide) (fun c_19 => ?_) (fun c_19 => ?_)
        · refine a_iload_n (i := 2) dX12_knee_37 rfl rfl ?_
          refine a_goto (tg := 42) dX12_knee_38 (by decide) ?_
          refine a_istore_n (i := 1) dX12_knee_42 rfl (by decide) ?_
          refine a_iincK (i := 2) (u := 1) dX12_knee_43 rfl (by decide) (by decide) ?_
          refine a_goto (tg := 10) dX12_knee_46 (by decide) ?_
          rw [nI_1]; exact a_loc _ rfl L
        · exact absurd (by decide) c_19
    refine a_bipush (v := (-2)) dX12_knee_5 (by decide) ?_
    refine a_istore_n (i := 1) dX12_knee_7 rfl (by decide) ?_
    refine a_iconst (v := 0) dX12_knee_8 (by decide) ?_
    refine a_istore_n (i := 2) dX12_knee_9 rfl (by decide) ?_
    exact a_loc _ rfl L0
def qNear (T : zT) (Z : zS) (a : Int32) : Int32 := if zIn (T.1 1) a then (if T.1 0 = 0 then -2 else nI (zArg (fun h b => decide (zFar T Z a.toNatClampNeg h < zFar T Z a.toNatClampNeg b)) 1 (T.1 0 - 1) 0)) else -1
set_option maxHeartbeats 4000000 in
set_option maxRecDepth 100000 in
theorem c_X11_nearest {a : Int32} (hD : aDC D) (h : cR T W Z x t) : aDI l mX11_nearest (d + 2) D [.ref bLH, .int a] x (qNear T Z a) x := by
  obtain ⟨ht, hp, ok, hZ, hT, hW, hS⟩ := h
  have h6 := ok.1
  have h8 := ok.2.1
  have e0 : x.1 t 1 = nI (T.1 0) := hT.1
  refine a_metI (by decide) (Nat.le_of_ble_eq_true rfl) rfl ?_
  unfold qNear
  by_cases qa : zIn (T.1 1) a
  · rw [if_pos qa]
    obtain ⟨m, hm, rfl⟩ := zIn_of (by omega) qa
    rw [nI_clamp (by omega)]
    by_cases q : T.1 0 = 0
    · rw [if_pos q]
      rw [q] at e0
      refine a_aload_n (i := 0) dX11_nearest_0 rfl rfl ?_
      refine a_iload_n (i := 1) dX11_nearest_1 rfl rfl ?_
      refine kX11_125 rfl dX11_nearest_2 (Nat.le_of_ble_eq_true rfl) (isLH_0 hD) (c_X11_isMan hD ht hp hT) ?_
      refine a_if_ne (tg := 10) dX11_nearest_5 (by decide) (fun c_5 => ?_) (fun c_5 => ?_)
      · refine a_bipush (v := (-2)) dX11_nearest_10 (by decide) ?_
        refine a_istore_n (i := 2) dX11_nearest_12 rfl (by decide) ?_
        refine a_iconst (v := 0) dX11_nearest_13 (by decide) ?_
        refine a_istore_n (i := 3) dX11_nearest_14 rfl (by decide) ?_
        refine a_iconst (v := 0) dX11_nearest_15 (by decide) ?_
        refine a_istore (i := 4) dX11_nearest_16 (by decide) ?_
        refine a_iload (i := 4) dX11_nearest_18 rfl ?_
        refine a_aload_n (i := 0) dX11_nearest_20 rfl rfl ?_
        refine gX11_23 rfl dX11_nearest_21 (isLH_0 hD) ?_
        rw [hp]
        refine gX11_112 rfl dX11_nearest_24 (isT_0 hD ht) ?_
        rw [e0]
        refine a_icmp_ge (tg := 70) dX11_nearest_27 (by decide) (fun c_27 => ?_) (fun c_27 => ?_)
        · refine a_iload_n (i := 2) dX11_nearest_70 rfl rfl ?_
          exact a_iret dX11_nearest_71 (by exact ⟨rfl, rfl⟩)
        · exact absurd (Int32.le_refl _) c_27
      · exact absurd c_5 (bI_p.mpr qa)
    · rw [if_neg q]
      have L : aV l mX11_nearest (d + 2) D none 18 [(0, .ref bLH), (1, .int (nI m)), (2, .int (nI 0)), (3, .int (zFar T Z m 0)), (4, .int (nI 1))] [] x (fun v y => v = some (.int (nI (zArg (fun h b => decide (zFar T Z m h < zFar T Z m b)) 1 (T.1 0 - 1) 0))) ∧ y = x) := by
        refine lp_inv (P := fun h b => aV l mX11_nearest (d + 2) D none 18 [(0, .ref bLH), (1, .int (nI m)), (2, .int (nI b)), (3, .int (zFar T Z m b)), (4, .int (nI h))] [] x _) (fun h b => b < h) (fun h b => if decide (zFar T Z m h < zFar T Z m b) then h else b) (N := T.1 0) ?_ ?_ (T.1 0 - 1) 1 0 (by omega) (by decide) ?_
        · intro h b hh hb
          split <;> omega
        · intro h b hh hb ih
          have hn2 : ¬ nI b = -2 := fun g => absurd (show nI b < 0 by rw [g]; decide) (nI_pos (by omega))
          refine a_iload (i := 4) dX11_nearest_18 rfl ?_
          refine a_aload_n (i := 0) dX11_nearest_20 rfl rfl ?_
          refine gX11_23 rfl dX11_nearest_21 (isLH_0 hD) ?_
          rw [hp]
          refine gX11_112 rfl dX11_nearest_24 (isT_0 hD ht) ?_
          rw [e0]
          refine a_icmp_ge (tg := 70) dX11_nearest_27 (by decide) (fun c_27 => ?_) (fun c_27 => ?_)
          · exact absurd c_27 (nI_ge hh (by omega))
          · refine a_aload_n (i := 0) dX11_nearest_30 rfl rfl ?_
            refine gX11_30 rfl dX11_nearest_31 (isLH_0 hD) ?_
            refine a_aload_n (i := 0) dX11_nearest_34 rfl rfl ?_
            refine gX11_23 rfl dX11_nearest_35 (isLH_0 hD) ?_
            rw [hp]
            refine a_iload_n (i := 1) dX11_nearest_38 rfl rfl ?_
            refine a_iload (i := 4) dX11_nearest_39 rfl ?_
            refine kX11_182 rfl dX11_nearest_41 (Nat.le_of_ble_eq_true rfl) (isS_0 hD hbNow) (cz_farOf hD hbNow ht ok hT hS hm hh) ?_
            refine a_istore (i := 5) dX11_nearest_44 (by decide) ?_
            refine a_iload_n (i := 2) dX11_nearest_46 rfl rfl ?_
            refine a_bipush (v := (-2)) dX11_nearest_47 (by decide) ?_
            refine a_icmp_eq (tg := 58) dX11_nearest_49 (by decide) (fun c_49 => ?_) (fun c_49 => ?_)
            · exact absurd c_49 hn2
            · refine a_iload (i := 5) dX11_nearest_52 rfl ?_
              refine a_iload_n (i := 3) dX11_nearest_54 rfl rfl ?_
              refine a_icmp_ge (tg := 64) dX11_nearest_55 (by decide) (fun c_55 => ?_) (fun c_55 => ?_)
              · rw [if_neg (by intro g; exact absurd c_55 (Int32.not_le.mpr (of_decide_eq_true g)))] at ih
                refine a_iincK (i := 4) (u := 1) dX11_nearest_64 rfl (by decide) (by decide) ?_
                refine a_goto (tg := 18) dX11_nearest_67 (by decide) ?_
                rw [nI_1]; exact a_loc _ rfl ih
              · rw [if_pos (decide_eq_true (Int32.not_le.mp c_55))] at ih
                refine a_iload (i := 4) dX11_nearest_58 rfl ?_
                refine a_istore_n (i := 2) dX11_nearest_60 rfl (by decide) ?_
                refine a_iload (i := 5) dX11_nearest_61 rfl ?_
                refine a_istore_n (i := 3) dX11_nearest_63 rfl (by decide) ?_
                refine a_iincK (i := 4) (u := 1) dX11_nearest_64 rfl (by decide) (by decide) ?_
                refine a_goto (tg := 18) dX11_nearest_67 (by decide) ?_
                rw [nI_1]; exact a_loc _ rfl ih
        · intro _
          refine a_iload (i := 4) dX11_nearest_18 rfl ?_
          refine a_aload_n (i := 0) dX11_nearest_20 rfl rfl ?_
          refine gX11_23 rfl dX11_nearest_21 (isLH_0 hD) ?_
          rw [hp]
          refine gX11_112 rfl dX11_nearest_24 (isT_0 hD ht) ?_
          rw [e0]
          refine a_icmp_ge (tg := 70) dX11_nearest_27 (by decide) (fun c_27 => ?_) (fun c_27 => ?_)
          · refine a_iload_n (i := 2) dX11_nearest_70 rfl rfl ?_
            exact a_iret dX11_nearest_71 (by exact ⟨rfl, rfl⟩)
          · exact absurd (Int32.le_refl _) c_27
      have L0 : aV l mX11_nearest (d + 2) D none 18 [(0, .ref bLH), (1, .int (nI m)), (2, .int (-2)), (3, .int 0), (4, .int (nI 0))] [] x (fun v y => v = some (.int (nI (zArg (fun h b => decide (zFar T Z m h < zFar T Z m b)) 1 (T.1 0 - 1) 0))) ∧ y = x) := by
        refine a_iload (i := 4) dX11_nearest_18 rfl ?_
        refine a_aload_n (i := 0) dX11_nearest_20 rfl rfl ?_
        refine gX11_23 rfl dX11_nearest_21 (isLH_0 hD) ?_
        rw [hp]
        refine gX11_112 rfl dX11_nearest_24 (isT_0 hD ht) ?_
        rw [e0]
        refine a_icmp_ge (tg := 70) dX11_nearest_27 (by decide) (fun c_27 => ?_) (fun c_27 => ?_)
        · exact absurd c_27 (nI_ge (show 0 < T.1 0 by omega) (by omega))
        · refine a_aload_n (i := 0) dX11_nearest_30 rfl rfl ?_
          refine gX11_30 rfl dX11_nearest_31 (isLH_0 hD) ?_
          refine a_aload_n (i := 0) dX11_nearest_34 rfl rfl ?_
          refine gX11_23 rfl dX11_nearest_35 (isLH_0 hD) ?_
          rw [hp]
          refine a_iload_n (i := 1) dX11_nearest_38 rfl rfl ?_
          refine a_iload (i := 4) dX11_nearest_39 rfl ?_
          refine kX11_182 rfl dX11_nearest_41 (Nat.le_of_ble_eq_true rfl) (isS_0 hD hbNow) (cz_farOf hD hbNow ht ok hT hS hm (show 0 < T.1 0 by omega)) ?_
          refine a_istore (i := 5) dX11_nearest_44 (by decide) ?_
          refine a_iload_n (i := 2) dX11_nearest_46 rfl rfl ?_
          refine a_bipush (v := (-2)) dX11_nearest_47 (by decide) ?_
          refine a_icmp_eq (tg := 58) dX11_nearest_49 (by decide) (fun c_49 => ?_) (fun c_49 => ?_)
          · refine a_iload (i := 4) dX11_nearest_58 rfl ?_
            refine a_istore_n (i := 2) dX11_nearest_60 rfl (by decide) ?_
            refine a_iload (i := 5) dX11_nearest_61 rfl ?_
            refine a_istore_n (i := 3) dX11_nearest_63 rfl (by decide) ?_
            refine a_iincK (i := 4) (u := 1) dX11_nearest_64 rfl (by decide) (by decide) ?_
            refine a_goto (tg := 18) dX11_nearest_67 (by decide) ?_
            rw [nI_1]; exact a_loc _ rfl L
          · exact absurd rfl c_49
      refine a_aload_n (i := 0) dX11_nearest_0 rfl rfl ?_
      refine a_iload_n (i := 1) dX11_nearest_1 rfl rfl ?_
      refine kX11_125 rfl dX11_nearest_2 (Nat.le_of_ble_eq_true rfl) (isLH_0 hD) (c_X11_isMan hD ht hp hT) ?_
      refine a_if_ne (tg := 10) dX11_nearest_5 (by decide) (fun c_5 => ?_) (fun c_5 => ?_)
      · refine a_bipush (v := (-2)) dX11_nearest_10 (by decide) ?_
        refine a_istore_n (i := 2) dX11_nearest_12 rfl (by decide) ?_
        refine a_iconst (v := 0) dX11_nearest_13 (by decide) ?_
        refine a_istore_n (i := 3) dX11_nearest_14 rfl (by decide) ?_
        refine a_iconst (v := 0) dX11_nearest_15 (by decide) ?_
        refine a_istore (i := 4) dX11_nearest_16 (by decide) ?_
        exact a_loc _ rfl L0
      · exact absurd c_5 (bI_p.mpr qa)
  · rw [if_neg qa]
    refine a_aload_n (i := 0) dX11_nearest_0 rfl rfl ?_
    refine a_iload_n (i := 1) dX11_nearest_1 rfl rfl ?_
    refine kX11_125 rfl dX11_nearest_2 (Nat.le_of_ble_eq_true rfl) (isLH_0 hD) (c_X11_isMan hD ht hp hT) ?_
    refine a_if_ne (tg := 10) dX11_nearest_5 (by decide) (fun c_5 => ?_) (fun c_5 => ?_)
    · exact absurd (bI_p.mp c_5) qa
    · refine a_iconst (v := (-1)) dX11_nearest_8 (by decide) ?_
      exact a_iret dX11_nearest_9 (by exact ⟨rfl, rfl⟩)
set_option maxHeartbeats 4000000 in
set_option maxRecDepth 100000 in
theorem c_X12_nearest {a : Int32} (hM : D 12 = true) (h : mR T W Z x) : aDI l mX12_nearest (d + 3) D [.ref bM, .int a] x (qNear T Z a) (aWr x bM 2 0) := by
  obtain ⟨ok, hZ, hT, hW, hS⟩ := mR_0 h
  refine a_metI (by decide) (Nat.le_of_ble_eq_true rfl) rfl ?_
  refine a_aload_n (i := 0) dX12_nearest_0 rfl rfl ?_
  refine a_iconst (v := 0) dX12_nearest_1 (by decide) ?_
  refine pX12_175 rfl dX12_nearest_2 (isM_0 hM) ?_
  refine a_loc [(0, .ref bM), (1, .int a)] rfl ?_
  generalize aWr x bM 2 0 = y at *
  have h6 := ok.1
  have h8 := ok.2.1
  have e0 : y.1 bM 12 = nI (T.1 0) := hT.1
  unfold qNear
  by_cases qa : zIn (T.1 1) a
  · rw [if_pos qa]
    obtain ⟨m, hm, rfl⟩ := zIn_of (by omega) qa
    rw [nI_clamp (by omega)]
    by_cases q : T.1 0 = 0
    · rw [if_pos q]
      rw [q] at e0
      refine a_aload_n (i := 0) dX12_nearest_5 rfl rfl ?_
      refine a_iload_n (i := 1) dX12_nearest_6 rfl rfl ?_
      refine kX12_492 rfl dX12_nearest_7 (Nat.le_of_ble_eq_true rfl) (isM_0 hM) (c_X12_isMan hM hT) ?_
      refine a_if_ne (tg := 15) dX12_nearest_10 (by decide) (fun c_10 => ?_) (fun c_10 => ?_)
      · refine a_bipush (v := (-2)) dX12_nearest_15 (by decide) ?_
        refine a_istore_n (i := 2) dX12_nearest_17 rfl (by decide) ?_
        refine a_iconst (v := 0) dX12_nearest_18 (by decide) ?_
        refine a_istore_n (i := 3) dX12_nearest_19 rfl (by decide) ?_
        refine a_iload_n (i := 3) dX12_nearest_20 rfl rfl ?_
        refine a_aload_n (i := 0) dX12_nearest_21 rfl rfl ?_
        refine gX12_258 rfl dX12_nearest_22 (isM_0 hM) ?_
        rw [e0]
        refine a_icmp_ge (tg := 59) dX12_nearest_25 (by decide) (fun c_25 => ?_) (fun c_25 => ?_)
        · refine a_iload_n (i := 2) dX12_nearest_59 rfl rfl ?_
          exact a_iret dX12_nearest_60 (by exact ⟨rfl, rfl⟩)
        · exact absurd (Int32.le_refl _) c_25
      · exact absurd c_10 (bI_p.mpr qa)
    · rw [if_neg q]
      have L : aV l mX12_nearest (d + 3) D none 20 [(0, .ref bM), (1, .int (nI m)), (2, .int (nI 0)), (3, .int (nI 1))] [] y (fun v w => v = some (.int (nI (zArg (fun h b => decide (zFar T Z m h < zFar T Z m b)) 1 (T.1 0 - 1) 0))) ∧ w = y) := by
        refine lp_inv (P := fun h b => aV l mX12_nearest (d + 3) D none 20 [(0, .ref bM), (1, .int (nI m)), (2, .int (nI b)), (3, .int (nI h))] [] y _) (fun h b => b < h) (fun h b => if decide (zFar T Z m h < zFar T Z m b) then h else b) (N := T.1 0) ?_ ?_ (T.1 0 - 1) 1 0 (by omega) (by decide) ?_
        · intro h b hh hb
          split <;> omega
        · intro h b hh hb ih
          refine a_iload_n (i := 3) dX12_nearest_20 rfl rfl ?_
          refine a_aload_n (i := 0) dX12_nearest_21 rfl rfl ?_
          refine gX12_258 rfl dX12_nearest_22 (isM_0 hM) ?_
          rw [e0]
          refine a_icmp_ge (tg := 59) dX12_nearest_25 (by decide) (fun c_25 => ?_) (fun c_25 => ?_)
          · exact absurd c_25 (nI_ge hh (by omega))
          · refine a_iload_n (i := 2) dX12_nearest_28 rfl rfl ?_
            refine a_if_lt (tg := 51) dX12_nearest_29 (by decide) (fun c_29 => ?_) (fun c_29 => ?_)
            · exact absurd c_29 (nI_pos (by omega))
            · refine a_aload_n (i := 0) dX12_nearest_32 rfl rfl ?_
              refine a_iconst (v := 0) dX12_nearest_33 (by decide) ?_
              refine a_iload_n (i := 1) dX12_nearest_34 rfl rfl ?_
              refine a_iload_n (i := 3) dX12_nearest_35 rfl rfl ?_
              refine a_iconst (v := 0) dX12_nearest_36 (by decide) ?_
              refine kX12_502 rfl dX12_nearest_37 (Nat.le_of_ble_eq_true rfl) (isM_0 hM) (mz_farBut (i := 0) hM (by decide) ok hZ hT hS hm hh) ?_
              refine a_aload_n (i := 0) dX12_nearest_40 rfl rfl ?_
              refine a_iconst (v := 0) dX12_nearest_41 (by decide) ?_
              refine a_iload_n (i := 1) dX12_nearest_42 rfl rfl ?_
              refine a_iload_n (i := 2) dX12_nearest_43 rfl rfl ?_
              refine a_iconst (v := 0) dX12_nearest_44 (by decide) ?_
              refine kX12_502 rfl dX12_nearest_45 (Nat.le_of_ble_eq_true rfl) (isM_0 hM) (mz_farBut (i := 0) hM (by decide) ok hZ hT hS hm (show b < T.1 0 by omega)) ?_
              refine a_icmp_ge (tg := 53) dX12_nearest_48 (by decide) (fun c_48 => ?_) (fun c_48 => ?_)
              · rw [if_neg (by intro g; exact absurd c_48 (Int32.not_le.mpr (of_decide_eq_true g)))] at ih
                refine a_iincK (i := 3) (u := 1) dX12_nearest_53 rfl (by decide) (by decide) ?_
                refine a_goto (tg := 20) dX12_nearest_56 (by decide) ?_
                rw [nI_1]; exact a_loc _ rfl ih
              · rw [if_pos (decide_eq_true (Int32.not_le.mp c_48))] at ih
                refine a_iload_n (i := 3) dX12_nearest_51 rfl rfl ?_
                refine a_istore_n (i := 2) dX12_nearest_52 rfl (by decide) ?_
                refine a_iincK (i := 3) (u := 1) dX12_nearest_53 rfl (by decide) (by decide) ?_
                refine a_goto (tg := 20) dX12_nearest_56 (by decide) ?_
                rw [nI_1]; exact a_loc _ rfl ih
        · intro _
          refine a_iload_n (i := 3) dX12_nearest_20 rfl rfl ?_
          refine a_aload_n (i := 0) dX12_nearest_21 rfl rfl ?_
          refine gX12_258 rfl dX12_nearest_22 (isM_0 hM) ?_
          rw [e0]
          refine a_icmp_ge (tg := 59) dX12_nearest_25 (by decide) (fun c_25 => ?_) (fun c_25 => ?_)
          · refine a_iload_n (i := 2) dX12_nearest_59 rfl rfl ?_
            exact a_iret dX12_nearest_60 (by exact ⟨rfl, rfl⟩)
          · exact absurd (Int32.le_refl _) c_25
      have L0 : aV l mX12_nearest (d + 3) D none 20 [(0, .ref bM), (1, .int (nI m)), (2, .int (-2)), (3, .int (nI 0))] [] y (fun v w => v = some (.int (nI (zArg (fun h b => decide (zFar T Z m h < zFar T Z m b)) 1 (T.1 0 - 1) 0))) ∧ w = y) := by
        refine a_iload_n (i := 3) dX12_nearest_20 rfl rfl ?_
        refine a_aload_n (i := 0) dX12_nearest_21 rfl rfl ?_
        refine gX12_258 rfl dX12_nearest_22 (isM_0 hM) ?_
        rw [e0]
        refine a_icmp_ge (tg := 59) dX12_nearest_25 (by decide) (fun c_25 => ?_) (fun c_25 => ?_)
        · exact absurd c_25 (nI_ge (show 0 < T.1 0 by omega) (by omega))
        · refine a_iload_n (i := 2) dX12_nearest_28 rfl rfl ?_
          refine a_if_lt (tg := 51) dX12_nearest_29 (by decide) (fun c_29 => ?_) (fun c_29 => ?_)
          · refine a_iload_n (i := 3) dX12_nearest_51 rfl rfl ?_
            refine a_istore_n (i := 2) dX12_nearest_52 rfl (by decide) ?_
            refine a_iincK (i := 3) (u := 1) dX12_nearest_53 rfl (by decide) (by decide) ?_
            refine a_goto (tg := 20) dX12_nearest_56 (by decide) ?_
            rw [nI_1]; exact a_loc _ rfl L
          · exact absurd (by decide) c_29
      refine a_aload_n (i := 0) dX12_nearest_5 rfl rfl ?_
      refine a_iload_n (i := 1) dX12_nearest_6 rfl rfl ?_
      refine kX12_492 rfl dX12_nearest_7 (Nat.le_of_ble_eq_true rfl) (isM_0 hM) (c_X12_isMan hM hT) ?_
      refine a_if_ne (tg := 15) dX12_nearest_10 (by decide) (fun c_10 => ?_) (fun c_10 => ?_)
      · refine a_bipush (v := (-2)) dX12_nearest_15 (by decide) ?_
        refine a_istore_n (i := 2) dX12_nearest_17 rfl (by decide) ?_
        refine a_iconst (v := 0) dX12_nearest_18 (by decide) ?_
        refine a_istore_n (i := 3) dX12_nearest_19 rfl (by decide) ?_
        exact a_loc _ rfl L0
      · exact absurd c_10 (bI_p.mpr qa)
  · rw [if_neg qa]
    refine a_aload_n (i := 0) dX12_nearest_5 rfl rfl ?_
    refine a_iload_n (i := 1) dX12_nearest_6 rfl rfl ?_
    refine kX12_492 rfl dX12_nearest_7 (Nat.le_of_ble_eq_true rfl) (isM_0 hM) (c_X12_isMan hM hT) ?_
    refine a_if_ne (tg := 15) dX12_nearest_10 (by decide) (fun c_10 => ?_) (fun c_10 => ?_)
    · exact absurd (bI_p.mp c_10) qa
    · refine a_iconst (v := (-1)) dX12_nearest_13 (by decide) ?_
      exact a_iret dX12_nearest_14 (by exact ⟨rfl, rfl⟩)
def zFt (T : zT) (Z : zS) (m : Nat) : Int32 := T.2.1 3 m * 8 + Z.1 3 m
def qBarest (T : zT) (Z : zS) : Int32 := if T.1 1 = 0 then -2 else nI (zArg (fun h b => decide (zFt T Z h < zFt T Z b)) 1 (T.1 1 - 1) 0)
set_option maxHeartbeats 4000000 in
set_option maxRecDepth 100000 in
theorem c_X11_barest (hD : aDC D) (h : cR T W Z x t) : aDI l mX11_barest d D [.ref bLH] x (qBarest T Z) x := by
  obtain ⟨ht, hp, ok, hZ, hT, hW, hS⟩ := h
  have h8 := ok.2.1
  have e0 : x.1 t 4 = nI (T.1 1) := hT.2.1
  have f1 : ∀ h, h < T.1 1 → x.1 (t + 8) h = T.2.1 3 h := fun h hh => (hT.2.2.2.2.2.2.2.2.2.2.1 h hh).2.2.1
  have f2 : ∀ h, h < T.1 1 → x.1 (bNow + 11) h = Z.1 3 h := fun h hh => (hS.2.2.2 h hh).2.1
  refine a_metI (by decide) (Nat.le_of_ble_eq_true rfl) rfl ?_
  have ezc : ∀ h, T.2.1 3 h * 8 + Z.1 3 h = zFt T Z h := fun _ => rfl
  unfold qBarest
  by_cases q : T.1 1 = 0
  · rw [if_pos q]
    rw [q] at e0
    refine a_bipush (v := (-2)) dX11_barest_0 (by decide) ?_
    refine a_istore_n (i := 1) dX11_barest_2 rfl (by decide) ?_
    refine a_iconst (v := 0) dX11_barest_3 (by decide) ?_
    refine a_istore_n (i := 2) dX11_barest_4 rfl (by decide) ?_
    refine a_iconst (v := 0) dX11_barest_5 (by decide) ?_
    refine a_istore_n (i := 3) dX11_barest_6 rfl (by decide) ?_
    refine a_iload_n (i := 3) dX11_barest_7 rfl rfl ?_
    refine a_aload_n (i := 0) dX11_barest_8 rfl rfl ?_
    refine gX11_23 rfl dX11_barest_9 (isLH_0 hD) ?_
    rw [hp]
    refine gX11_122 rfl dX11_barest_12 (isT_0 hD ht) ?_
    rw [e0]
    refine a_icmp_ge (tg := 65) dX11_barest_15 (by decide) (fun c_15 => ?_) (fun c_15 => ?_)
    · refine a_iload_n (i := 1) dX11_barest_65 rfl rfl ?_
      exact a_iret dX11_barest_66 (by exact ⟨rfl, rfl⟩)
    · exact absurd (Int32.le_refl _) c_15
  · rw [if_neg q]
    have L : aV l mX11_barest d D none 7 [(0, .ref bLH), (1, .int (nI 0)), (2, .int (zFt T Z 0)), (3, .int (nI 1))] [] x (fun v y => v = some (.int (nI (zArg (fun h b => decide (zFt T Z h < zFt T Z b)) 1 (T.1 1 - 1) 0))) ∧ y = x) := by
      refine lp_inv (P := fun h b => aV l mX11_barest d D none 7 [(0, .ref bLH), (1, .int (nI b)), (2, .int (zFt T Z b)), (3, .int (nI h))] [] x _) (fun h b => b < h) (fun h b => if decide (zFt T Z h < zFt T Z b) then h else b) (N := T.1 1) ?_ ?_ (T.1 1 - 1) 1 0 (by omega) (by decide) ?_
      · intro h b hh hb
        split <;> omega
      · intro h b hh hb ih
        have hn2 : ¬ nI b = -2 := fun g => absurd (show nI b < 0 by rw [g]; decide) (nI_pos (by omega))
        refine a_iload_n (i := 3) dX11_barest_7 rfl rfl ?_
        refine a_aload_n (i := 0) dX11_barest_8 rfl rfl ?_
        refine gX11_23 rfl dX11_barest_9 (isLH_0 hD) ?_
        rw [hp]
        refine gX11_122 rfl dX11_barest_12 (isT_0 hD ht) ?_
        rw [e0]
        refine a_icmp_ge (tg := 65) dX11_barest_15 (by decide) (fun c_15 => ?_) (fun c_15 => ?_)
        · exact absurd c_15 (nI_ge hh (by omega))
        · refine a_aload_n (i := 0) dX11_barest_18 rfl rfl ?_
          refine gX11_23 rfl dX11_barest_19 (isLH_0 hD) ?_
          rw [hp]
          refine gX11_138 rfl dX11_barest_22 (isT_0 hD ht) ?_
          refine a_iload_n (i := 3) dX11_barest_25 rfl rfl ?_
          refine a_ialdN dX11_barest_26 (isT_8 hD ht) (by first | with_reducible exact rfl | with_reducible exact ix8 _ _ | with_reducible exact ix12 _ _ | exact rfl) (by omega) (by decide) ?_
          rw [f1 h hh]
          refine a_bipush (v := 8) dX11_barest_27 (by decide) ?_
          refine a_imul dX11_barest_29 ?_
          refine a_aload_n (i := 0) dX11_barest_30 rfl rfl ?_
          refine gX11_30 rfl dX11_barest_31 (isLH_0 hD) ?_
          refine gX11_144 rfl dX11_barest_34 (isS_0 hD hbNow) ?_
          refine a_iload_n (i := 3) dX11_barest_37 rfl rfl ?_
          refine a_ialdN dX11_barest_38 (isS_11 hD hbNow) (by first | with_reducible exact rfl | with_reducible exact ix8 _ _ | with_reducible exact ix12 _ _ | exact rfl) (by omega) (by decide) ?_
          rw [f2 h hh]
          refine a_iadd dX11_barest_39 ?_
          rw [ezc h]
          refine a_istore (i := 4) dX11_barest_40 (by decide) ?_
          refine a_iload_n (i := 1) dX11_barest_42 rfl rfl ?_
          refine a_bipush (v := (-2)) dX11_barest_43 (by decide) ?_
          refine a_icmp_eq (tg := 54) dX11_barest_45 (by decide) (fun c_45 => ?_) (fun c_45 => ?_)
          · exact absurd c_45 hn2
          · refine a_iload (i := 4) dX11_barest_48 rfl ?_
            refine a_iload_n (i := 2) dX11_barest_50 rfl rfl ?_
            refine a_icmp_ge (tg := 59) dX11_barest_51 (by decide) (fun c_51 => ?_) (fun c_51 => ?_)
            · rw [if_neg (by intro g; exact absurd c_51 (Int32.not_le.mpr (of_decide_eq_true g)))] at ih
              refine a_iincK (i := 3) (u := 1) dX11_barest_59 rfl (by decide) (by decide) ?_
              refine a_goto (tg := 7) dX11_barest_62 (by decide) ?_
              rw [nI_1]; exact a_loc _ rfl ih
            · rw [if_pos (decide_eq_true (Int32.not_le.mp c_51))] at ih
              refine a_iload_n (i := 3) dX11_barest_54 rfl rfl ?_
              refine a_istore_n (i := 1) dX11_barest_55 rfl (by decide) ?_
              refine a_iload (i := 4) dX11_barest_56 rfl ?_
              refine a_istore_n (i := 2) dX11_barest_58 rfl (by decide) ?_
              refine a_iincK (i := 3) (u := 1) dX11_barest_59 rfl (by decide) (by decide) ?_
              refine a_goto (tg := 7) dX11_barest_62 (by decide) ?_
              rw [nI_1]; exact a_loc _ rfl ih
      · intro _
        refine a_iload_n (i := 3) dX11_barest_7 rfl rfl ?_
        refine a_aload_n (i := 0) dX11_barest_8 rfl rfl ?_
        refine gX11_23 rfl dX11_barest_9 (isLH_0 hD) ?_
        rw [hp]
        refine gX11_122 rfl dX11_barest_12 (isT_0 hD ht) ?_
        rw [e0]
        refine a_icmp_ge (tg := 65) dX11_barest_15 (by decide) (fun c_15 => ?_) (fun c_15 => ?_)
        · refine a_iload_n (i := 1) dX11_barest_65 rfl rfl ?_
          exact a_iret dX11_barest_66 (by exact ⟨rfl, rfl⟩)
        · exact absurd (Int32.le_refl _) c_15
    have L0 : aV l mX11_barest d D none 7 [(0, .ref bLH), (1, .int (-2)), (2, .int 0), (3, .int (nI 0))] [] x (fun v y => v = some (.int (nI (zArg (fun h b => decide (zFt T Z h < zFt T Z b)) 1 (T.1 1 - 1) 0))) ∧ y = x) := by
      refine a_iload_n (i := 3) dX11_barest_7 rfl rfl ?_
      refine a_aload_n (i := 0) dX11_barest_8 rfl rfl ?_
      refine gX11_23 rfl dX11_barest_9 (isLH_0 hD) ?_
      rw [hp]
      refine gX11_122 rfl dX11_barest_12 (isT_0 hD ht) ?_
      rw [e0]
      refine a_icmp_ge (tg := 65) dX11_barest_15 (by decide) (fun c_15 => ?_) (fun c_15 => ?_)
      · exact absurd c_15 (nI_ge (show 0 < T.1 1 by omega) (by omega))
      · refine a_aload_n (i := 0) dX11_barest_18 rfl rfl ?_
        refine gX11_23 rfl dX11_barest_19 (isLH_0 hD) ?_
        rw [hp]
        refine gX11_138 rfl dX11_barest_22 (isT_0 hD ht) ?_
        refine a_iload_n (i := 3) dX11_barest_25 rfl rfl ?_
        refine a_ialdN dX11_barest_26 (isT_8 hD ht) (by first | with_reducible exact rfl | with_reducible exact ix8 _ _ | with_reducible exact ix12 _ _ | exact rfl) (by omega) (by decide) ?_
        rw [f1 0 (by omega)]
        refine a_bipush (v := 8) dX11_barest_27 (by decide) ?_
        refine a_imul dX11_barest_29 ?_
        refine a_aload_n (i := 0) dX11_barest_30 rfl rfl ?_
        refine gX11_30 rfl dX11_barest_31 (isLH_0 hD) ?_
        refine gX11_144 rfl dX11_barest_34 (isS_0 hD hbNow) ?_
        refine a_iload_n (i := 3) dX11_barest_37 rfl rfl ?_
        refine a_ialdN dX11_barest_38 (isS_11 hD hbNow) (by first | with_reducible exact rfl | with_reducible exact ix8 _ _ | with_reducible exact ix12 _ _ | exact rfl) (by omega) (by decide) ?_
        rw [f2 0 (by omega)]
        refine a_iadd dX11_barest_39 ?_
        rw [ezc 0]
        refine a_istore (i := 4) dX11_barest_40 (by decide) ?_
        refine a_iload_n (i := 1) dX11_barest_42 rfl rfl ?_
        refine a_bipush (v := (-2)) dX11_barest_43 (by decide) ?_
        refine a_icmp_eq (tg := 54) dX11_barest_45 (by decide) (fun c_45 => ?_) (fun c_45 => ?_)
        · refine a_iload_n (i := 3) dX11_barest_54 rfl rfl ?_
          refine a_istore_n (i := 1) dX11_barest_55 rfl (by decide) ?_
          refine a_iload (i := 4) dX11_barest_56 rfl ?_
          refine a_istore_n (i := 2) dX11_barest_58 rfl (by decide) ?_
          refine a_iincK (i := 3) (u := 1) dX11_barest_59 rfl (by decide) (by decide) ?_
          refine a_goto (tg := 7) dX11_barest_62 (by decide) ?_
          rw [nI_1]; exact a_loc _ rfl L
        · exact absurd rfl c_45
    refine a_bipush (v := (-2)) dX11_barest_0 (by decide) ?_
    refine a_istore_n (i := 1) dX11_barest_2 rfl (by decide) ?_
    refine a_iconst (v := 0) dX11_barest_3 (by decide) ?_
    refine a_istore_n (i := 2) dX11_barest_4 rfl (by decide) ?_
    refine a_iconst (v := 0) dX11_barest_5 (by decide) ?_
    refine a_istore_n (i := 3) dX11_barest_6 rfl (by decide) ?_
    exact a_loc _ rfl L0
set_option maxHeartbeats 4000000 in
set_option maxRecDepth 100000 in
theorem c_X12_barest (hM : D 12 = true) (h : mR T W Z x) : aDI l mX12_barest d D [.ref bM] x (qBarest T Z) (aWr x bM 2 0) := by
  obtain ⟨ok, hZ, hT, hW, hS⟩ := mR_0 h
  refine a_metI (by decide) (Nat.le_of_ble_eq_true rfl) rfl ?_
  refine a_aload_n (i := 0) dX12_barest_0 rfl rfl ?_
  refine a_iconst (v := 0) dX12_barest_1 (by decide) ?_
  refine pX12_175 rfl dX12_barest_2 (isM_0 hM) ?_
  refine a_loc [(0, .ref bM)] rfl ?_
  generalize aWr x bM 2 0 = y at *
  have h8 := ok.2.1
  have e0 : y.1 bM 13 = nI (T.1 1) := hT.2.1
  have f1 : ∀ h, h < T.1 1 → y.1 (bM + 31) h = T.2.1 3 h := fun h hh => (hT.2.2.2.2.2.2.2.2.2.1 h hh).2.2.1
  have f2 : ∀ h, h < T.1 1 → y.1 (bM + 65) h = Z.1 3 h := fun h hh => by have := (hS.2.2.2 h hh).2.1; rwa [Nat.mul_zero, Nat.zero_add] at this
  have ez : ∀ h, 8 * T.2.1 3 h + Z.1 3 h = zFt T Z h := fun h => by unfold zFt; rw [Int32.mul_comm]
  unfold qBarest
  by_cases q : T.1 1 = 0
  · rw [if_pos q]
    rw [q] at e0
    refine a_bipush (v := (-2)) dX12_barest_5 (by decide) ?_
    refine a_istore_n (i := 1) dX12_barest_7 rfl (by decide) ?_
    refine a_iconst (v := 0) dX12_barest_8 (by decide) ?_
    refine a_istore_n (i := 2) dX12_barest_9 rfl (by decide) ?_
    refine a_iload_n (i := 2) dX12_barest_10 rfl rfl ?_
    refine a_aload_n (i := 0) dX12_barest_11 rfl rfl ?_
    refine gX12_261 rfl dX12_barest_12 (isM_0 hM) ?_
    rw [e0]
    refine a_icmp_ge (tg := 69) dX12_barest_15 (by decide) (fun c_15 => ?_) (fun c_15 => ?_)
    · refine a_iload_n (i := 1) dX12_barest_69 rfl rfl ?_
      exact a_iret dX12_barest_70 (by exact ⟨rfl, rfl⟩)
    · exact absurd (Int32.le_refl _) c_15
  · rw [if_neg q]
    have L : aV l mX12_barest d D none 10 [(0, .ref bM), (1, .int (nI 0)), (2, .int (nI 1))] [] y (fun v w => v = some (.int (nI (zArg (fun h b => decide (zFt T Z h < zFt T Z b)) 1 (T.1 1 - 1) 0))) ∧ w = y) := by
      refine lp_inv (P := fun h b => aV l mX12_barest d D none 10 [(0, .ref bM), (1, .int (nI b)), (2, .int (nI h))] [] y _) (fun h b => b < h) (fun h b => if decide (zFt T Z h < zFt T Z b) then h else b) (N := T.1 1) ?_ ?_ (T.1 1 - 1) 1 0 (by omega) (by decide) ?_
      · intro h b hh hb
        split <;> omega
      · intro h b hh hb ih
        refine a_iload_n (i := 2) dX12_barest_10 rfl rfl ?_
        refine a_aload_n (i := 0) dX12_barest_11 rfl rfl ?_
        refine gX12_261 rfl dX12_barest_12 (isM_0 hM) ?_
        rw [e0]
        refine a_icmp_ge (tg := 69) dX12_barest_15 (by decide) (fun c_15 => ?_) (fun c_15 => ?_)
        · exact absurd c_15 (nI_ge hh (by omega))
        · refine a_iload_n (i := 1) dX12_barest_18 rfl rfl ?_
          refine a_if_lt (tg := 57) dX12_barest_19 (by decide) (fun c_19 => ?_) (fun c_19 => ?_)
          · exact absurd c_19 (nI_pos (by omega))
          · refine a_bipush (v := 8) dX12_barest_22 (by decide) ?_
            refine a_aload_n (i := 0) dX12_barest_24 rfl rfl ?_
            refine gX12_39 rfl dX12_barest_25 (isM_0 hM) ?_
            refine a_iload_n (i := 2) dX12_barest_28 rfl rfl ?_
            refine a_ialdN dX12_barest_29 (isM_31 hM) (by first | with_reducible exact rfl | with_reducible exact ix8 _ _ | with_reducible exact ix12 _ _ | exact rfl) (by omega) (by decide) ?_
            rw [f1 h hh]
            refine a_imul dX12_barest_30 ?_
            refine a_aload_n (i := 0) dX12_barest_31 rfl rfl ?_
            refine gX12_121 rfl dX12_barest_32 (isM_0 hM) ?_
            refine a_iload_n (i := 2) dX12_barest_35 rfl rfl ?_
            refine a_ialdN dX12_barest_36 (isM_65 hM) (by first | with_reducible exact rfl | with_reducible exact ix8 _ _ | with_reducible exact ix12 _ _ | exact rfl) (by omega) (by decide) ?_
            rw [f2 h hh]
            refine a_iadd dX12_barest_37 ?_
            rw [ez]
            refine a_bipush (v := 8) dX12_barest_38 (by decide) ?_
            refine a_aload_n (i := 0) dX12_barest_40 rfl rfl ?_
            refine gX12_39 rfl dX12_barest_41 (isM_0 hM) ?_
            refine a_iload_n (i := 1) dX12_barest_44 rfl rfl ?_
            refine a_ialdN dX12_barest_45 (isM_31 hM) (by first | with_reducible exact rfl | with_reducible exact ix8 _ _ | with_reducible exact ix12 _ _ | exact rfl) (by omega) (by decide) ?_
            rw [f1 b (by omega)]
            refine a_imul dX12_barest_46 ?_
            refine a_aload_n (i := 0) dX12_barest_47 rfl rfl ?_
            refine gX12_121 rfl dX12_barest_48 (isM_0 hM) ?_
            refine a_iload_n (i := 1) dX12_barest_51 rfl rfl ?_
            refine a_ialdN dX12_barest_52 (isM_65 hM) (by first | with_reducible exact rfl | with_reducible exact ix8 _ _ | with_reducible exact ix12 _ _ | exact rfl) (by omega) (by decide) ?_
            rw [f2 b (by omega)]
            refine a_iadd dX12_barest_53 ?_
            rw [ez]
            refine a_icmp_ge (tg := 61) dX12_barest_54 (by decide) (fun c_54 => ?_) (fun c_54 => ?_)
            · rw [if_neg (by intro g; exact absurd c_54 (Int32.not_le.mpr (of_decide_eq_true g)))] at ih
              refine a_iload_n (i := 1) dX12_barest_61 rfl rfl ?_
              refine a_istore_n (i := 1) dX12_barest_62 rfl (by decide) ?_
              refine a_iincK (i := 2) (u := 1) dX12_barest_63 rfl (by decide) (by decide) ?_
              refine a_goto (tg := 10) dX12_barest_66 (by decide) ?_
              rw [nI_1]; exact a_loc _ rfl ih
            · rw [if_pos (decide_eq_true (Int32.not_le.mp c_54))] at ih
              refine a_iload_n (i := 2) dX12_barest_57 rfl rfl ?_
              refine a_goto (tg := 62) dX12_barest_58 (by decide) ?_
              refine a_istore_n (i := 1) dX12_barest_62 rfl (by decide) ?_
              refine a_iincK (i := 2) (u := 1) dX12_barest_63 rfl (by decide) (by decide) ?_
              refine a_goto (tg := 10) dX12_barest_66 (by decide) ?_
              rw [nI_1]; exact a_loc _ rfl ih
      · intro _
        refine a_iload_n (i := 2) dX12_barest_10 rfl rfl ?_
        refine a_aload_n (i := 0) dX12_barest_11 rfl rfl ?_
        refine gX12_261 rfl dX12_barest_12 (isM_0 hM) ?_
        rw [e0]
        refine a_icmp_ge (tg := 69) dX12_barest_15 (by decide) (fun c_15 => ?_) (fun c_15 => ?_)
        · refine a_iload_n (i := 1) dX12_barest_69 rfl rfl ?_
          exact a_iret dX12_barest_70 (by exact ⟨rfl, rfl⟩)
        · exact absurd (Int32.le_refl _) c_15
    have L0 : aV l mX12_barest d D none 10 [(0, .ref bM), (1, .int (-2)), (2, .int (nI 0))] [] y (fun v w => v = some (.int (nI (zArg (fun h b => decide (zFt T Z h < zFt T Z b)) 1 (T.1 1 - 1) 0))) ∧ w = y) := by
      refine a_iload_n (i := 2) dX12_barest_10 rfl rfl ?_
      refine a_aload_n (i := 0) dX12_barest_11 rfl rfl ?_
      refine gX12_261 rfl dX12_barest_12 (isM_0 hM) ?_
      rw [e0]
      refine a_icmp_ge (tg := 69) dX12_barest_15 (by decide) (fun c_15 => ?_) (fun c_15 => ?_)
      · exact absurd c_15 (nI_ge (show 0 < T.1 1 by omega) (by omega))
      · refine a_iload_n (i := 1) dX12_barest_18 rfl rfl ?_
        refine a_if_lt (tg := 57) dX12_barest_19 (by decide) (fun c_19 => ?_) (fun c_19 => ?_)
        · refine a_iload_n (i := 2) dX12_barest_57 rfl rfl ?_
          refine a_goto (tg := 62) dX12_barest_58 (by decide) ?_
          refine a_istore_n (i := 1) dX12_barest_62 rfl (by decide) ?_
          refine a_iincK (i := 2) (u := 1) dX12_barest_63 rfl (by decide) (by decide) ?_
          refine a_goto (tg := 10) dX12_barest_66 (by decide) ?_
          rw [nI_1]; exact a_loc _ rfl L
        · exact absurd (by decide) c_19
    refine a_bipush (v := (-2)) dX12_barest_5 (by decide) ?_
    refine a_istore_n (i := 1) dX12_barest_7 rfl (by decide) ?_
    refine a_iconst (v := 0) dX12_barest_8 (by decide) ?_
    refine a_istore_n (i := 2) dX12_barest_9 rfl (by decide) ?_
    exact a_loc _ rfl L0
def qWalk (T : zT) (Z : zS) : Int32 := lp (fun m a => if zPinch T Z m = 0 then a ||| (1 <<< (nI m &&& 31)) else a) 0 (T.1 1) 0
set_option maxHeartbeats 4000000 in
set_option maxRecDepth 100000 in
theorem c_X11_walkers (hD : aDC D) (h : cR T W Z x t) : aDI l mX11_walkers (d + 2) D [.ref bLH] x (qWalk T Z) x := by
  obtain ⟨ht, hp, ok, hZ, hT, hW, hS⟩ := h
  have h8 := ok.2.1
  have e0 : x.1 t 4 = nI (T.1 1) := hT.2.1
  refine a_metI (by decide) (Nat.le_of_ble_eq_true rfl) rfl ?_
  refine a_iconst (v := 0) dX11_walkers_0 (by decide) ?_
  refine a_istore_n (i := 1) dX11_walkers_1 rfl (by decide) ?_
  refine a_iconst (v := 0) dX11_walkers_2 (by decide) ?_
  refine a_istore_n (i := 2) dX11_walkers_3 rfl (by decide) ?_
  refine a_loc [(0, .ref bLH), (1, .int 0), (2, .int (nI 0))] rfl ?_
  refine lp_rule (P := fun m a => aV l mX11_walkers (d + 2) D none 4 [(0, .ref bLH), (1, .int a), (2, .int (nI m))] [] x _) (fun m a => if zPinch T Z m = 0 then a ||| (1 <<< (nI m &&& 31)) else a) ?_ (T.1 1) 0 0 (Nat.zero_add _) ?_
  · intro m a hm ih
    refine a_iload_n (i := 2) dX11_walkers_4 rfl rfl ?_
    refine a_aload_n (i := 0) dX11_walkers_5 rfl rfl ?_
    refine gX11_23 rfl dX11_walkers_6 (isLH_0 hD) ?_
    rw [hp]
    refine gX11_122 rfl dX11_walkers_9 (isT_0 hD ht) ?_
    rw [e0]
    refine a_icmp_ge (tg := 42) dX11_walkers_12 (by decide) (fun c_12 => ?_) (fun c_12 => ?_)
    · exact absurd c_12 (nI_ge hm (by omega))
    · refine a_aload_n (i := 0) dX11_walkers_15 rfl rfl ?_
      refine gX11_30 rfl dX11_walkers_16 (isLH_0 hD) ?_
      refine a_aload_n (i := 0) dX11_walkers_19 rfl rfl ?_
      refine gX11_23 rfl dX11_walkers_20 (isLH_0 hD) ?_
      rw [hp]
      refine a_iload_n (i := 2) dX11_walkers_23 rfl rfl ?_
      refine kX11_153 rfl dX11_walkers_24 (Nat.le_of_ble_eq_true rfl) (isS_0 hD hbNow) (cz_pinchOf hD hbNow ht ok hZ hT hS hm) ?_
      refine a_if_ne (tg := 36) dX11_walkers_27 (by decide) (fun c_27 => ?_) (fun c_27 => ?_)
      · rw [if_neg c_27] at ih
        refine a_iincK (i := 2) (u := 1) dX11_walkers_36 rfl (by decide) (by decide) ?_
        refine a_goto (tg := 4) dX11_walkers_39 (by decide) ?_
        rw [nI_1]; exact a_loc _ rfl ih
      · rw [if_pos c_27] at ih
        refine a_iload_n (i := 1) dX11_walkers_30 rfl rfl ?_
        refine a_iconst (v := 1) dX11_walkers_31 (by decide) ?_
        refine a_iload_n (i := 2) dX11_walkers_32 rfl rfl ?_
        refine a_ishl dX11_walkers_33 ?_
        refine a_ior dX11_walkers_34 ?_
        refine a_istore_n (i := 1) dX11_walkers_35 rfl (by decide) ?_
        refine a_iincK (i := 2) (u := 1) dX11_walkers_36 rfl (by decide) (by decide) ?_
        refine a_goto (tg := 4) dX11_walkers_39 (by decide) ?_
        rw [nI_1]; exact a_loc _ rfl ih
  · refine a_iload_n (i := 2) dX11_walkers_4 rfl rfl ?_
    refine a_aload_n (i := 0) dX11_walkers_5 rfl rfl ?_
    refine gX11_23 rfl dX11_walkers_6 (isLH_0 hD) ?_
    rw [hp]
    refine gX11_122 rfl dX11_walkers_9 (isT_0 hD ht) ?_
    rw [e0]
    refine a_icmp_ge (tg := 42) dX11_walkers_12 (by decide) (fun c_12 => ?_) (fun c_12 => ?_)
    · refine a_iload_n (i := 1) dX11_walkers_42 rfl rfl ?_
      exact a_iret dX11_walkers_43 (by exact ⟨rfl, rfl⟩)
    · exact absurd (Int32.le_refl _) c_12
set_option maxHeartbeats 4000000 in
set_option maxRecDepth 100000 in
theorem c_X12_walkers (hM : D 12 = true) (h : mR T W Z x) : aDI l mX12_walkers (d + 4) D [.ref bM] x (qWalk T Z) (aWr x bM 2 0) := by
  obtain ⟨ok, hZ, hT, hW, hS⟩ := mR_0 h
  refine a_metI (by decide) (Nat.le_of_ble_eq_true rfl) rfl ?_
  have h8 := ok.2.1
  have e0 : (aWr x bM 2 0).1 bM 13 = nI (T.1 1) := hT.2.1
  refine a_aload_n (i := 0) dX12_walkers_0 rfl rfl ?_
  refine a_iconst (v := 0) dX12_walkers_1 (by decide) ?_
  refine pX12_175 rfl dX12_walkers_2 (isM_0 hM) ?_
  refine a_iconst (v := 0) dX12_walkers_5 (by decide) ?_
  refine a_istore_n (i := 1) dX12_walkers_6 rfl (by decide) ?_
  refine a_iconst (v := 0) dX12_walkers_7 (by decide) ?_
  refine a_istore_n (i := 2) dX12_walkers_8 rfl (by decide) ?_
  refine a_loc [(0, .ref bM), (1, .int 0), (2, .int (nI 0))] rfl ?_
  generalize aWr x bM 2 0 = y at *
  refine lp_rule (P := fun m a => aV l mX12_walkers (d + 4) D none 9 [(0, .ref bM), (1, .int a), (2, .int (nI m))] [] y _) (fun m a => if zPinch T Z m = 0 then a ||| (1 <<< (nI m &&& 31)) else a) ?_ (T.1 1) 0 0 (Nat.zero_add _) ?_
  · intro m a hm ih
    refine a_iload_n (i := 2) dX12_walkers_9 rfl rfl ?_
    refine a_aload_n (i := 0) dX12_walkers_10 rfl rfl ?_
    refine gX12_261 rfl dX12_walkers_11 (isM_0 hM) ?_
    rw [e0]
    refine a_icmp_ge (tg := 42) dX12_walkers_14 (by decide) (fun c_14 => ?_) (fun c_14 => ?_)
    · exact absurd c_14 (nI_ge hm (by omega))
    · refine a_iload_n (i := 1) dX12_walkers_17 rfl rfl ?_
      refine a_aload_n (i := 0) dX12_walkers_18 rfl rfl ?_
      refine a_iconst (v := 0) dX12_walkers_19 (by decide) ?_
      refine a_iload_n (i := 2) dX12_walkers_20 rfl rfl ?_
      refine kX12_443 rfl dX12_walkers_21 (Nat.le_of_ble_eq_true rfl) (isM_0 hM) (mz_pinchOf (i := 0) hM (by decide) ok hZ hT hS hm) ?_
      refine a_if_ne (tg := 33) dX12_walkers_24 (by decide) (fun c_24 => ?_) (fun c_24 => ?_)
      · rw [if_neg c_24] at ih
        rw [← Int32.or_zero (a := a)] at ih
        refine a_iconst (v := 0) dX12_walkers_33 (by decide) ?_
        refine a_ior dX12_walkers_34 ?_
        refine a_istore_n (i := 1) dX12_walkers_35 rfl (by decide) ?_
        refine a_iincK (i := 2) (u := 1) dX12_walkers_36 rfl (by decide) (by decide) ?_
        refine a_goto (tg := 9) dX12_walkers_39 (by decide) ?_
        rw [nI_1]; exact a_loc _ rfl ih
      · rw [if_pos c_24] at ih
        refine a_iconst (v := 1) dX12_walkers_27 (by decide) ?_
        refine a_iload_n (i := 2) dX12_walkers_28 rfl rfl ?_
        refine a_ishl dX12_walkers_29 ?_
        refine a_goto (tg := 34) dX12_walkers_30 (by decide) ?_
        refine a_ior dX12_walkers_34 ?_
        refine a_istore_n (i := 1) dX12_walkers_35 rfl (by decide) ?_
        refine a_iincK (i := 2) (u := 1) dX12_walkers_36 rfl (by decide) (by decide) ?_
        refine a_goto (tg := 9) dX12_walkers_39 (by decide) ?_
        rw [nI_1]; exact a_loc _ rfl ih
  · refine a_iload_n (i := 2) dX12_walkers_9 rfl rfl ?_
    refine a_aload_n (i := 0) dX12_walkers_10 rfl rfl ?_
    refine gX12_261 rfl dX12_walkers_11 (isM_0 hM) ?_
    rw [e0]
    refine a_icmp_ge (tg := 42) dX12_walkers_14 (by decide) (fun c_14 => ?_) (fun c_14 => ?_)
    · refine a_iload_n (i := 1) dX12_walkers_42 rfl rfl ?_
      exact a_iret dX12_walkers_43 (by exact ⟨rfl, rfl⟩)
    · exact absurd (Int32.le_refl _) c_14
def qLayer (T : zT) (Z : zS) (a k w : Int32) : Int32 := if zIn (T.1 0) a then (if w = 0 then nI (Z.2 1 a.toNatClampNeg) else if zIn (Z.2 1 a.toNatClampNeg) k then (if w = 1 then nI (Z.2 2 (a.toNatClampNeg * 12 + k.toNatClampNeg)) else if w = 2 then Z.1 2 (a.toNatClampNeg * 12 + k.toNatClampNeg) else -2147483648) else -2147483648) else -2147483648
set_option maxHeartbeats 4000000 in
set_option maxRecDepth 100000 in
theorem c_X11_layer {a c e : Int32} (hD : aDC D) (h : cR T W Z x t) : aDI l mX11_layer (d + 1) D [.ref bLH, .int a, .int c, .int e] x (qLayer T Z a c e) x := by
  obtain ⟨ht, hp, ok, hZ, hT, hW, hS⟩ := h
  have h6 := ok.1
  refine a_metI (by decide) (Nat.le_of_ble_eq_true rfl) rfl ?_
  unfold qLayer
  by_cases q : zIn (T.1 0) a
  · rw [if_pos q]
    obtain ⟨k, hk, rfl⟩ := zIn_of (by omega) q
    rw [nI_clamp (by omega)]
    have f1 := (hS.2.2.1 k hk).2.1
    have c12 := (hZ.2.1 k hk).1
    by_cases q2 : zIn (Z.2 1 k) c
    · rw [if_pos q2]
      obtain ⟨g, hg, rfl⟩ := zIn_of (by omega) q2
      rw [nI_clamp (by omega)]
      obtain ⟨f2, f3⟩ := (hS.2.2.1 k hk).2.2 g hg
      refine a_aload_n (i := 0) dX11_layer_0 rfl rfl ?_
      refine a_iload_n (i := 1) dX11_layer_1 rfl rfl ?_
      refine kX11_162 rfl dX11_layer_2 (Nat.le_of_ble_eq_true rfl) (isLH_0 hD) (c_X11_isHouse hD ht hp hT) ?_
      refine a_if_ne (tg := 11) dX11_layer_5 (by decide) (fun c_5 => ?_) (fun c_5 => ?_)
      · refine a_aload_n (i := 0) dX11_layer_11 rfl rfl ?_
        refine gX11_30 rfl dX11_layer_12 (isLH_0 hD) ?_
        refine gX11_173 rfl dX11_layer_15 (isS_0 hD hbNow) ?_
        refine a_iload_n (i := 1) dX11_layer_18 rfl rfl ?_
        refine a_ialdN dX11_layer_19 (isS_7 hD hbNow) (by first | with_reducible exact rfl | with_reducible exact ix8 _ _ | with_reducible exact ix12 _ _ | exact rfl) (by omega) (by decide) ?_
        rw [f1]
        refine a_istore (i := 4) dX11_layer_20 (by decide) ?_
        refine a_iload_n (i := 3) dX11_layer_22 rfl rfl ?_
        refine a_if_ne (tg := 29) dX11_layer_23 (by decide) (fun c_23 => ?_) (fun c_23 => ?_)
        · rw [if_neg c_23]
          refine a_iload_n (i := 2) dX11_layer_29 rfl rfl ?_
          refine a_if_lt (tg := 39) dX11_layer_30 (by decide) (fun c_30 => ?_) (fun c_30 => ?_)
          · exact absurd q2.1 (Int32.not_le.mpr c_30)
          · refine a_iload_n (i := 2) dX11_layer_33 rfl rfl ?_
            refine a_iload (i := 4) dX11_layer_34 rfl ?_
            refine a_icmp_lt (tg := 42) dX11_layer_36 (by decide) (fun c_36 => ?_) (fun c_36 => ?_)
            · refine a_iload_n (i := 3) dX11_layer_42 rfl rfl ?_
              refine sX11_layer_43 dX11_layer_43 (fun s_43 => ?_) (fun s_43 => ?_) (fun s_43_0 s_43_1 => ?_)
              · refine a_aload_n (i := 0) dX11_layer_68 rfl rfl ?_
                refine gX11_30 rfl dX11_layer_69 (isLH_0 hD) ?_
                refine gX11_176 rfl dX11_layer_72 (isS_0 hD hbNow) ?_
                refine a_iload_n (i := 1) dX11_layer_75 rfl rfl ?_
                refine a_bipush (v := 12) dX11_layer_76 (by decide) ?_
                refine a_imul dX11_layer_78 ?_
                refine a_iload_n (i := 2) dX11_layer_79 rfl rfl ?_
                refine a_iadd dX11_layer_80 ?_
                refine a_ialdN dX11_layer_81 (isS_8 hD hbNow) (by first | with_reducible exact rfl | with_reducible exact ix8 _ _ | with_reducible exact ix12 _ _ | exact rfl) (by omega) (by decide) ?_
                rw [f2]
                exact a_iret dX11_layer_82 (by rw [if_pos s_43]; exact ⟨rfl, rfl⟩)
              · refine a_aload_n (i := 0) dX11_layer_83 rfl rfl ?_
                refine gX11_30 rfl dX11_layer_84 (isLH_0 hD) ?_
                refine gX11_179 rfl dX11_layer_87 (isS_0 hD hbNow) ?_
                refine a_iload_n (i := 1) dX11_layer_90 rfl rfl ?_
                refine a_bipush (v := 12) dX11_layer_91 (by decide) ?_
                refine a_imul dX11_layer_93 ?_
                refine a_iload_n (i := 2) dX11_layer_94 rfl rfl ?_
                refine a_iadd dX11_layer_95 ?_
                refine a_ialdN dX11_layer_96 (isS_9 hD hbNow) (by first | with_reducible exact rfl | with_reducible exact ix8 _ _ | with_reducible exact ix12 _ _ | exact rfl) (by omega) (by decide) ?_
                rw [f3]
                exact a_iret dX11_layer_97 (by rw [if_neg (by rw [s_43]; decide), if_pos s_43]; exact ⟨rfl, rfl⟩)
              · refine a_ldc (v := (-2147483648)) dX11_layer_98 (oX11_168 rfl) ?_
                exact a_iret dX11_layer_100 (by rw [if_neg s_43_0, if_neg s_43_1]; exact ⟨rfl, rfl⟩)
            · exact absurd q2.2 c_36
        · rw [if_pos c_23]
          refine a_iload (i := 4) dX11_layer_26 rfl ?_
          exact a_iret dX11_layer_28 (by exact ⟨rfl, rfl⟩)
      · exact absurd c_5 (bI_p.mpr q)
    · rw [if_neg q2]
      refine a_aload_n (i := 0) dX11_layer_0 rfl rfl ?_
      refine a_iload_n (i := 1) dX11_layer_1 rfl rfl ?_
      refine kX11_162 rfl dX11_layer_2 (Nat.le_of_ble_eq_true rfl) (isLH_0 hD) (c_X11_isHouse hD ht hp hT) ?_
      refine a_if_ne (tg := 11) dX11_layer_5 (by decide) (fun c_5 => ?_) (fun c_5 => ?_)
      · refine a_aload_n (i := 0) dX11_layer_11 rfl rfl ?_
        refine gX11_30 rfl dX11_layer_12 (isLH_0 hD) ?_
        refine gX11_173 rfl dX11_layer_15 (isS_0 hD hbNow) ?_
        refine a_iload_n (i := 1) dX11_layer_18 rfl rfl ?_
        refine a_ialdN dX11_layer_19 (isS_7 hD hbNow) (by first | with_reducible exact rfl | with_reducible exact ix8 _ _ | with_reducible exact ix12 _ _ | exact rfl) (by omega) (by decide) ?_
        rw [f1]
        refine a_istore (i := 4) dX11_layer_20 (by decide) ?_
        refine a_iload_n (i := 3) dX11_layer_22 rfl rfl ?_
        refine a_if_ne (tg := 29) dX11_layer_23 (by decide) (fun c_23 => ?_) (fun c_23 => ?_)
        · rw [if_neg c_23]
          refine a_iload_n (i := 2) dX11_layer_29 rfl rfl ?_
          refine a_if_lt (tg := 39) dX11_layer_30 (by decide) (fun c_30 => ?_) (fun c_30 => ?_)
          · refine a_ldc (v := (-2147483648)) dX11_layer_39 (oX11_168 rfl) ?_
            exact a_iret dX11_layer_41 (by exact ⟨rfl, rfl⟩)
          · refine a_iload_n (i := 2) dX11_layer_33 rfl rfl ?_
            refine a_iload (i := 4) dX11_layer_34 rfl ?_
            refine a_icmp_lt (tg := 42) dX11_layer_36 (by decide) (fun c_36 => ?_) (fun c_36 => ?_)
            · exact absurd ⟨Int32.not_lt.mp c_30, c_36⟩ q2
            · refine a_ldc (v := (-2147483648)) dX11_layer_39 (oX11_168 rfl) ?_
              exact a_iret dX11_layer_41 (by exact ⟨rfl, rfl⟩)
        · rw [if_pos c_23]
          refine a_iload (i := 4) dX11_layer_26 rfl ?_
          exact a_iret dX11_layer_28 (by exact ⟨rfl, rfl⟩)
      · exact absurd c_5 (bI_p.mpr q)
  · rw [if_neg q]
    refine a_aload_n (i := 0) dX11_layer_0 rfl rfl ?_
    refine a_iload_n (i := 1) dX11_layer_1 rfl rfl ?_
    refine kX11_162 rfl dX11_layer_2 (Nat.le_of_ble_eq_true rfl) (isLH_0 hD) (c_X11_isHouse hD ht hp hT) ?_
    refine a_if_ne (tg := 11) dX11_layer_5 (by decide) (fun c_5 => ?_) (fun c_5 => ?_)
    · exact absurd (bI_p.mp c_5) q
    · refine a_ldc (v := (-2147483648)) dX11_layer_8 (oX11_168 rfl) ?_
      exact a_iret dX11_layer_10 (by exact ⟨rfl, rfl⟩)
theorem zIn3 {a : Int32} : (0 ≤ a ∧ a ≤ 2) ↔ zIn 3 a := zIn_le (n := 2) rfl (by decide)
theorem zIn3_of {a : Int32} (h : zIn 3 a) : a = 0 ∨ a = 1 ∨ a = 2 := by
  obtain ⟨k, hk, rfl⟩ := zIn_of (by decide) h
  have : k = 0 ∨ k = 1 ∨ k = 2 := by omega
  rcases this with rfl | rfl | rfl
  · exact Or.inl rfl
  · exact Or.inr (Or.inl rfl)
  · exact Or.inr (Or.inr rfl)
set_option maxHeartbeats 4000000 in
set_option maxRecDepth 100000 in
theorem c_X12_layer {a c e : Int32} (hM : D 12 = true) (h : mR T W Z x) : aDI l mX12_layer (d + 1) D [.ref bM, .int a, .int c, .int e] x (qLayer T Z a c e) (aWr x bM 2 0) := by
  obtain ⟨ok, hZ, hT, hW, hS⟩ := mR_0 h
  refine a_metI (by decide) (Nat.le_of_ble_eq_true rfl) rfl ?_
  refine a_aload_n (i := 0) dX12_layer_0 rfl rfl ?_
  refine a_iconst (v := 0) dX12_layer_1 (by decide) ?_
  refine pX12_175 rfl dX12_layer_2 (isM_0 hM) ?_
  refine a_loc [(0, .ref bM), (1, .int a), (2, .int c), (3, .int e)] rfl ?_
  generalize aWr x bM 2 0 = y at *
  have h6 := ok.1
  unfold qLayer
  by_cases q : zIn (T.1 0) a
  · rw [if_pos q]
    obtain ⟨k, hk, rfl⟩ := zIn_of (by omega) q
    rw [nI_clamp (by omega)]
    have f1 : y.1 (bM + 63) k = nI (Z.2 1 k) := by have := (hS.2.2.1 k hk).2.1; rwa [Nat.mul_zero, Nat.zero_add] at this
    have c12 := (hZ.2.1 k hk).1
    by_cases qe : zIn 3 e
    · by_cases q2 : zIn (Z.2 1 k) c
      · rw [if_pos q2]
        obtain ⟨g, hg, rfl⟩ := zIn_of (by omega) q2
        rw [nI_clamp (by omega)]
        obtain ⟨f2, f3⟩ := (hS.2.2.1 k hk).2.2 g hg
        rw [Nat.mul_zero, Nat.zero_add] at f2 f3
        refine a_aload_n (i := 0) dX12_layer_5 rfl rfl ?_
        refine a_iload_n (i := 1) dX12_layer_6 rfl rfl ?_
        refine kX12_498 rfl dX12_layer_7 (Nat.le_of_ble_eq_true rfl) (isM_0 hM) (c_X12_isHouse hM hT) ?_
        refine a_if_eq (tg := 22) dX12_layer_10 (by decide) (fun c_10 => ?_) (fun c_10 => ?_)
        · exact absurd c_10 (bI_p.mpr q)
        · refine a_iload_n (i := 3) dX12_layer_13 rfl rfl ?_
          refine a_iconst (v := 0) dX12_layer_14 (by decide) ?_
          refine a_iconst (v := 2) dX12_layer_15 (by decide) ?_
          refine kX12_220 rfl dX12_layer_16 (Nat.le_of_ble_eq_true rfl) (c_X12_isIn) ?_
          refine a_if_ne (tg := 26) dX12_layer_19 (by decide) (fun c_19 => ?_) (fun c_19 => ?_)
          · refine a_iload_n (i := 3) dX12_layer_26 rfl rfl ?_
            refine a_if_ne (tg := 37) dX12_layer_27 (by decide) (fun c_27 => ?_) (fun c_27 => ?_)
            · rw [if_neg c_27]
              refine a_iload_n (i := 2) dX12_layer_37 rfl rfl ?_
              refine a_if_lt (tg := 51) dX12_layer_38 (by decide) (fun c_38 => ?_) (fun c_38 => ?_)
              · exact absurd q2.1 (Int32.not_le.mpr c_38)
              · refine a_iload_n (i := 2) dX12_layer_41 rfl rfl ?_
                refine a_aload_n (i := 0) dX12_layer_42 rfl rfl ?_
                refine gX12_115 rfl dX12_layer_43 (isM_0 hM) ?_
                refine a_iload_n (i := 1) dX12_layer_46 rfl rfl ?_
                refine a_ialdN dX12_layer_47 (isM_63 hM) (by first | exact il12 _ _ | with_reducible exact rfl | with_reducible exact ix8 _ _ | with_reducible exact ix12 _ _ | exact rfl) (by omega) (by decide) ?_
                rw [f1]
                refine a_icmp_lt (tg := 55) dX12_layer_48 (by decide) (fun c_48 => ?_) (fun c_48 => ?_)
                · refine a_iload_n (i := 3) dX12_layer_55 rfl rfl ?_
                  refine a_iconst (v := 1) dX12_layer_56 (by decide) ?_
                  refine a_icmp_ne (tg := 74) dX12_layer_57 (by decide) (fun c_57 => ?_) (fun c_57 => ?_)
                  · rw [if_neg c_57, if_pos ((zIn3_of qe).resolve_left c_27 |>.resolve_left c_57)]
                    refine a_aload_n (i := 0) dX12_layer_74 rfl rfl ?_
                    refine gX12_112 rfl dX12_layer_75 (isM_0 hM) ?_
                    refine a_bipush (v := 12) dX12_layer_78 (by decide) ?_
                    refine a_iload_n (i := 1) dX12_layer_80 rfl rfl ?_
                    refine a_imul dX12_layer_81 ?_
                    refine a_iload_n (i := 2) dX12_layer_82 rfl rfl ?_
                    refine a_iadd dX12_layer_83 ?_
                    refine a_ialdN dX12_layer_84 (isM_62 hM) (by first | exact il12 _ _ | with_reducible exact rfl | with_reducible exact ix8 _ _ | with_reducible exact ix12 _ _ | exact rfl) (by omega) (by decide) ?_
                    rw [f3]
                    exact a_iret dX12_layer_85 (by exact ⟨rfl, rfl⟩)
                  · rw [if_pos c_57]
                    refine a_aload_n (i := 0) dX12_layer_60 rfl rfl ?_
                    refine gX12_109 rfl dX12_layer_61 (isM_0 hM) ?_
                    refine a_bipush (v := 12) dX12_layer_64 (by decide) ?_
                    refine a_iload_n (i := 1) dX12_layer_66 rfl rfl ?_
                    refine a_imul dX12_layer_67 ?_
                    refine a_iload_n (i := 2) dX12_layer_68 rfl rfl ?_
                    refine a_iadd dX12_layer_69 ?_
                    refine a_ialdN dX12_layer_70 (isM_61 hM) (by first | exact il12 _ _ | with_reducible exact rfl | with_reducible exact ix8 _ _ | with_reducible exact ix12 _ _ | exact rfl) (by omega) (by decide) ?_
                    rw [f2]
                    refine a_goto (tg := 85) dX12_layer_71 (by decide) ?_
                    exact a_iret dX12_layer_85 (by exact ⟨rfl, rfl⟩)
                · exact absurd q2.2 c_48
            · rw [if_pos c_27]
              refine a_aload_n (i := 0) dX12_layer_30 rfl rfl ?_
              refine gX12_115 rfl dX12_layer_31 (isM_0 hM) ?_
              refine a_iload_n (i := 1) dX12_layer_34 rfl rfl ?_
              refine a_ialdN dX12_layer_35 (isM_63 hM) (by first | exact il12 _ _ | with_reducible exact rfl | with_reducible exact ix8 _ _ | with_reducible exact ix12 _ _ | exact rfl) (by omega) (by decide) ?_
              rw [f1]
              exact a_iret dX12_layer_36 (by exact ⟨rfl, rfl⟩)
          · exact absurd c_19 (bI_p.mpr (zIn3.mpr qe))
      · rw [if_neg q2]
        refine a_aload_n (i := 0) dX12_layer_5 rfl rfl ?_
        refine a_iload_n (i := 1) dX12_layer_6 rfl rfl ?_
        refine kX12_498 rfl dX12_layer_7 (Nat.le_of_ble_eq_true rfl) (isM_0 hM) (c_X12_isHouse hM hT) ?_
        refine a_if_eq (tg := 22) dX12_layer_10 (by decide) (fun c_10 => ?_) (fun c_10 => ?_)
        · exact absurd c_10 (bI_p.mpr q)
        · refine a_iload_n (i := 3) dX12_layer_13 rfl rfl ?_
          refine a_iconst (v := 0) dX12_layer_14 (by decide) ?_
          refine a_iconst (v := 2) dX12_layer_15 (by decide) ?_
          refine kX12_220 rfl dX12_layer_16 (Nat.le_of_ble_eq_true rfl) (c_X12_isIn) ?_
          refine a_if_ne (tg := 26) dX12_layer_19 (by decide) (fun c_19 => ?_) (fun c_19 => ?_)
          · refine a_iload_n (i := 3) dX12_layer_26 rfl rfl ?_
            refine a_if_ne (tg := 37) dX12_layer_27 (by decide) (fun c_27 => ?_) (fun c_27 => ?_)
            · rw [if_neg c_27]
              refine a_iload_n (i := 2) dX12_layer_37 rfl rfl ?_
              refine a_if_lt (tg := 51) dX12_layer_38 (by decide) (fun c_38 => ?_) (fun c_38 => ?_)
              · refine a_ldcw (v := (-2147483648)) dX12_layer_51 (oX12_501 rfl) ?_
                exact a_iret dX12_layer_54 (by exact ⟨rfl, rfl⟩)
              · refine a_iload_n (i := 2) dX12_layer_41 rfl rfl ?_
                refine a_aload_n (i := 0) dX12_layer_42 rfl rfl ?_
                refine gX12_115 rfl dX12_layer_43 (isM_0 hM) ?_
                refine a_iload_n (i := 1) dX12_layer_46 rfl rfl ?_
                refine a_ialdN dX12_layer_47 (isM_63 hM) (by first | with_reducible exact rfl | with_reducible exact ix8 _ _ | with_reducible exact ix12 _ _ | exact rfl) (by omega) (by decide) ?_
                rw [f1]
                refine a_icmp_lt (tg := 55) dX12_layer_48 (by decide) (fun c_48 => ?_) (fun c_48 => ?_)
                · exact absurd ⟨Int32.not_lt.mp c_38, c_48⟩ q2
                · refine a_ldcw (v := (-2147483648)) dX12_layer_51 (oX12_501 rfl) ?_
                  exact a_iret dX12_layer_54 (by exact ⟨rfl, rfl⟩)
            · rw [if_pos c_27]
              refine a_aload_n (i := 0) dX12_layer_30 rfl rfl ?_
              refine gX12_115 rfl dX12_layer_31 (isM_0 hM) ?_
              refine a_iload_n (i := 1) dX12_layer_34 rfl rfl ?_
              refine a_ialdN dX12_layer_35 (isM_63 hM) (by first | with_reducible exact rfl | with_reducible exact ix8 _ _ | with_reducible exact ix12 _ _ | exact rfl) (by omega) (by decide) ?_
              rw [f1]
              exact a_iret dX12_layer_36 (by exact ⟨rfl, rfl⟩)
          · exact absurd c_19 (bI_p.mpr (zIn3.mpr qe))
    · have n0 : ¬ e = 0 := fun g => qe (by rw [g]; exact zIn_nI (n := 3) (k := 0) (by decide) (by decide))
      have n1 : ¬ e = 1 := fun g => qe (by rw [g]; exact zIn_nI (n := 3) (k := 1) (by decide) (by decide))
      have n2 : ¬ e = 2 := fun g => qe (by rw [g]; exact zIn_nI (n := 3) (k := 2) (by decide) (by decide))
      rw [if_neg n0, if_neg n1, if_neg n2, ite_self]
      refine a_aload_n (i := 0) dX12_layer_5 rfl rfl ?_
      refine a_iload_n (i := 1) dX12_layer_6 rfl rfl ?_
      refine kX12_498 rfl dX12_layer_7 (Nat.le_of_ble_eq_true rfl) (isM_0 hM) (c_X12_isHouse hM hT) ?_
      refine a_if_eq (tg := 22) dX12_layer_10 (by decide) (fun c_10 => ?_) (fun c_10 => ?_)
      · exact absurd c_10 (bI_p.mpr q)
      · refine a_iload_n (i := 3) dX12_layer_13 rfl rfl ?_
        refine a_iconst (v := 0) dX12_layer_14 (by decide) ?_
        refine a_iconst (v := 2) dX12_layer_15 (by decide) ?_
        refine kX12_220 rfl dX12_layer_16 (Nat.le_of_ble_eq_true rfl) (c_X12_isIn) ?_
        refine a_if_ne (tg := 26) dX12_layer_19 (by decide) (fun c_19 => ?_) (fun c_19 => ?_)
        · exact absurd (zIn3.mp (bI_p.mp c_19)) qe
        · refine a_ldcw (v := (-2147483648)) dX12_layer_22 (oX12_501 rfl) ?_
          exact a_iret dX12_layer_25 (by exact ⟨rfl, rfl⟩)
  · rw [if_neg q]
    refine a_aload_n (i := 0) dX12_layer_5 rfl rfl ?_
    refine a_iload_n (i := 1) dX12_layer_6 rfl rfl ?_
    refine kX12_498 rfl dX12_layer_7 (Nat.le_of_ble_eq_true rfl) (isM_0 hM) (c_X12_isHouse hM hT) ?_
    refine a_if_eq (tg := 22) dX12_layer_10 (by decide) (fun c_10 => ?_) (fun c_10 => ?_)
    · refine a_ldcw (v := (-2147483648)) dX12_layer_22 (oX12_501 rfl) ?_
      exact a_iret dX12_layer_25 (by exact ⟨rfl, rfl⟩)
    · exact absurd (bI_p.mp c_10) q
end qReads
