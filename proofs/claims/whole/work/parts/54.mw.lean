/-! LastHouseModel: writes of a state -/
/-- a place of state i -/
def mIn (i n j : Nat) : Prop := (n = bM + 60 ∧ 48 * i ≤ j ∧ j < 48 * i + 48) ∨ ((n = bM + 61 ∨ n = bM + 62) ∧ 72 * i ≤ j ∧ j < 72 * i + 72) ∨ (n = bM + 63 ∧ 6 * i ≤ j ∧ j < 6 * i + 6) ∨ ((n = bM + 64 ∨ n = bM + 65 ∨ n = bM + 66 ∨ n = bM + 67) ∧ 8 * i ≤ j ∧ j < 8 * i + 8) ∨ ((n = bM + 68 ∨ n = bM + 69) ∧ j = i)
/-- y is x but for state i, the error, the number drawn, the names and values -/
def aFi (i : Nat) (x y : aS) : Prop := (∀ n j, ¬ mIn i n j → ¬ (n = bM ∧ j = 58) → y.1 n j = x.1 n j) ∧ (∀ n j, ¬ n = bM + 57 → ¬ n = bM + 58 → ¬ (n = bM ∧ j = 69) → y.2 n j = x.2 n j)
theorem aFi_r {i : Nat} {x : aS} : aFi i x x := ⟨fun _ _ _ _ => rfl, fun _ _ _ _ _ => rfl⟩
theorem aFi_t {i : Nat} {x y z : aS} (h1 : aFi i x y) (h2 : aFi i y z) : aFi i x z := ⟨fun n j a b => (h2.1 n j a b).trans (h1.1 n j a b), fun n j a b c => (h2.2 n j a b c).trans (h1.2 n j a b c)⟩
theorem aFi_w {i n j : Nat} {x : aS} {v : Int32} (h : mIn i n j) : aFi i x (aWr x n j v) := by
  refine ⟨fun a k h1 _ => ?_, fun _ _ _ _ _ => rfl⟩
  by_cases e : a = n
  · subst e
    by_cases g : k = j
    · subst g; exact absurd h h1
    · exact aWr_j _ _ _ g
  · rw [aWr_n _ _ _ e]
theorem aFi_e {i : Nat} {x : aS} {v : Int32} : aFi i x (aWr x bM 58 v) := by
  refine ⟨fun a k _ h => ?_, fun _ _ _ _ _ => rfl⟩
  by_cases e : a = bM
  · subst e
    exact aWr_j _ _ _ (fun g => h ⟨rfl, g⟩)
  · rw [aWr_n _ _ _ e]
theorem aFi_rw {i : Nat} {x : aS} {c : Nat} {row : Nat → Int64} (h : c = bM + 57 ∨ c = bM + 58) : aFi i x (aRw x c row) := by
  refine ⟨fun _ _ _ _ => rfl, fun n j h1 h2 _ => ?_⟩
  show (if n = c then row else x.2 n) j = x.2 n j
  rw [if_neg (fun e => h.elim (fun g => h1 (e.trans g)) (fun g => h2 (e.trans g)))]
theorem aFi_x {i : Nat} {x : aS} {e : Bool} {row : Nat → Int64} : aFi i x (mX x e row) := aFi_t aFi_e (aFi_rw (Or.inr rfl))
theorem aFi_lp {i : Nat} {g : Nat → aS → aS} {N : Nat} (h : ∀ k y, k < N → aFi i y (g k y)) : ∀ (n k : Nat) (x : aS), k + n = N → aFi i x (lp g k n x) := by
  intro n
  induction n with
  | zero => intro k x _; exact aFi_r
  | succ n ih => intro k x hk; exact aFi_t (h k x (by omega)) (ih _ _ (by omega))
theorem rTM_i {i : Nat} {T : zT} {x y : aS} (hF : aFi i x y) (h : rTM T x) : rTM T y := by
  have e : ∀ n j, n ≤ bM + 56 → ¬ (n = bM ∧ j = 58) → y.1 n j = x.1 n j := fun n j hn hj => hF.1 n j (by unfold mIn; omega) hj
  obtain ⟨a1, a2, a3, a4, a5, a6, a7, a8, b1, b2, b3, b4, b5⟩ := h
  refine ⟨?_, ?_, ?_, ?_, ?_, ?_, ?_, ?_, fun h hh => ?_, fun m hm => ?_, fun k hk => ?_, fun k hk => ?_, fun k hk => ?_⟩
  · rw [e _ _ (by omega) (by omega)]; exact a1
  · rw [e _ _ (by omega) (by omega)]; exact a2
  · rw [e _ _ (by omega) (by omega)]; exact a3
  · rw [e _ _ (by omega) (by omega)]; exact a4
  · rw [e _ _ (by omega) (by omega)]; exact a5
  · rw [e _ _ (by omega) (by omega)]; exact a6
  · rw [e _ _ (by omega) (by omega)]; exact a7
  · rw [e _ _ (by omega) (by omega)]; exact a8
  · rw [e _ _ (by omega) (by omega), e _ _ (by omega) (by omega)]; exact b1 h hh
  · rw [e _ _ (by omega) (by omega), e _ _ (by omega) (by omega), e _ _ (by omega) (by omega), e _ _ (by omega) (by omega), e _ _ (by omega) (by omega)]; exact b2 m hm
  · rw [e _ _ (by omega) (by omega), e _ _ (by omega) (by omega), e _ _ (by omega) (by omega), e _ _ (by omega) (by omega), e _ _ (by omega) (by omega)]; exact b3 k hk
  · rw [e _ _ (by omega) (by omega), e _ _ (by omega) (by omega), e _ _ (by omega) (by omega)]; exact b4 k hk
  · rw [e _ _ (by omega) (by omega)]; exact b5 k hk
/-- state i as it was, where nothing of it was written -/
theorem rM_same {T : zT} {Z : zS} {x y : aS} {i : Nat} (ok : zTok T) (hZ : zOk T Z) (h : ∀ n j, mIn i n j → y.1 n j = x.1 n j) (hS : rM T Z x i) : rM T Z y i := by
  obtain ⟨q1, q2, q3, q4⟩ := hS
  have h6 := ok.1
  have h8 := ok.2.1
  refine ⟨?_, ?_, fun g hg => ⟨fun z hz => ?_, ?_, fun k hk => ?_⟩, fun m hm => ?_⟩
  · rw [h _ _ (by unfold mIn; omega)]; exact q1
  · rw [h _ _ (by unfold mIn; omega)]; exact q2
  · rw [h _ _ (by unfold mIn; omega)]; exact (q3 g hg).1 z hz
  · rw [h _ _ (by unfold mIn; omega)]; exact (q3 g hg).2.1
  · have := (hZ.2.1 g hg).1
    rw [h _ _ (by unfold mIn; omega), h _ _ (by unfold mIn; omega)]; exact (q3 g hg).2.2 k hk
  · rw [h _ _ (by unfold mIn; omega), h _ _ (by unfold mIn; omega), h _ _ (by unfold mIn; omega), h _ _ (by unfold mIn; omega)]; exact q4 m hm
/-- the other state stays -/
theorem rM_other {T : zT} {Z : zS} {x y : aS} {i k : Nat} (ok : zTok T) (hZ : zOk T Z) (hik : i ≠ k) (hi : i < 2) (hk : k < 2) (hF : aFi i x y) (hS : rM T Z x k) : rM T Z y k :=
  rM_same ok hZ (fun n j h => hF.1 n j (by unfold mIn at *; omega) (by unfold mIn at h; omega)) hS
def mPut (x : aS) (i h c z : Nat) (u : Int32) : aS := aWr (aWr (aWr x (bM + 61) (12 * (6 * i + h) + c) (nI z)) (bM + 62) (12 * (6 * i + h) + c) u) (bM + 63) (6 * i + h) (nI (c + 1))
set_option maxHeartbeats 4000000 in
set_option maxRecDepth 100000 in
theorem c_X12_puts {l : Launch} {d : Nat} {D : Nat → Bool} {i h z c : Nat} {u : Int32} {x : aS} (hM : D 12 = true) (hi : i < 2) (hh : h < 6) (hc : x.1 (bM + 63) (6 * i + h) = nI c) (hc12 : c < 12) : aDV l mX12_puts d D [.ref bM, .int (nI i), .int (nI h), .int (nI z), .int u] x (mPut x i h c z u) := by
  refine a_metV (by decide) (Nat.le_of_ble_eq_true rfl) rfl ?_
  refine a_bipush (v := 6) dX12_puts_0 (by decide) ?_
  refine a_iload_n (i := 1) dX12_puts_2 rfl rfl ?_
  refine a_imul dX12_puts_3 ?_
  refine a_iload_n (i := 2) dX12_puts_4 rfl rfl ?_
  refine a_iadd dX12_puts_5 ?_
  rw [il6]
  refine a_istore (i := 5) dX12_puts_6 (by decide) ?_
  refine a_aload_n (i := 0) dX12_puts_8 rfl rfl ?_
  refine gX12_109 rfl dX12_puts_9 (isM_0 hM) ?_
  refine a_bipush (v := 12) dX12_puts_12 (by decide) ?_
  refine a_iload (i := 5) dX12_puts_14 rfl ?_
  refine a_imul dX12_puts_16 ?_
  refine a_aload_n (i := 0) dX12_puts_17 rfl rfl ?_
  refine gX12_115 rfl dX12_puts_18 (isM_0 hM) ?_
  refine a_iload (i := 5) dX12_puts_21 rfl ?_
  refine a_ialdN dX12_puts_23 (isM_63 hM) (by first | exact il12 _ _ | with_reducible exact rfl | with_reducible exact ix8 _ _ | with_reducible exact ix12 _ _ | exact rfl) (by omega) (by decide) ?_
  rw [hc]
  refine a_iadd dX12_puts_24 ?_
  refine a_iload_n (i := 3) dX12_puts_25 rfl rfl ?_
  refine a_iastN dX12_puts_26 (isM_61 hM) (by first | exact il12 _ _ | with_reducible exact rfl | with_reducible exact ix8 _ _ | with_reducible exact ix12 _ _ | exact rfl) (by omega) (by decide) ?_
  refine a_aload_n (i := 0) dX12_puts_27 rfl rfl ?_
  refine gX12_112 rfl dX12_puts_28 (isM_0 hM) ?_
  refine a_bipush (v := 12) dX12_puts_31 (by decide) ?_
  refine a_iload (i := 5) dX12_puts_33 rfl ?_
  refine a_imul dX12_puts_35 ?_
  refine a_aload_n (i := 0) dX12_puts_36 rfl rfl ?_
  refine gX12_115 rfl dX12_puts_37 (isM_0 hM) ?_
  refine a_iload (i := 5) dX12_puts_40 rfl ?_
  refine a_ialdN dX12_puts_42 (isM_63 hM) (by first | exact il12 _ _ | with_reducible exact rfl | with_reducible exact ix8 _ _ | with_reducible exact ix12 _ _ | exact rfl) (by omega) (by decide) ?_
  rw [aWr_n _ _ _ (by omega), hc]
  refine a_iadd dX12_puts_43 ?_
  refine a_iload (i := 4) dX12_puts_44 rfl ?_
  refine a_iastN dX12_puts_46 (isM_62 hM) (by first | exact il12 _ _ | with_reducible exact rfl | with_reducible exact ix8 _ _ | with_reducible exact ix12 _ _ | exact rfl) (by omega) (by decide) ?_
  refine a_aload_n (i := 0) dX12_puts_47 rfl rfl ?_
  refine gX12_115 rfl dX12_puts_48 (isM_0 hM) ?_
  refine a_iload (i := 5) dX12_puts_51 rfl ?_
  refine a_dup2_11 dX12_puts_53 rfl rfl ?_
  refine a_ialdN dX12_puts_54 (isM_63 hM) (by first | exact il12 _ _ | with_reducible exact rfl | with_reducible exact ix8 _ _ | with_reducible exact ix12 _ _ | exact rfl) (by omega) (by decide) ?_
  rw [aWr_n _ _ _ (by omega), aWr_n _ _ _ (by omega), hc]
  refine a_iconst (v := 1) dX12_puts_55 (by decide) ?_
  refine a_iadd dX12_puts_56 ?_
  rw [nI_1]
  refine a_iastN dX12_puts_57 (isM_63 hM) (by first | exact il12 _ _ | with_reducible exact rfl | with_reducible exact ix8 _ _ | with_reducible exact ix12 _ _ | exact rfl) (by omega) (by decide) ?_
  exact a_vret dX12_puts_58 (by exact ⟨rfl, rfl⟩)
theorem rM_put {T : zT} {Z : zS} {x : aS} {i h z : Nat} {u : Int32} (ok : zTok T) (hZ : zOk T Z) (hS : rM T Z x i) (hh : h < T.1 0) (hc : Z.2 1 h < 12) : rM T (zPut Z h z u) (mPut x i h (Z.2 1 h) z u) i := by
  obtain ⟨q1, q2, q3, q4⟩ := hS
  have h6 := ok.1
  unfold mPut
  refine ⟨?_, ?_, fun g hg => ⟨fun w hw => ?_, ?_, fun k hk => ?_⟩, fun m hm => ?_⟩
  · rw [aWr_n _ _ _ (by omega), aWr_n _ _ _ (by omega), aWr_n _ _ _ (by omega), q1]; simp [zPut, zuk, zui]
  · rw [aWr_n _ _ _ (by omega), aWr_n _ _ _ (by omega), aWr_n _ _ _ (by omega), q2]; simp [zPut, zuk, zui]
  · rw [aWr_n _ _ _ (by omega), aWr_n _ _ _ (by omega), aWr_n _ _ _ (by omega), (q3 g hg).1 w hw]; simp [zPut, zuk, zui]
  · by_cases e : g = h
    · subst e; rw [aWr_s]; simp [zPut, zuk]
    · rw [aWr_j _ _ _ (by omega), aWr_n _ _ _ (by omega), aWr_n _ _ _ (by omega), (q3 g hg).2.1]; simp [zPut, zuk, zui, e]
  · have g12 := (hZ.2.1 g hg).1
    by_cases e : g = h ∧ k = Z.2 1 h
    · obtain ⟨rfl, rfl⟩ := e
      refine ⟨?_, ?_⟩
      · rw [aWr_n _ _ _ (by omega), aWr_n _ _ _ (by omega), aWr_s]; simp [zPut, zuk]
      · rw [aWr_n _ _ _ (by omega), aWr_s]; simp [zPut, zuk, zui]
    · have hk2 : k < Z.2 1 g := by
        simp only [zPut, zuk, zui] at hk
        by_cases e2 : g = h
        · subst e2
          simp only [and_self, if_true] at hk
          omega
        · rw [if_neg (by omega), if_neg (by omega)] at hk
          exact hk
      refine ⟨?_, ?_⟩
      · rw [aWr_n _ _ _ (by omega), aWr_n _ _ _ (by omega), aWr_j _ _ _ (by omega), ((q3 g hg).2.2 k hk2).1]
        simp only [zPut, zuk, zui]
        rw [if_neg (by omega), if_neg (by omega)]
      · rw [aWr_n _ _ _ (by omega), aWr_j _ _ _ (by omega), aWr_n _ _ _ (by omega), ((q3 g hg).2.2 k hk2).2]
        simp only [zPut, zuk, zui]
        rw [if_neg (by omega)]
  · obtain ⟨a1, a2, a3, a4⟩ := q4 m hm
    refine ⟨?_, ?_, ?_, ?_⟩
    · rw [aWr_n _ _ _ (by omega), aWr_n _ _ _ (by omega), aWr_n _ _ _ (by omega), a1]; simp [zPut, zuk, zui]
    · rw [aWr_n _ _ _ (by omega), aWr_n _ _ _ (by omega), aWr_n _ _ _ (by omega), a2]; simp [zPut, zuk, zui]
    · rw [aWr_n _ _ _ (by omega), aWr_n _ _ _ (by omega), aWr_n _ _ _ (by omega), a3]; simp [zPut, zuk, zui]
    · rw [aWr_n _ _ _ (by omega), aWr_n _ _ _ (by omega), aWr_n _ _ _ (by omega), a4]; simp [zPut, zuk, zui]
def mBare (x : aS) (i h : Nat) : aS := aWr (lp (fun z y => aWr y (bM + 60) (8 * (6 * i + h) + z) (y.1 (bM + 28) h)) 0 8 x) (bM + 63) (6 * i + h) 0
theorem il86 (i h z : Nat) : 8 * (6 * nI i + nI h) + nI z = nI (8 * (6 * i + h) + z) := by rw [il6, il8]
set_option maxHeartbeats 4000000 in
set_option maxRecDepth 100000 in
theorem c_X12_bares {l : Launch} {d : Nat} {D : Nat → Bool} {i h : Nat} {x : aS} (hM : D 12 = true) (hi : i < 2) (hh : h < 6) : aDV l mX12_bares d D [.ref bM, .int (nI i), .int (nI h)] x (mBare x i h) := by
  refine a_metV (by decide) (Nat.le_of_ble_eq_true rfl) rfl ?_
  refine a_iconst (v := 0) dX12_bares_0 (by decide) ?_
  refine a_istore_n (i := 3) dX12_bares_1 rfl (by decide) ?_
  refine a_loc [(0, .ref bM), (1, .int (nI i)), (2, .int (nI h)), (3, .int (nI 0))] rfl ?_
  refine lp_rule (P := fun z y => aV l mX12_bares d D none 2 [(0, .ref bM), (1, .int (nI i)), (2, .int (nI h)), (3, .int (nI z))] [] y _) (fun z y => aWr y (bM + 60) (8 * (6 * i + h) + z) (y.1 (bM + 28) h)) ?_ 8 0 x rfl ?_
  · intro z y hz ih
    refine a_iload_n (i := 3) dX12_bares_2 rfl rfl ?_
    refine a_bipush (v := 8) dX12_bares_3 (by decide) ?_
    refine a_icmp_ge (tg := 36) dX12_bares_5 (by decide) (fun c_5 => ?_) (fun c_5 => ?_)
    · exact absurd c_5 (nI_ge hz (by decide))
    · refine a_aload_n (i := 0) dX12_bares_8 rfl rfl ?_
      refine gX12_106 rfl dX12_bares_9 (isM_0 hM) ?_
      refine a_bipush (v := 8) dX12_bares_12 (by decide) ?_
      refine a_bipush (v := 6) dX12_bares_14 (by decide) ?_
      refine a_iload_n (i := 1) dX12_bares_16 rfl rfl ?_
      refine a_imul dX12_bares_17 ?_
      refine a_iload_n (i := 2) dX12_bares_18 rfl rfl ?_
      refine a_iadd dX12_bares_19 ?_
      refine a_imul dX12_bares_20 ?_
      refine a_iload_n (i := 3) dX12_bares_21 rfl rfl ?_
      refine a_iadd dX12_bares_22 ?_
      refine a_aload_n (i := 0) dX12_bares_23 rfl rfl ?_
      refine gX12_30 rfl dX12_bares_24 (isM_0 hM) ?_
      refine a_iload_n (i := 2) dX12_bares_27 rfl rfl ?_
      refine a_ialdN dX12_bares_28 (isM_28 hM) (by first | exact il86 _ _ _ | with_reducible exact rfl | with_reducible exact ix8 _ _ | with_reducible exact ix12 _ _ | exact rfl) (by omega) (by decide) ?_
      refine a_iastN dX12_bares_29 (isM_60 hM) (by first | exact il86 _ _ _ | with_reducible exact rfl | with_reducible exact ix8 _ _ | with_reducible exact ix12 _ _ | exact rfl) (by omega) (by decide) ?_
      refine a_iincK (i := 3) (u := 1) dX12_bares_30 rfl (by decide) (by decide) ?_
      refine a_goto (tg := 2) dX12_bares_33 (by decide) ?_
      rw [nI_1]; exact a_loc _ rfl ih
  · refine a_iload_n (i := 3) dX12_bares_2 rfl rfl ?_
    refine a_bipush (v := 8) dX12_bares_3 (by decide) ?_
    refine a_icmp_ge (tg := 36) dX12_bares_5 (by decide) (fun c_5 => ?_) (fun c_5 => ?_)
    · refine a_aload_n (i := 0) dX12_bares_36 rfl rfl ?_
      refine gX12_115 rfl dX12_bares_37 (isM_0 hM) ?_
      refine a_bipush (v := 6) dX12_bares_40 (by decide) ?_
      refine a_iload_n (i := 1) dX12_bares_42 rfl rfl ?_
      refine a_imul dX12_bares_43 ?_
      refine a_iload_n (i := 2) dX12_bares_44 rfl rfl ?_
      refine a_iadd dX12_bares_45 ?_
      refine a_iconst (v := 0) dX12_bares_46 (by decide) ?_
      refine a_iastN dX12_bares_47 (isM_63 hM) (by first | exact il6 _ _ | with_reducible exact rfl | with_reducible exact ix8 _ _ | with_reducible exact ix12 _ _ | exact rfl) (by omega) (by decide) ?_
      exact a_vret dX12_bares_48 (by exact ⟨rfl, rfl⟩)
    · exact absurd (Int32.le_refl _) c_5
