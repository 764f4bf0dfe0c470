/-! LastHouse$State: writes, exact contracts -/
theorem aWr_s (x : aS) (n j : Nat) (v : Int32) : (aWr x n j v).1 n j = v := by simp [aWr]
theorem aWr_n (x : aS) {a n : Nat} (j : Nat) (v : Int32) (h : a ≠ n) : (aWr x n j v).1 a = x.1 a := by simp [aWr, h]
theorem aWr_j (x : aS) (n : Nat) {i j : Nat} (v : Int32) (h : i ≠ j) : (aWr x n j v).1 n i = x.1 n i := by simp [aWr, h]
theorem aWr_l (x : aS) (n j : Nat) (v : Int32) : (aWr x n j v).2 = x.2 := rfl
theorem lp_keep {g : Nat → aS → aS} {n : Nat} (h : ∀ i y, (g i y).1 n = y.1 n) : ∀ (k i : Nat) (y : aS), (lp g i k y).1 n = y.1 n := by
  intro k
  induction k with
  | zero => intro i y; rfl
  | succ k ih => intro i y; show (lp g (i + 1) k (g i y)).1 n = y.1 n; rw [ih, h]
theorem lp_keep2 {g : Nat → aS → aS} (h : ∀ i y, (g i y).2 = y.2) : ∀ (k i : Nat) (y : aS), (lp g i k y).2 = y.2 := by
  intro k
  induction k with
  | zero => intro i y; rfl
  | succ k ih => intro i y; show (lp g (i + 1) k (g i y)).2 = y.2; rw [ih, h]
theorem tb_ne {t b i j : Nat} (ht : aTdB t) (hb : aStB b) (hi : i < 256) (hj : j < 256) : t + i ≠ b + j := by
  rcases ht with rfl | rfl <;> rcases hb with rfl | rfl | rfl <;> omega
theorem tb_ne0 {t b j : Nat} (ht : aTdB t) (hb : aStB b) (hj : j < 256) : t ≠ b + j := by
  rcases ht with rfl | rfl <;> rcases hb with rfl | rfl | rfl <;> omega
def sDrop (x : aS) (b h : Nat) : aS := lp (fun z y => aWr y (b + 6) (h * 8 + z) 0) 0 8 (aWr x (b + 7) h 0)
set_option maxHeartbeats 4000000 in
set_option maxRecDepth 100000 in
theorem c_X6_dropLayers {l : Launch} {d : Nat} {D : Nat → Bool} {b h : Nat} {x : aS} (hD : aDC D) (hb : aStB b) (hh : h < 6) : aDV l mX6_dropLayers d D [.ref b, .int (nI h)] x (sDrop x b h) := by
  refine a_metV (by decide) (Nat.le_of_ble_eq_true rfl) rfl ?_
  refine a_aload_n (i := 0) dX6_dropLayers_0 rfl rfl ?_
  refine gX6_18 rfl dX6_dropLayers_1 (isS_0 hD hb) ?_
  refine a_iload_n (i := 1) dX6_dropLayers_4 rfl rfl ?_
  refine a_iconst (v := 0) dX6_dropLayers_5 (by decide) ?_
  refine a_iastN dX6_dropLayers_6 (isS_7 hD hb) (by first | with_reducible exact rfl | with_reducible exact ix8 _ _ | with_reducible exact ix12 _ _ | exact rfl) (by omega) (by decide) ?_
  refine a_iconst (v := 0) dX6_dropLayers_7 (by decide) ?_
  refine a_istore_n (i := 2) dX6_dropLayers_8 rfl (by decide) ?_
  refine a_loc [(0, .ref b), (1, .int (nI h)), (2, .int (nI 0))] rfl ?_
  refine lp_rule (P := fun i y => aV l mX6_dropLayers d D none 9 [(0, .ref b), (1, .int (nI h)), (2, .int (nI i))] [] y _) (fun z y => aWr y (b + 6) (h * 8 + z) 0) ?_ 8 0 _ rfl ?_
  · intro i y hi ih
    refine a_iload_n (i := 2) dX6_dropLayers_9 rfl rfl ?_
    refine a_bipush (v := 8) dX6_dropLayers_10 (by decide) ?_
    refine a_icmp_ge (tg := 33) dX6_dropLayers_12 (by decide) (fun c_12 => ?_) (fun c_12 => ?_)
    · exact absurd c_12 (nI_ge hi (by decide))
    · refine a_aload_n (i := 0) dX6_dropLayers_15 rfl rfl ?_
      refine gX6_15 rfl dX6_dropLayers_16 (isS_0 hD hb) ?_
      refine a_iload_n (i := 1) dX6_dropLayers_19 rfl rfl ?_
      refine a_bipush (v := 8) dX6_dropLayers_20 (by decide) ?_
      refine a_imul dX6_dropLayers_22 ?_
      refine a_iload_n (i := 2) dX6_dropLayers_23 rfl rfl ?_
      refine a_iadd dX6_dropLayers_24 ?_
      refine a_iconst (v := 0) dX6_dropLayers_25 (by decide) ?_
      refine a_iastN dX6_dropLayers_26 (isS_6 hD hb) (by first | with_reducible exact rfl | with_reducible exact ix8 _ _ | with_reducible exact ix12 _ _ | exact rfl) (by omega) (by decide) ?_
      refine a_iincK (i := 2) (u := 1) dX6_dropLayers_27 rfl (by decide) (by decide) ?_
      refine a_goto (tg := 9) dX6_dropLayers_30 (by decide) ?_
      rw [nI_1]; exact a_loc _ rfl ih
  · refine a_iload_n (i := 2) dX6_dropLayers_9 rfl rfl ?_
    refine a_bipush (v := 8) dX6_dropLayers_10 (by decide) ?_
    refine a_icmp_ge (tg := 33) dX6_dropLayers_12 (by decide) (fun c_12 => ?_) (fun c_12 => ?_)
    · exact a_vret dX6_dropLayers_33 (by exact ⟨rfl, rfl⟩)
    · exact absurd (Int32.le_refl _) c_12
def sWood (x : aS) (t b h : Nat) : aS := lp (fun z y => aWr y (b + 5) (h * 8 + z) (y.1 (t + 4) h)) 0 8 x
def sBare (x : aS) (t b h : Nat) : aS := sDrop (sWood x t b h) b h
set_option maxHeartbeats 4000000 in
set_option maxRecDepth 100000 in
theorem c_X6_bare {l : Launch} {d : Nat} {D : Nat → Bool} {t b h : Nat} {x : aS} (hD : aDC D) (hb : aStB b) (ht : aTdB t) (hh : h < 6) : aDV l mX6_bare (d + 1) D [.ref b, .ref t, .int (nI h)] x (sBare x t b h) := by
  refine a_metV (by decide) (Nat.le_of_ble_eq_true rfl) rfl ?_
  refine a_iconst (v := 0) dX6_bare_0 (by decide) ?_
  refine a_istore_n (i := 3) dX6_bare_1 rfl (by decide) ?_
  refine a_loc [(0, .ref b), (1, .ref t), (2, .int (nI h)), (3, .int (nI 0))] rfl ?_
  refine lp_rule (P := fun i y => aV l mX6_bare (d + 1) D none 2 [(0, .ref b), (1, .ref t), (2, .int (nI h)), (3, .int (nI i))] [] y _) (fun z y => aWr y (b + 5) (h * 8 + z) (y.1 (t + 4) h)) ?_ 8 0 x rfl ?_
  · intro i y hi ih
    refine a_iload_n (i := 3) dX6_bare_2 rfl rfl ?_
    refine a_bipush (v := 8) dX6_bare_3 (by decide) ?_
    refine a_icmp_ge (tg := 31) dX6_bare_5 (by decide) (fun c_5 => ?_) (fun c_5 => ?_)
    · exact absurd c_5 (nI_ge hi (by decide))
    · refine a_aload_n (i := 0) dX6_bare_8 rfl rfl ?_
      refine gX6_9 rfl dX6_bare_9 (isS_0 hD hb) ?_
      refine a_iload_n (i := 2) dX6_bare_12 rfl rfl ?_
      refine a_bipush (v := 8) dX6_bare_13 (by decide) ?_
      refine a_imul dX6_bare_15 ?_
      refine a_iload_n (i := 3) dX6_bare_16 rfl rfl ?_
      refine a_iadd dX6_bare_17 ?_
      refine a_aload_n (i := 1) dX6_bare_18 rfl rfl ?_
      refine gX6_80 rfl dX6_bare_19 (isT_0 hD ht) ?_
      refine a_iload_n (i := 2) dX6_bare_22 rfl rfl ?_
      refine a_ialdN dX6_bare_23 (isT_4 hD ht) (by first | with_reducible exact rfl | with_reducible exact ix8 _ _ | with_reducible exact ix12 _ _ | exact rfl) (by omega) (by decide) ?_
      refine a_iastN dX6_bare_24 (isS_5 hD hb) (by first | with_reducible exact rfl | with_reducible exact ix8 _ _ | with_reducible exact ix12 _ _ | exact rfl) (by omega) (by decide) ?_
      refine a_iincK (i := 3) (u := 1) dX6_bare_25 rfl (by decide) (by decide) ?_
      refine a_goto (tg := 2) dX6_bare_28 (by decide) ?_
      rw [nI_1]; exact a_loc _ rfl ih
  · refine a_iload_n (i := 3) dX6_bare_2 rfl rfl ?_
    refine a_bipush (v := 8) dX6_bare_3 (by decide) ?_
    refine a_icmp_ge (tg := 31) dX6_bare_5 (by decide) (fun c_5 => ?_) (fun c_5 => ?_)
    · refine a_aload_n (i := 0) dX6_bare_31 rfl rfl ?_
      refine a_iload_n (i := 2) dX6_bare_32 rfl rfl ?_
      refine kX6_83 rfl dX6_bare_33 (Nat.le_of_ble_eq_true rfl) (isS_0 hD hb) (c_X6_dropLayers hD hb hh) ?_
      exact a_vret dX6_bare_36 (by exact ⟨rfl, rfl⟩)
    · exact absurd (Int32.le_refl _) c_5
theorem sDrop_n {x : aS} {b h n : Nat} (h1 : n ≠ b + 6) (h2 : n ≠ b + 7) : (sDrop x b h).1 n = x.1 n := by
  unfold sDrop
  rw [lp_keep (fun i y => aWr_n y _ _ h1), aWr_n x _ _ h2]
theorem sBare_n {x : aS} {t b h n : Nat} (h0 : n ≠ b + 5) (h1 : n ≠ b + 6) (h2 : n ≠ b + 7) : (sBare x t b h).1 n = x.1 n := by
  unfold sBare sWood
  rw [sDrop_n h1 h2, lp_keep (fun i y => aWr_n y _ _ h0)]
def sBareAll (x : aS) (t b N : Nat) : aS := lp (fun h y => sBare y t b h) 0 N x
theorem sBareAll_n {x : aS} {t b N n : Nat} (h0 : n ≠ b + 5) (h1 : n ≠ b + 6) (h2 : n ≠ b + 7) : (sBareAll x t b N).1 n = x.1 n := lp_keep (fun i y => sBare_n h0 h1 h2) _ _ _
set_option maxHeartbeats 4000000 in
set_option maxRecDepth 100000 in
theorem c_X6_bareAll {l : Launch} {d : Nat} {D : Nat → Bool} {t b N : Nat} {x : aS} (hD : aDC D) (hb : aStB b) (ht : aTdB t) (hN : x.1 t 1 = nI N) (hN6 : N ≤ 6) : aDV l mX6_bareAll (d + 2) D [.ref b, .ref t] x (sBareAll x t b N) := by
  refine a_metV (by decide) (Nat.le_of_ble_eq_true rfl) rfl ?_
  refine a_iconst (v := 0) dX6_bareAll_0 (by decide) ?_
  refine a_istore_n (i := 2) dX6_bareAll_1 rfl (by decide) ?_
  refine a_loc [(0, .ref b), (1, .ref t), (2, .int (nI 0))] rfl ?_
  refine lp_inv (P := fun i y => aV l mX6_bareAll (d + 2) D none 2 [(0, .ref b), (1, .ref t), (2, .int (nI i))] [] y _) (fun _ y => y.1 t 1 = nI N) (fun h y => sBare y t b h) ?_ ?_ N 0 x (Nat.zero_add N) hN ?_
  · intro i y hi hy
    show (sBare y t b i).1 t 1 = nI N
    rw [sBare_n (tb_ne0 ht hb (by decide)) (tb_ne0 ht hb (by decide)) (tb_ne0 ht hb (by decide))]
    exact hy
  · intro i y hi hy ih
    refine a_iload_n (i := 2) dX6_bareAll_2 rfl rfl ?_
    refine a_aload_n (i := 1) dX6_bareAll_3 rfl rfl ?_
    refine gX6_73 rfl dX6_bareAll_4 (isT_0 hD ht) ?_
    rw [hy]
    refine a_icmp_ge (tg := 22) dX6_bareAll_7 (by decide) (fun c_7 => ?_) (fun c_7 => ?_)
    · exact absurd c_7 (nI_ge hi (by omega))
    · refine a_aload_n (i := 0) dX6_bareAll_10 rfl rfl ?_
      refine a_aload_n (i := 1) dX6_bareAll_11 rfl rfl ?_
      refine a_iload_n (i := 2) dX6_bareAll_12 rfl rfl ?_
      refine kX6_76 rfl dX6_bareAll_13 (Nat.le_of_ble_eq_true rfl) (isS_0 hD hb) (c_X6_bare hD hb ht (by omega)) ?_
      refine a_iincK (i := 2) (u := 1) dX6_bareAll_16 rfl (by decide) (by decide) ?_
      refine a_goto (tg := 2) dX6_bareAll_19 (by decide) ?_
      rw [nI_1]; exact a_loc _ rfl ih
  · intro hy
    refine a_iload_n (i := 2) dX6_bareAll_2 rfl rfl ?_
    refine a_aload_n (i := 1) dX6_bareAll_3 rfl rfl ?_
    refine gX6_73 rfl dX6_bareAll_4 (isT_0 hD ht) ?_
    rw [hy]
    refine a_icmp_ge (tg := 22) dX6_bareAll_7 (by decide) (fun c_7 => ?_) (fun c_7 => ?_)
    · exact a_vret dX6_bareAll_22 (by exact ⟨rfl, rfl⟩)
    · exact absurd (Int32.le_refl _) c_7
def sSwell1 (b : Nat) (i : Nat) (y : aS) : aS := if 999 ≤ y.1 (b + 5) i then y else aWr y (b + 5) i (y.1 (b + 5) i + 1)
def sSwell (x : aS) (b N : Nat) : aS := lp (sSwell1 b) 0 (N * 8) x
theorem sSwell1_n {b i n : Nat} {y : aS} (h : n ≠ b + 5) : (sSwell1 b i y).1 n = y.1 n := by
  unfold sSwell1
  split
  · rfl
  · exact aWr_n y _ _ h
set_option maxHeartbeats 4000000 in
set_option maxRecDepth 100000 in
theorem c_X6_swell {l : Launch} {d : Nat} {D : Nat → Bool} {t b N : Nat} {x : aS} (hD : aDC D) (hb : aStB b) (ht : aTdB t) (hN : x.1 t 1 = nI N) (hN6 : N ≤ 6) : aDV l mX6_swell d D [.ref b, .ref t] x (sSwell x b N) := by
  have e8 : nI N * 8 = nI (N * 8) := by rw [show (8 : Int32) = nI 8 from rfl, pk_mul]
  refine a_metV (by decide) (Nat.le_of_ble_eq_true rfl) rfl ?_
  refine a_iconst (v := 0) dX6_swell_0 (by decide) ?_
  refine a_istore_n (i := 2) dX6_swell_1 rfl (by decide) ?_
  refine a_loc [(0, .ref b), (1, .ref t), (2, .int (nI 0))] rfl ?_
  refine lp_inv (P := fun i y => aV l mX6_swell d D none 2 [(0, .ref b), (1, .ref t), (2, .int (nI i))] [] y _) (fun _ y => y.1 t 1 = nI N) (sSwell1 b) ?_ ?_ (N * 8) 0 x (Nat.zero_add _) hN ?_
  · intro i y hi hy
    rw [sSwell1_n (tb_ne0 ht hb (by decide))]
    exact hy
  · intro i y hi hy ih
    refine a_iload_n (i := 2) dX6_swell_2 rfl rfl ?_
    refine a_aload_n (i := 1) dX6_swell_3 rfl rfl ?_
    refine gX6_73 rfl dX6_swell_4 (isT_0 hD ht) ?_
    rw [hy]
    refine a_bipush (v := 8) dX6_swell_7 (by decide) ?_
    refine a_imul dX6_swell_9 ?_
    rw [e8]
    refine a_icmp_ge (tg := 41) dX6_swell_10 (by decide) (fun c_10 => ?_) (fun c_10 => ?_)
    · exact absurd c_10 (nI_ge hi (by omega))
    · refine a_aload_n (i := 0) dX6_swell_13 rfl rfl ?_
      refine gX6_9 rfl dX6_swell_14 (isS_0 hD hb) ?_
      refine a_iload_n (i := 2) dX6_swell_17 rfl rfl ?_
      refine a_ialdN dX6_swell_18 (isS_5 hD hb) (by first | with_reducible exact rfl | with_reducible exact ix8 _ _ | with_reducible exact ix12 _ _ | exact rfl) (by omega) (by decide) ?_
      refine a_sipush (v := 999) dX6_swell_19 (by decide) ?_
      refine a_icmp_ge (tg := 35) dX6_swell_22 (by decide) (fun c_22 => ?_) (fun c_22 => ?_)
      · rw [sSwell1, if_pos c_22] at ih
        refine a_iincK (i := 2) (u := 1) dX6_swell_35 rfl (by decide) (by decide) ?_
        refine a_goto (tg := 2) dX6_swell_38 (by decide) ?_
        rw [nI_1]; exact a_loc _ rfl ih
      · rw [sSwell1, if_neg c_22] at ih
        refine a_aload_n (i := 0) dX6_swell_25 rfl rfl ?_
        refine gX6_9 rfl dX6_swell_26 (isS_0 hD hb) ?_
        refine a_iload_n (i := 2) dX6_swell_29 rfl rfl ?_
        refine a_dup2_11 dX6_swell_30 rfl rfl ?_
        refine a_ialdN dX6_swell_31 (isS_5 hD hb) (by first | with_reducible exact rfl | with_reducible exact ix8 _ _ | with_reducible exact ix12 _ _ | exact rfl) (by omega) (by decide) ?_
        refine a_iconst (v := 1) dX6_swell_32 (by decide) ?_
        refine a_iadd dX6_swell_33 ?_
        refine a_iastN dX6_swell_34 (isS_5 hD hb) (by first | with_reducible exact rfl | with_reducible exact ix8 _ _ | with_reducible exact ix12 _ _ | exact rfl) (by omega) (by decide) ?_
        refine a_iincK (i := 2) (u := 1) dX6_swell_35 rfl (by decide) (by decide) ?_
        refine a_goto (tg := 2) dX6_swell_38 (by decide) ?_
        rw [nI_1]; exact a_loc _ rfl ih
  · intro hy
    refine a_iload_n (i := 2) dX6_swell_2 rfl rfl ?_
    refine a_aload_n (i := 1) dX6_swell_3 rfl rfl ?_
    refine gX6_73 rfl dX6_swell_4 (isT_0 hD ht) ?_
    rw [hy]
    refine a_bipush (v := 8) dX6_swell_7 (by decide) ?_
    refine a_imul dX6_swell_9 ?_
    rw [e8]
    refine a_icmp_ge (tg := 41) dX6_swell_10 (by decide) (fun c_10 => ?_) (fun c_10 => ?_)
    · exact a_vret dX6_swell_41 (by exact ⟨rfl, rfl⟩)
    · exact absurd (Int32.le_refl _) c_10
def sDrawn (x : aS) (b : Nat) : Int32 := x.1 b 2 * 1103515245 + 12345 &&& 2147483647
set_option maxHeartbeats 4000000 in
set_option maxRecDepth 100000 in
theorem c_X6_draw {l : Launch} {d : Nat} {D : Nat → Bool} {b : Nat} {x : aS} (hD : aDC D) (hb : aStB b) : aDI l mX6_draw d D [.ref b] x (sDrawn x b / 65536) (aWr x b 2 (sDrawn x b)) := by
  refine a_metI (by decide) (Nat.le_of_ble_eq_true rfl) rfl ?_
  refine a_aload_n (i := 0) dX6_draw_0 rfl rfl ?_
  refine a_aload_n (i := 0) dX6_draw_1 rfl rfl ?_
  refine gX6_48 rfl dX6_draw_2 (isS_0 hD hb) ?_
  refine a_ldc (v := 1103515245) dX6_draw_5 (oX6_91 rfl) ?_
  refine a_imul dX6_draw_7 ?_
  refine a_sipush (v := 12345) dX6_draw_8 (by decide) ?_
  refine a_iadd dX6_draw_11 ?_
  refine a_ldc (v := 2147483647) dX6_draw_12 (oX6_94 rfl) ?_
  refine a_iand dX6_draw_14 ?_
  refine pX6_48 rfl dX6_draw_15 (isS_0 hD hb) ?_
  refine a_aload_n (i := 0) dX6_draw_18 rfl rfl ?_
  refine gX6_48 rfl dX6_draw_19 (isS_0 hD hb) ?_
  refine a_ldc (v := 65536) dX6_draw_22 (oX6_95 rfl) ?_
  refine a_idiv dX6_draw_24 (by decide) ?_
  exact a_iret dX6_draw_25 (by rw [aWr_s]; exact ⟨rfl, rfl⟩)
def sPut (x : aS) (b h c z : Nat) (u : Int32) : aS :=
  aWr (aWr (aWr (aWr x (b + 8) (h * 12 + c) (nI z)) (b + 9) (h * 12 + c) u) (b + 6) (h * 8 + z) (x.1 (b + 6) (h * 8 + z) + u)) (b + 7) h (nI (c + 1))
set_option maxHeartbeats 4000000 in
set_option maxRecDepth 100000 in
theorem c_X6_putOn {l : Launch} {d : Nat} {D : Nat → Bool} {b h z c : Nat} {u : Int32} {x : aS} (hD : aDC D) (hb : aStB b) (hh : h < 6) (hz : z < 8) (hc : x.1 (b + 7) h = nI c) (hc12 : c ≤ 12) : aDI l mX6_putOn d D [.ref b, .int (nI h), .int (nI z), .int u] x (if c < 12 then 1 else 0) (if c < 12 then sPut x b h c z u else x) := by
  refine a_metZ (by decide) (Nat.le_of_ble_eq_true rfl) rfl (by split <;> simp) ?_
  refine a_aload_n (i := 0) dX6_putOn_0 rfl rfl ?_
  refine gX6_18 rfl dX6_putOn_1 (isS_0 hD hb) ?_
  refine a_iload_n (i := 1) dX6_putOn_4 rfl rfl ?_
  refine a_ialdN dX6_putOn_5 (isS_7 hD hb) (by first | with_reducible exact rfl | with_reducible exact ix8 _ _ | with_reducible exact ix12 _ _ | exact rfl) (by omega) (by decide) ?_
  rw [hc]
  refine a_bipush (v := 12) dX6_putOn_6 (by decide) ?_
  refine a_icmp_lt (tg := 13) dX6_putOn_8 (by decide) (fun c_8 => ?_) (fun c_8 => ?_)
  · have hlt : c < 12 := (nI_ltI (by omega) (by decide)).mp c_8
    refine a_iload_n (i := 1) dX6_putOn_13 rfl rfl ?_
    refine a_bipush (v := 12) dX6_putOn_14 (by decide) ?_
    refine a_imul dX6_putOn_16 ?_
    refine a_aload_n (i := 0) dX6_putOn_17 rfl rfl ?_
    refine gX6_18 rfl dX6_putOn_18 (isS_0 hD hb) ?_
    refine a_iload_n (i := 1) dX6_putOn_21 rfl rfl ?_
    refine a_ialdN dX6_putOn_22 (isS_7 hD hb) (by first | with_reducible exact rfl | with_reducible exact ix8 _ _ | with_reducible exact ix12 _ _ | exact rfl) (by omega) (by decide) ?_
    rw [hc]
    refine a_iadd dX6_putOn_23 ?_
    refine a_istore (i := 4) dX6_putOn_24 (by decide) ?_
    refine a_aload_n (i := 0) dX6_putOn_26 rfl rfl ?_
    refine gX6_21 rfl dX6_putOn_27 (isS_0 hD hb) ?_
    refine a_iload (i := 4) dX6_putOn_30 rfl ?_
    refine a_iload_n (i := 2) dX6_putOn_32 rfl rfl ?_
    refine a_iastN dX6_putOn_33 (isS_8 hD hb) (by first | with_reducible exact rfl | with_reducible exact ix8 _ _ | with_reducible exact ix12 _ _ | exact rfl) (by omega) (by decide) ?_
    refine a_aload_n (i := 0) dX6_putOn_34 rfl rfl ?_
    refine gX6_24 rfl dX6_putOn_35 (isS_0 hD hb) ?_
    refine a_iload (i := 4) dX6_putOn_38 rfl ?_
    refine a_iload_n (i := 3) dX6_putOn_40 rfl rfl ?_
    refine a_iastN dX6_putOn_41 (isS_9 hD hb) (by first | with_reducible exact rfl | with_reducible exact ix8 _ _ | with_reducible exact ix12 _ _ | exact rfl) (by omega) (by decide) ?_
    refine a_aload_n (i := 0) dX6_putOn_42 rfl rfl ?_
    refine gX6_15 rfl dX6_putOn_43 (isS_0 hD hb) ?_
    refine a_iload_n (i := 1) dX6_putOn_46 rfl rfl ?_
    refine a_bipush (v := 8) dX6_putOn_47 (by decide) ?_
    refine a_imul dX6_putOn_49 ?_
    refine a_iload_n (i := 2) dX6_putOn_50 rfl rfl ?_
    refine a_iadd dX6_putOn_51 ?_
    refine a_dup2_11 dX6_putOn_52 rfl rfl ?_
    refine a_ialdN dX6_putOn_53 (isS_6 hD hb) (by first | with_reducible exact rfl | with_reducible exact ix8 _ _ | with_reducible exact ix12 _ _ | exact rfl) (by omega) (by decide) ?_
    rw [aWr_n _ _ _ (by omega), aWr_n _ _ _ (by omega)]
    refine a_iload_n (i := 3) dX6_putOn_54 rfl rfl ?_
    refine a_iadd dX6_putOn_55 ?_
    refine a_iastN dX6_putOn_56 (isS_6 hD hb) (by first | with_reducible exact rfl | with_reducible exact ix8 _ _ | with_reducible exact ix12 _ _ | exact rfl) (by omega) (by decide) ?_
    refine a_aload_n (i := 0) dX6_putOn_57 rfl rfl ?_
    refine gX6_18 rfl dX6_putOn_58 (isS_0 hD hb) ?_
    refine a_iload_n (i := 1) dX6_putOn_61 rfl rfl ?_
    refine a_dup2_11 dX6_putOn_62 rfl rfl ?_
    refine a_ialdN dX6_putOn_63 (isS_7 hD hb) (by first | with_reducible exact rfl | with_reducible exact ix8 _ _ | with_reducible exact ix12 _ _ | exact rfl) (by omega) (by decide) ?_
    rw [aWr_n _ _ _ (by omega), aWr_n _ _ _ (by omega), aWr_n _ _ _ (by omega), hc]
    refine a_iconst (v := 1) dX6_putOn_64 (by decide) ?_
    refine a_iadd dX6_putOn_65 ?_
    rw [nI_1]
    refine a_iastN dX6_putOn_66 (isS_7 hD hb) (by first | with_reducible exact rfl | with_reducible exact ix8 _ _ | with_reducible exact ix12 _ _ | exact rfl) (by omega) (by decide) ?_
    refine a_iconst (v := 1) dX6_putOn_67 (by decide) ?_
    exact a_iret dX6_putOn_68 (by rw [if_pos hlt, if_pos hlt]; exact ⟨rfl, rfl⟩)
  · have hge : ¬ c < 12 := fun g => c_8 (nI_lt g (by decide))
    refine a_iconst (v := 0) dX6_putOn_11 (by decide) ?_
    exact a_iret dX6_putOn_12 (by rw [if_neg hge, if_neg hge]; exact ⟨rfl, rfl⟩)
def sTake (x : aS) (b h c z : Nat) : aS :=
  aWr (aWr x (b + 7) h (nI c)) (b + 6) (h * 8 + z) (x.1 (b + 6) (h * 8 + z) - x.1 (b + 9) (h * 12 + c))
set_option maxHeartbeats 4000000 in
set_option maxRecDepth 100000 in
theorem c_X6_takeOff {l : Launch} {d : Nat} {D : Nat → Bool} {b h z c : Nat} {x : aS} (hD : aDC D) (hb : aStB b) (hh : h < 6) (hz : z < 8) (hc : x.1 (b + 7) h = nI (c + 1)) (hc12 : c < 12) (hzz : x.1 (b + 8) (h * 12 + c) = nI z) : aDV l mX6_takeOff d D [.ref b, .int (nI h)] x (sTake x b h c z) := by
  refine a_metV (by decide) (Nat.le_of_ble_eq_true rfl) rfl ?_
  refine a_aload_n (i := 0) dX6_takeOff_0 rfl rfl ?_
  refine gX6_18 rfl dX6_takeOff_1 (isS_0 hD hb) ?_
  refine a_iload_n (i := 1) dX6_takeOff_4 rfl rfl ?_
  refine a_ialdN dX6_takeOff_5 (isS_7 hD hb) (by first | with_reducible exact rfl | with_reducible exact ix8 _ _ | with_reducible exact ix12 _ _ | exact rfl) (by omega) (by decide) ?_
  rw [hc]
  refine a_iconst (v := 1) dX6_takeOff_6 (by decide) ?_
  refine a_icmp_ge (tg := 11) dX6_takeOff_7 (by decide) (fun c_7 => ?_) (fun c_7 => ?_)
  · refine a_aload_n (i := 0) dX6_takeOff_11 rfl rfl ?_
    refine gX6_18 rfl dX6_takeOff_12 (isS_0 hD hb) ?_
    refine a_iload_n (i := 1) dX6_takeOff_15 rfl rfl ?_
    refine a_dup2_11 dX6_takeOff_16 rfl rfl ?_
    refine a_ialdN dX6_takeOff_17 (isS_7 hD hb) (by first | with_reducible exact rfl | with_reducible exact ix8 _ _ | with_reducible exact ix12 _ _ | exact rfl) (by omega) (by decide) ?_
    rw [hc]
    refine a_iconst (v := 1) dX6_takeOff_18 (by decide) ?_
    refine a_isub dX6_takeOff_19 ?_
    rw [nI_pred]
    refine a_iastN dX6_takeOff_20 (isS_7 hD hb) (by first | with_reducible exact rfl | with_reducible exact ix8 _ _ | with_reducible exact ix12 _ _ | exact rfl) (by omega) (by decide) ?_
    refine a_iload_n (i := 1) dX6_takeOff_21 rfl rfl ?_
    refine a_bipush (v := 12) dX6_takeOff_22 (by decide) ?_
    refine a_imul dX6_takeOff_24 ?_
    refine a_aload_n (i := 0) dX6_takeOff_25 rfl rfl ?_
    refine gX6_18 rfl dX6_takeOff_26 (isS_0 hD hb) ?_
    refine a_iload_n (i := 1) dX6_takeOff_29 rfl rfl ?_
    refine a_ialdN dX6_takeOff_30 (isS_7 hD hb) (by first | with_reducible exact rfl | with_reducible exact ix8 _ _ | with_reducible exact ix12 _ _ | exact rfl) (by omega) (by decide) ?_
    rw [aWr_s]
    refine a_iadd dX6_takeOff_31 ?_
    refine a_istore_n (i := 2) dX6_takeOff_32 rfl (by decide) ?_
    refine a_aload_n (i := 0) dX6_takeOff_33 rfl rfl ?_
    refine gX6_15 rfl dX6_takeOff_34 (isS_0 hD hb) ?_
    refine a_iload_n (i := 1) dX6_takeOff_37 rfl rfl ?_
    refine a_bipush (v := 8) dX6_takeOff_38 (by decide) ?_
    refine a_imul dX6_takeOff_40 ?_
    refine a_aload_n (i := 0) dX6_takeOff_41 rfl rfl ?_
    refine gX6_21 rfl dX6_takeOff_42 (isS_0 hD hb) ?_
    refine a_iload_n (i := 2) dX6_takeOff_45 rfl rfl ?_
    refine a_ialdN dX6_takeOff_46 (isS_8 hD hb) (by first | with_reducible exact rfl | with_reducible exact ix8 _ _ | with_reducible exact ix12 _ _ | exact rfl) (by omega) (by decide) ?_
    rw [aWr_n _ _ _ (by omega), hzz]
    refine a_iadd dX6_takeOff_47 ?_
    refine a_dup2_11 dX6_takeOff_48 rfl rfl ?_
    refine a_ialdN dX6_takeOff_49 (isS_6 hD hb) (by first | with_reducible exact rfl | with_reducible exact ix8 _ _ | with_reducible exact ix12 _ _ | exact rfl) (by omega) (by decide) ?_
    rw [aWr_n _ _ _ (by omega)]
    refine a_aload_n (i := 0) dX6_takeOff_50 rfl rfl ?_
    refine gX6_24 rfl dX6_takeOff_51 (isS_0 hD hb) ?_
    refine a_iload_n (i := 2) dX6_takeOff_54 rfl rfl ?_
    refine a_ialdN dX6_takeOff_55 (isS_9 hD hb) (by first | with_reducible exact rfl | with_reducible exact ix8 _ _ | with_reducible exact ix12 _ _ | exact rfl) (by omega) (by decide) ?_
    rw [aWr_n _ _ _ (by omega)]
    refine a_isub dX6_takeOff_56 ?_
    refine a_iastN dX6_takeOff_57 (isS_6 hD hb) (by first | with_reducible exact rfl | with_reducible exact ix8 _ _ | with_reducible exact ix12 _ _ | exact rfl) (by omega) (by decide) ?_
    exact a_vret dX6_takeOff_58 (by exact ⟨rfl, rfl⟩)
  · exact absurd (nI_le (show 1 ≤ c + 1 by omega) (by omega)) c_7
