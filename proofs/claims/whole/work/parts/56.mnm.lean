/-! LastHouseModel: layDeed, layMan -/
theorem aWl_s (x : aS) (n j : Nat) (v : Int64) : (aWl x n j v).2 n j = v := by simp [aWl]
theorem aWl_j (x : aS) (n : Nat) {i j : Nat} (v : Int64) (h : i ≠ j) : (aWl x n j v).2 n i = x.2 n i := by simp [aWl, h]
theorem aWl_n (x : aS) {a n : Nat} (j : Nat) (v : Int64) (h : a ≠ n) : (aWl x n j v).2 a = x.2 a := by simp [aWl, h]
def mNm (x : aS) (a0 a1 a2 a3 a4 a5 a6 : Int64) : aS := aWl (aWl (aWl (aWl (aWl (aWl (aWl x (bM + 57) 0 a0) (bM + 57) 1 a1) (bM + 57) 2 a2) (bM + 57) 3 a3) (bM + 57) 4 a4) (bM + 57) 5 a5) (bM + 57) 6 a6
theorem mNm_1 (x : aS) (a0 a1 a2 a3 a4 a5 a6 : Int64) : (mNm x a0 a1 a2 a3 a4 a5 a6).1 = x.1 := rfl
theorem mNm_n {x : aS} {a0 a1 a2 a3 a4 a5 a6 : Int64} {n : Nat} (h : n ≠ bM + 57) : (mNm x a0 a1 a2 a3 a4 a5 a6).2 n = x.2 n := by
  unfold mNm
  rw [aWl_n _ _ _ h, aWl_n _ _ _ h, aWl_n _ _ _ h, aWl_n _ _ _ h, aWl_n _ _ _ h, aWl_n _ _ _ h, aWl_n _ _ _ h]
theorem mNm_at {x : aS} {f : Nat → Int32} {a0 a1 a2 a3 a4 a5 a6 : Int64} (h0 : a0 = (f 0).toInt64) (h1 : a1 = (f 1).toInt64) (h2 : a2 = (f 2).toInt64) (h3 : a3 = (f 3).toInt64) (h4 : a4 = (f 4).toInt64) (h5 : a5 = (f 5).toInt64) (h6 : a6 = (f 6).toInt64) : ∀ j, j < 7 → (mNm x a0 a1 a2 a3 a4 a5 a6).2 (bM + 57) j = (f j).toInt64 := by
  intro j hj
  have : j = 0 ∨ j = 1 ∨ j = 2 ∨ j = 3 ∨ j = 4 ∨ j = 5 ∨ j = 6 := by omega
  unfold mNm
  rcases this with rfl | rfl | rfl | rfl | rfl | rfl | rfl
  · rw [aWl_j _ _ _ (by decide), aWl_j _ _ _ (by decide), aWl_j _ _ _ (by decide), aWl_j _ _ _ (by decide), aWl_j _ _ _ (by decide), aWl_j _ _ _ (by decide), aWl_s, h0]
  · rw [aWl_j _ _ _ (by decide), aWl_j _ _ _ (by decide), aWl_j _ _ _ (by decide), aWl_j _ _ _ (by decide), aWl_j _ _ _ (by decide), aWl_s, h1]
  · rw [aWl_j _ _ _ (by decide), aWl_j _ _ _ (by decide), aWl_j _ _ _ (by decide), aWl_j _ _ _ (by decide), aWl_s, h2]
  · rw [aWl_j _ _ _ (by decide), aWl_j _ _ _ (by decide), aWl_j _ _ _ (by decide), aWl_s, h3]
  · rw [aWl_j _ _ _ (by decide), aWl_j _ _ _ (by decide), aWl_s, h4]
  · rw [aWl_j _ _ _ (by decide), aWl_s, h5]
  · rw [aWl_s, h6]
theorem aFi_nm {i : Nat} {x : aS} {a0 a1 a2 a3 a4 a5 a6 : Int64} : aFi i x (mNm x a0 a1 a2 a3 a4 a5 a6) := ⟨fun _ _ _ _ => rfl, fun n j h1 _ _ => by rw [mNm_n h1]⟩
set_option maxHeartbeats 4000000 in
set_option maxRecDepth 100000 in
theorem c_X12_layDeed {l : Launch} {d : Nat} {D : Nat → Bool} {T : zT} {Z : zS} {i k : Nat} {x : aS} (hM : D 12 = true) (hi : i < 2) (ok : zTok T) (hZ : zOk T Z) (hT : rTM T x) (hS : rM T Z x i) (hk : k < T.1 2) : aDV l mX12_layDeed (d + 3) D [.ref bM, .int (nI i), .int (nI k)] x (mNm x (zNmD T Z k 0).toInt64 (zNmD T Z k 1).toInt64 (zNmD T Z k 2).toInt64 (zNmD T Z k 3).toInt64 (zNmD T Z k 4).toInt64 (zNmD T Z k 5).toInt64 (zNmD T Z k 6).toInt64) := by
  have h14 := ok.2.2.1
  have h6 := ok.1
  obtain ⟨e0, e1, e2, e3, e4⟩ := hT.2.2.2.2.2.2.2.2.2.2.1 k hk
  obtain ⟨o1, o2, o3⟩ := ok.2.2.2.2.2.2.2.2.1 k hk
  obtain ⟨q1, q2, q3⟩ := hS.2.2.1 _ o1
  have c12 := (hZ.2.1 _ o1).1
  have hl : ∀ y : aS, y.1 = x.1 → aDI l mX12_lastAt (d + 2) D [.ref bM, .int (nI i), .int (nI (T.2.2 2 k)), .int (nI (T.2.2 3 k))] y (zLast Z (T.2.2 2 k) (T.2.2 3 k)) y := by
    intro y hy
    have := c_X12_lastAt (l := l) (d := d) (D := D) (x := y) (z := T.2.2 3 k) hM hi (show T.2.2 2 k < 6 by omega) o2 (by rw [hy]; exact q2) c12
    rwa [show mLast y i (T.2.2 2 k) (T.2.2 3 k) (Z.2 1 (T.2.2 2 k)) 0 = zLast Z (T.2.2 2 k) (T.2.2 3 k) from by
      rw [← mLast_z hZ hS o1 o2]
      unfold mLast
      rw [hy]] at this
  refine a_metV (by decide) (Nat.le_of_ble_eq_true rfl) rfl ?_
  refine a_aload_n (i := 0) dX12_layDeed_0 rfl rfl ?_
  refine gX12_99 rfl dX12_layDeed_1 (isM_0 hM) ?_
  refine a_iconst (v := 0) dX12_layDeed_4 (by decide) ?_
  refine a_aload_n (i := 0) dX12_layDeed_5 rfl rfl ?_
  refine gX12_54 rfl dX12_layDeed_6 (isM_0 hM) ?_
  refine a_iload_n (i := 2) dX12_layDeed_9 rfl rfl ?_
  refine a_ialdN dX12_layDeed_10 (isM_36 hM) (by first | exact il6 _ _ | with_reducible exact rfl | with_reducible exact ix8 _ _ | with_reducible exact ix12 _ _ | exact rfl) (by omega) (by decide) ?_
  rw [e2]
  refine a_i2l dX12_layDeed_11 ?_
  refine a_lastN dX12_layDeed_12 (isM_57 hM) (by first | exact (show (0 : Int32) = nI 0 from rfl) | with_reducible exact rfl | with_reducible exact ix8 _ _ | with_reducible exact ix12 _ _ | exact rfl) (by omega) (by decide) ?_
  refine a_aload_n (i := 0) dX12_layDeed_13 rfl rfl ?_
  refine gX12_99 rfl dX12_layDeed_14 (isM_0 hM) ?_
  refine a_iconst (v := 1) dX12_layDeed_17 (by decide) ?_
  refine a_aload_n (i := 0) dX12_layDeed_18 rfl rfl ?_
  refine gX12_51 rfl dX12_layDeed_19 (isM_0 hM) ?_
  refine a_iload_n (i := 2) dX12_layDeed_22 rfl rfl ?_
  refine a_ialdN dX12_layDeed_23 (isM_35 hM) (by first | exact il6 _ _ | with_reducible exact rfl | with_reducible exact ix8 _ _ | with_reducible exact ix12 _ _ | exact rfl) (by omega) (by decide) ?_
  rw [aWl_1, e1]
  refine a_i2l dX12_layDeed_24 ?_
  refine a_lastN dX12_layDeed_25 (isM_57 hM) (by first | exact (show (1 : Int32) = nI 1 from rfl) | with_reducible exact rfl | with_reducible exact ix8 _ _ | with_reducible exact ix12 _ _ | exact rfl) (by omega) (by decide) ?_
  refine a_aload_n (i := 0) dX12_layDeed_26 rfl rfl ?_
  refine gX12_99 rfl dX12_layDeed_27 (isM_0 hM) ?_
  refine a_iconst (v := 2) dX12_layDeed_30 (by decide) ?_
  refine a_aload_n (i := 0) dX12_layDeed_31 rfl rfl ?_
  refine a_iload_n (i := 1) dX12_layDeed_32 rfl rfl ?_
  refine a_aload_n (i := 0) dX12_layDeed_33 rfl rfl ?_
  refine gX12_48 rfl dX12_layDeed_34 (isM_0 hM) ?_
  refine a_iload_n (i := 2) dX12_layDeed_37 rfl rfl ?_
  refine a_ialdN dX12_layDeed_38 (isM_34 hM) (by first | exact il6 _ _ | with_reducible exact rfl | with_reducible exact ix8 _ _ | with_reducible exact ix12 _ _ | exact rfl) (by omega) (by decide) ?_
  rw [aWl_1, aWl_1, e0]
  refine a_aload_n (i := 0) dX12_layDeed_39 rfl rfl ?_
  refine gX12_51 rfl dX12_layDeed_40 (isM_0 hM) ?_
  refine a_iload_n (i := 2) dX12_layDeed_43 rfl rfl ?_
  refine a_ialdN dX12_layDeed_44 (isM_35 hM) (by first | exact il6 _ _ | with_reducible exact rfl | with_reducible exact ix8 _ _ | with_reducible exact ix12 _ _ | exact rfl) (by omega) (by decide) ?_
  rw [aWl_1, aWl_1, e1]
  refine kX12_440 rfl dX12_layDeed_45 (Nat.le_of_ble_eq_true rfl) (isM_0 hM) (hl _ rfl) ?_
  refine a_i2l dX12_layDeed_48 ?_
  refine a_lastN dX12_layDeed_49 (isM_57 hM) (by first | exact (show (2 : Int32) = nI 2 from rfl) | with_reducible exact rfl | with_reducible exact ix8 _ _ | with_reducible exact ix12 _ _ | exact rfl) (by omega) (by decide) ?_
  refine a_aload_n (i := 0) dX12_layDeed_50 rfl rfl ?_
  refine gX12_99 rfl dX12_layDeed_51 (isM_0 hM) ?_
  refine a_iconst (v := 3) dX12_layDeed_54 (by decide) ?_
  refine a_lconst (v := 0) dX12_layDeed_55 (by decide) ?_
  refine a_lastN dX12_layDeed_56 (isM_57 hM) (by first | exact (show (3 : Int32) = nI 3 from rfl) | with_reducible exact rfl | with_reducible exact ix8 _ _ | with_reducible exact ix12 _ _ | exact rfl) (by omega) (by decide) ?_
  refine a_aload_n (i := 0) dX12_layDeed_57 rfl rfl ?_
  refine gX12_99 rfl dX12_layDeed_58 (isM_0 hM) ?_
  refine a_iconst (v := 4) dX12_layDeed_61 (by decide) ?_
  refine a_lconst (v := 0) dX12_layDeed_62 (by decide) ?_
  refine a_lastN dX12_layDeed_63 (isM_57 hM) (by first | exact (show (4 : Int32) = nI 4 from rfl) | with_reducible exact rfl | with_reducible exact ix8 _ _ | with_reducible exact ix12 _ _ | exact rfl) (by omega) (by decide) ?_
  refine a_aload_n (i := 0) dX12_layDeed_64 rfl rfl ?_
  refine gX12_99 rfl dX12_layDeed_65 (isM_0 hM) ?_
  refine a_iconst (v := 5) dX12_layDeed_68 (by decide) ?_
  refine a_aload_n (i := 0) dX12_layDeed_69 rfl rfl ?_
  refine gX12_115 rfl dX12_layDeed_70 (isM_0 hM) ?_
  refine a_bipush (v := 6) dX12_layDeed_73 (by decide) ?_
  refine a_iload_n (i := 1) dX12_layDeed_75 rfl rfl ?_
  refine a_imul dX12_layDeed_76 ?_
  refine a_aload_n (i := 0) dX12_layDeed_77 rfl rfl ?_
  refine gX12_48 rfl dX12_layDeed_78 (isM_0 hM) ?_
  refine a_iload_n (i := 2) dX12_layDeed_81 rfl rfl ?_
  refine a_ialdN dX12_layDeed_82 (isM_34 hM) (by first | exact il6 _ _ | with_reducible exact rfl | with_reducible exact ix8 _ _ | with_reducible exact ix12 _ _ | exact rfl) (by omega) (by decide) ?_
  rw [aWl_1, aWl_1, aWl_1, aWl_1, aWl_1, e0]
  refine a_iadd dX12_layDeed_83 ?_
  refine a_ialdN dX12_layDeed_84 (isM_63 hM) (by first | exact il6 _ _ | with_reducible exact rfl | with_reducible exact ix8 _ _ | with_reducible exact ix12 _ _ | exact rfl) (by omega) (by decide) ?_
  rw [aWl_1, aWl_1, aWl_1, aWl_1, aWl_1, q2]
  refine a_i2l dX12_layDeed_85 ?_
  refine a_lastN dX12_layDeed_86 (isM_57 hM) (by first | exact (show (5 : Int32) = nI 5 from rfl) | with_reducible exact rfl | with_reducible exact ix8 _ _ | with_reducible exact ix12 _ _ | exact rfl) (by omega) (by decide) ?_
  refine a_aload_n (i := 0) dX12_layDeed_87 rfl rfl ?_
  refine gX12_99 rfl dX12_layDeed_88 (isM_0 hM) ?_
  refine a_bipush (v := 6) dX12_layDeed_91 (by decide) ?_
  refine a_aload_n (i := 0) dX12_layDeed_93 rfl rfl ?_
  refine gX12_133 rfl dX12_layDeed_94 (isM_0 hM) ?_
  refine a_iload_n (i := 1) dX12_layDeed_97 rfl rfl ?_
  refine a_ialdN dX12_layDeed_98 (isM_69 hM) (by first | exact il6 _ _ | with_reducible exact rfl | with_reducible exact ix8 _ _ | with_reducible exact ix12 _ _ | exact rfl) (by omega) (by decide) ?_
  rw [aWl_1, aWl_1, aWl_1, aWl_1, aWl_1, aWl_1, hS.1]
  refine a_i2l dX12_layDeed_99 ?_
  refine a_lastN dX12_layDeed_100 (isM_57 hM) (by first | exact (show (6 : Int32) = nI 6 from rfl) | with_reducible exact rfl | with_reducible exact ix8 _ _ | with_reducible exact ix12 _ _ | exact rfl) (by omega) (by decide) ?_
  exact a_vret dX12_layDeed_101 (by exact ⟨rfl, rfl⟩)
