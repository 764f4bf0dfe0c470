/-! what both sides read of a state, by Z -/
abbrev zIn (n : Nat) (a : Int32) : Prop := 0 ≤ a ∧ a < nI n
theorem zIn_of {n : Nat} {a : Int32} (hn : n < 2147483648) (h : zIn n a) : ∃ k, k < n ∧ a = nI k := by
  obtain ⟨k, hk, e⟩ := nI_of (Int32.not_lt.mpr h.1)
  subst e
  exact ⟨k, (nI_ltI hk hn).mp h.2, rfl⟩
theorem zIn_nI {n k : Nat} (hn : n < 2147483648) (h : k < n) : zIn n (nI k) := ⟨nI_pos' (by omega), nI_lt h hn⟩
theorem zIn_le {n : Nat} {a b : Int32} (hb : b = nI n) (hn : n < 2147483647) : 0 ≤ a ∧ a ≤ b ↔ zIn (n + 1) a := by
  subst hb
  constructor
  · rintro ⟨h1, h2⟩
    obtain ⟨k, hk, e⟩ := nI_of (Int32.not_lt.mpr h1)
    subst e
    exact zIn_nI (by omega) (by have := (nI_leI hk (by omega)).mp h2; omega)
  · intro h
    obtain ⟨k, hk, rfl⟩ := zIn_of (by omega) h
    exact ⟨h.1, nI_le (by omega) (by omega)⟩
def zCorns (T : zT) (Z : zS) : Int32 := lp (fun m a => a + Z.1 4 m) 0 (T.1 1) 0
def zLayers (T : zT) (Z : zS) : Int32 := lp (fun h a => a + nI (Z.2 1 h)) 0 (T.1 0) 0
def zPinches (T : zT) (Z : zS) : Int32 := lp (fun m a => a + zPinch T Z m) 0 (T.1 1) 0
def zWeds0 (T : zT) (Z : zS) : Int32 := lp (fun m a => a + (if (Z.2 0 0).testBit m then 1 else 0)) 0 (T.1 1) 0
section zReads
variable {l : Launch} {d : Nat} {D : Nat → Bool} {T : zT} {W : Nat → zL} {Z : zS} {t b i h g m z : Nat} {x : aS}
theorem cz_lastAt (hD : aDC D) (hb : aStB b) (ok : zTok T) (hS : rS T Z x b) (hh : h < T.1 0) (hz : z < 8) : aDI l mX6_lastAt d D [.ref b, .int (nI h), .int (nI z)] x (zLast Z h z) x := by
  rw [← sLast_z hS hh hz]
  exact c_X6_lastAt hD hb (by have := ok.1; omega) hz
theorem cz_halfWay (hD : aDC D) (hb : aStB b) (ok : zTok T) (hS : rS T Z x b) (hh : h < T.1 0) (hg : g < T.1 0) (hz : z < 8) : aDI l mX6_halfWay (d + 1) D [.ref b, .int (nI h), .int (nI g), .int (nI z)] x ((zLast Z h z + zLast Z g z) / 2) x := by
  rw [← sLast_z hS hh hz, ← sLast_z hS hg hz]
  exact c_X6_halfWay hD hb (by have := ok.1; omega) (by have := ok.1; omega) hz
theorem cz_sumOf (hD : aDC D) (hb : aStB b) (ok : zTok T) (hS : rS T Z x b) (hh : h < T.1 0) : aDI l mX6_sumOf (d + 1) D [.ref b, .int (nI h)] x (zSum Z h) x := by
  rw [← sSum_z hS hh]
  exact c_X6_sumOf hD hb (by have := ok.1; omega)
theorem cz_differ (hD : aDC D) (hb : aStB b) (ok : zTok T) (hS : rS T Z x b) (hh : h < T.1 0) (hg : g < T.1 0) : aDI l mX6_differ (d + 1) D [.ref b, .int (nI h), .int (nI g)] x (zDiffer Z h g) x := by
  rw [← sDiffer_z hS hh hg]
  exact c_X6_differ hD hb (by have := ok.1; omega) (by have := ok.1; omega)
theorem cz_farOf (hD : aDC D) (hb : aStB b) (ht : aTdB t) (ok : zTok T) (hT : rT T x t) (hS : rS T Z x b) (hm : m < T.1 1) (hh : h < T.1 0) : aDI l mX6_farOf (d + 1) D [.ref b, .ref t, .int (nI m), .int (nI h)] x (zFar T Z m h) x := by
  rw [← sFar_z hT ok hS hm hh]
  exact c_X6_farOf hD hb ht (by have := ok.2.1; omega) (by have := ok.1; omega)
theorem cz_pinchOf (hD : aDC D) (hb : aStB b) (ht : aTdB t) (ok : zTok T) (hZ : zOk T Z) (hT : rT T x t) (hS : rS T Z x b) (hm : m < T.1 1) : aDI l mX6_pinchOf (d + 1) D [.ref b, .ref t, .int (nI m)] x (zPinch T Z m) x := by
  rw [← sPinch_z hT ok hZ hS hm]
  exact c_X6_pinchOf hD hb ht (by have := ok.2.1; omega) (by have := ok.1; have := hZ.2.2 m hm; omega) (hS.2.2.2 m hm).1
theorem cz_cornsOfAll (hD : aDC D) (hb : aStB b) (ht : aTdB t) (ok : zTok T) (hT : rT T x t) (hS : rS T Z x b) : aDI l mX6_cornsOfAll d D [.ref b, .ref t] x (zCorns T Z) x := by
  rw [show zCorns T Z = sCornsAll x b (T.1 1) from lp_congr _ _ _ (fun m a _ hm => by rw [(hS.2.2.2 m (by omega)).2.2])]
  exact c_X6_cornsOfAll hD hb ht hT.2.1 ok.2.1
theorem cz_layersOfAll (hD : aDC D) (hb : aStB b) (ht : aTdB t) (ok : zTok T) (hT : rT T x t) (hS : rS T Z x b) : aDI l mX6_layersOfAll d D [.ref b, .ref t] x (zLayers T Z) x := by
  rw [show zLayers T Z = sLayersAll x b (T.1 0) from lp_congr _ _ _ (fun m a _ hm => by rw [(hS.2.2.1 m (by omega)).2.1])]
  exact c_X6_layersOfAll hD hb ht hT.1 ok.1
theorem cz_pinchOfAll (hD : aDC D) (hb : aStB b) (ht : aTdB t) (ok : zTok T) (hZ : zOk T Z) (hT : rT T x t) (hS : rS T Z x b) : aDI l mX6_pinchOfAll (d + 2) D [.ref b, .ref t] x (zPinches T Z) x := by
  rw [show zPinches T Z = sPinchAll x t b (T.1 1) (fun m => Z.2 3 m) from lp_congr _ _ _ (fun m a _ hm => by rw [sPinch_z hT ok hZ hS (by omega)])]
  exact c_X6_pinchOfAll hD hb ht hT.2.1 ok.2.1 (fun m hm => ⟨by have := ok.1; have := hZ.2.2 m hm; omega, (hS.2.2.2 m hm).1⟩)
theorem mz_lastAt (hM : D 12 = true) (hi : i < 2) (ok : zTok T) (hZ : zOk T Z) (hS : rM T Z x i) (hh : h < T.1 0) (hz : z < 8) : aDI l mX12_lastAt (d + 2) D [.ref bM, .int (nI i), .int (nI h), .int (nI z)] x (zLast Z h z) x := by
  rw [← mLast_z hZ hS hh hz]
  exact c_X12_lastAt hM hi (by have := ok.1; omega) hz (hS.2.2.1 h hh).2.1 (hZ.2.1 h hh).1
theorem mz_farBut (hM : D 12 = true) (hi : i < 2) (ok : zTok T) (hZ : zOk T Z) (hT : rTM T x) (hS : rM T Z x i) (hm : m < T.1 1) (hh : h < T.1 0) : aDI l mX12_farBut (d + 2) D [.ref bM, .int (nI i), .int (nI m), .int (nI h), .int 0] x (zFar T Z m h) x := by
  rw [← mFar_z ok hZ hT hS hm hh]
  exact c_X12_farBut hM hi (by have := ok.2.1; omega) (by have := ok.1; omega) (hS.2.2.1 h hh).2.1 (hZ.2.1 h hh).1
theorem mz_pinchOf (hM : D 12 = true) (hi : i < 2) (ok : zTok T) (hZ : zOk T Z) (hT : rTM T x) (hS : rM T Z x i) (hm : m < T.1 1) : aDI l mX12_pinchOf (d + 3) D [.ref bM, .int (nI i), .int (nI m)] x (zPinch T Z m) x := by
  rw [← mPinch_z ok hZ hT hS hm]
  have o := hZ.2.2 m hm
  exact c_X12_pinchOf hM hi (by have := ok.2.1; omega) (by have := ok.1; omega) (hS.2.2.2 m hm).1 (hS.2.2.1 _ o).2.1 (hZ.2.1 _ o).1
set_option maxHeartbeats 4000000 in
set_option maxRecDepth 100000 in
theorem mz_sumOf (hM : D 12 = true) (hi : i < 2) (ok : zTok T) (hZ : zOk T Z) (hS : rM T Z x i) (hh : h < T.1 0) : aDI l mX12_sumOf (d + 3) D [.ref bM, .int (nI i), .int (nI h)] x (zSum Z h) x := by
  refine a_metI (by decide) (Nat.le_of_ble_eq_true rfl) rfl ?_
  refine a_iconst (v := 0) dX12_sumOf_0 (by decide) ?_
  refine a_istore_n (i := 3) dX12_sumOf_1 rfl (by decide) ?_
  refine a_iconst (v := 0) dX12_sumOf_2 (by decide) ?_
  refine a_istore (i := 4) dX12_sumOf_3 (by decide) ?_
  refine a_loc [(0, .ref bM), (1, .int (nI i)), (2, .int (nI h)), (3, .int 0), (4, .int (nI 0))] rfl ?_
  refine lp_rule (P := fun z a => aV l mX12_sumOf (d + 3) D none 5 [(0, .ref bM), (1, .int (nI i)), (2, .int (nI h)), (3, .int a), (4, .int (nI z))] [] x _) (fun z a => a + zLast Z h z) ?_ 8 0 0 rfl ?_
  · intro z a hz ih
    refine a_iload (i := 4) dX12_sumOf_5 rfl ?_
    refine a_bipush (v := 8) dX12_sumOf_7 (by decide) ?_
    refine a_icmp_ge (tg := 29) dX12_sumOf_9 (by decide) (fun c_9 => ?_) (fun c_9 => ?_)
    · exact absurd c_9 (nI_ge hz (by decide))
    · refine a_iload_n (i := 3) dX12_sumOf_12 rfl rfl ?_
      refine a_aload_n (i := 0) dX12_sumOf_13 rfl rfl ?_
      refine a_iload_n (i := 1) dX12_sumOf_14 rfl rfl ?_
      refine a_iload_n (i := 2) dX12_sumOf_15 rfl rfl ?_
      refine a_iload (i := 4) dX12_sumOf_16 rfl ?_
      refine kX12_440 rfl dX12_sumOf_18 (Nat.le_of_ble_eq_true rfl) (isM_0 hM) (mz_lastAt hM hi ok hZ hS hh hz) ?_
      refine a_iadd dX12_sumOf_21 ?_
      refine a_istore_n (i := 3) dX12_sumOf_22 rfl (by decide) ?_
      refine a_iincK (i := 4) (u := 1) dX12_sumOf_23 rfl (by decide) (by decide) ?_
      refine a_goto (tg := 5) dX12_sumOf_26 (by decide) ?_
      rw [nI_1]; exact a_loc _ rfl ih
  · refine a_iload (i := 4) dX12_sumOf_5 rfl ?_
    refine a_bipush (v := 8) dX12_sumOf_7 (by decide) ?_
    refine a_icmp_ge (tg := 29) dX12_sumOf_9 (by decide) (fun c_9 => ?_) (fun c_9 => ?_)
    · refine a_iload_n (i := 3) dX12_sumOf_29 rfl rfl ?_
      exact a_iret dX12_sumOf_30 (by exact ⟨rfl, rfl⟩)
    · exact absurd (Int32.le_refl _) c_9
set_option maxHeartbeats 4000000 in
set_option maxRecDepth 100000 in
theorem mz_likeOf (hM : D 12 = true) (ok : zTok T) (hZ : zOk T Z) (hS : rM T Z x 0) (hh : h < T.1 0) (hg : g < T.1 0) : aDI l mX12_likeOf (d + 3) D [.ref bM, .int (nI h), .int (nI g)] x (zDiffer Z h g) x := by
  refine a_metI (by decide) (Nat.le_of_ble_eq_true rfl) rfl ?_
  refine a_iconst (v := 0) dX12_likeOf_0 (by decide) ?_
  refine a_istore_n (i := 3) dX12_likeOf_1 rfl (by decide) ?_
  refine a_iconst (v := 0) dX12_likeOf_2 (by decide) ?_
  refine a_istore (i := 4) dX12_likeOf_3 (by decide) ?_
  refine a_loc [(0, .ref bM), (1, .int (nI h)), (2, .int (nI g)), (3, .int 0), (4, .int (nI 0))] rfl ?_
  refine lp_rule (P := fun z a => aV l mX12_likeOf (d + 3) D none 5 [(0, .ref bM), (1, .int (nI h)), (2, .int (nI g)), (3, .int a), (4, .int (nI z))] [] x _) (fun z a => a + jabs (zLast Z h z - zLast Z g z)) ?_ 8 0 0 rfl ?_
  · intro z a hz ih
    rw [jabs_m] at ih
    refine a_iload (i := 4) dX12_likeOf_5 rfl ?_
    refine a_bipush (v := 8) dX12_likeOf_7 (by decide) ?_
    refine a_icmp_ge (tg := 41) dX12_likeOf_9 (by decide) (fun c_9 => ?_) (fun c_9 => ?_)
    · exact absurd c_9 (nI_ge hz (by decide))
    · refine a_iload_n (i := 3) dX12_likeOf_12 rfl rfl ?_
      refine a_aload_n (i := 0) dX12_likeOf_13 rfl rfl ?_
      refine a_iconst (v := 0) dX12_likeOf_14 (by decide) ?_
      refine a_iload_n (i := 1) dX12_likeOf_15 rfl rfl ?_
      refine a_iload (i := 4) dX12_likeOf_16 rfl ?_
      refine kX12_440 rfl dX12_likeOf_18 (Nat.le_of_ble_eq_true rfl) (isM_0 hM) (mz_lastAt (i := 0) hM (by decide) ok hZ hS hh hz) ?_
      refine a_aload_n (i := 0) dX12_likeOf_21 rfl rfl ?_
      refine a_iconst (v := 0) dX12_likeOf_22 (by decide) ?_
      refine a_iload_n (i := 2) dX12_likeOf_23 rfl rfl ?_
      refine a_iload (i := 4) dX12_likeOf_24 rfl ?_
      refine kX12_440 rfl dX12_likeOf_26 (Nat.le_of_ble_eq_true rfl) (isM_0 hM) (mz_lastAt (i := 0) hM (by decide) ok hZ hS hg hz) ?_
      refine a_isub dX12_likeOf_29 ?_
      refine kX12_437 rfl dX12_likeOf_30 (Nat.le_of_ble_eq_true rfl) (c_X12_sizeOf) ?_
      refine a_iadd dX12_likeOf_33 ?_
      refine a_istore_n (i := 3) dX12_likeOf_34 rfl (by decide) ?_
      refine a_iincK (i := 4) (u := 1) dX12_likeOf_35 rfl (by decide) (by decide) ?_
      refine a_goto (tg := 5) dX12_likeOf_38 (by decide) ?_
      rw [nI_1]; exact a_loc _ rfl ih
  · refine a_iload (i := 4) dX12_likeOf_5 rfl ?_
    refine a_bipush (v := 8) dX12_likeOf_7 (by decide) ?_
    refine a_icmp_ge (tg := 41) dX12_likeOf_9 (by decide) (fun c_9 => ?_) (fun c_9 => ?_)
    · refine a_iload_n (i := 3) dX12_likeOf_41 rfl rfl ?_
      exact a_iret dX12_likeOf_42 (by exact ⟨rfl, rfl⟩)
    · exact absurd (Int32.le_refl _) c_9
set_option maxHeartbeats 4000000 in
set_option maxRecDepth 100000 in
theorem mz_cornsAll (hM : D 12 = true) (hi : i < 2) (ok : zTok T) (hT : rTM T x) (hS : rM T Z x i) : aDI l mX12_cornsAll d D [.ref bM, .int (nI i)] x (zCorns T Z) x := by
  have h8 := ok.2.1
  have e : x.1 bM 13 = nI (T.1 1) := hT.2.1
  refine a_metI (by decide) (Nat.le_of_ble_eq_true rfl) rfl ?_
  refine a_iconst (v := 0) dX12_cornsAll_0 (by decide) ?_
  refine a_istore_n (i := 2) dX12_cornsAll_1 rfl (by decide) ?_
  refine a_iconst (v := 0) dX12_cornsAll_2 (by decide) ?_
  refine a_istore_n (i := 3) dX12_cornsAll_3 rfl (by decide) ?_
  refine a_loc [(0, .ref bM), (1, .int (nI i)), (2, .int 0), (3, .int (nI 0))] rfl ?_
  refine lp_rule (P := fun m a => aV l mX12_cornsAll d D none 4 [(0, .ref bM), (1, .int (nI i)), (2, .int a), (3, .int (nI m))] [] x _) (fun m a => a + Z.1 4 m) ?_ (T.1 1) 0 0 (Nat.zero_add _) ?_
  · intro m a hm ih
    refine a_iload_n (i := 3) dX12_cornsAll_4 rfl rfl ?_
    refine a_aload_n (i := 0) dX12_cornsAll_5 rfl rfl ?_
    refine gX12_261 rfl dX12_cornsAll_6 (isM_0 hM) ?_
    rw [e]
    refine a_icmp_ge (tg := 32) dX12_cornsAll_9 (by decide) (fun c_9 => ?_) (fun c_9 => ?_)
    · exact absurd c_9 (nI_ge hm (by omega))
    · refine a_iload_n (i := 2) dX12_cornsAll_12 rfl rfl ?_
      refine a_aload_n (i := 0) dX12_cornsAll_13 rfl rfl ?_
      refine gX12_124 rfl dX12_cornsAll_14 (isM_0 hM) ?_
      refine a_bipush (v := 8) dX12_cornsAll_17 (by decide) ?_
      refine a_iload_n (i := 1) dX12_cornsAll_19 rfl rfl ?_
      refine a_imul dX12_cornsAll_20 ?_
      refine a_iload_n (i := 3) dX12_cornsAll_21 rfl rfl ?_
      refine a_iadd dX12_cornsAll_22 ?_
      refine a_ialdN dX12_cornsAll_23 (isM_66 hM) (by first | exact il8 _ _ | with_reducible exact rfl | with_reducible exact ix8 _ _ | with_reducible exact ix12 _ _ | exact rfl) (by omega) (by decide) ?_
      rw [(hS.2.2.2 m hm).2.2.1]
      refine a_iadd dX12_cornsAll_24 ?_
      refine a_istore_n (i := 2) dX12_cornsAll_25 rfl (by decide) ?_
      refine a_iincK (i := 3) (u := 1) dX12_cornsAll_26 rfl (by decide) (by decide) ?_
      refine a_goto (tg := 4) dX12_cornsAll_29 (by decide) ?_
      rw [nI_1]; exact a_loc _ rfl ih
  · refine a_iload_n (i := 3) dX12_cornsAll_4 rfl rfl ?_
    refine a_aload_n (i := 0) dX12_cornsAll_5 rfl rfl ?_
    refine gX12_261 rfl dX12_cornsAll_6 (isM_0 hM) ?_
    rw [e]
    refine a_icmp_ge (tg := 32) dX12_cornsAll_9 (by decide) (fun c_9 => ?_) (fun c_9 => ?_)
    · refine a_iload_n (i := 2) dX12_cornsAll_32 rfl rfl ?_
      exact a_iret dX12_cornsAll_33 (by exact ⟨rfl, rfl⟩)
    · exact absurd (Int32.le_refl _) c_9
set_option maxHeartbeats 4000000 in
set_option maxRecDepth 100000 in
theorem mz_wedMany (hM : D 12 = true) (hi : i < 2) (ok : zTok T) (hT : rTM T x) (hS : rM T Z x i) : aDI l mX12_wedMany d D [.ref bM, .int (nI i)] x (zWeds0 T Z) x := by
  have h8 := ok.2.1
  have e : x.1 bM 13 = nI (T.1 1) := hT.2.1
  refine a_metI (by decide) (Nat.le_of_ble_eq_true rfl) rfl ?_
  refine a_iconst (v := 0) dX12_wedMany_0 (by decide) ?_
  refine a_istore_n (i := 2) dX12_wedMany_1 rfl (by decide) ?_
  refine a_iconst (v := 0) dX12_wedMany_2 (by decide) ?_
  refine a_istore_n (i := 3) dX12_wedMany_3 rfl (by decide) ?_
  refine a_loc [(0, .ref bM), (1, .int (nI i)), (2, .int 0), (3, .int (nI 0))] rfl ?_
  refine lp_rule (P := fun m a => aV l mX12_wedMany d D none 4 [(0, .ref bM), (1, .int (nI i)), (2, .int a), (3, .int (nI m))] [] x _) (fun m a => a + (if (Z.2 0 0).testBit m then 1 else 0)) ?_ (T.1 1) 0 0 (Nat.zero_add _) ?_
  · intro m a hm ih
    have q := (hS.2.2.2 m hm).2.2.2
    by_cases hb : (Z.2 0 0).testBit m = true
    · rw [if_pos hb] at q ih
      refine a_iload_n (i := 3) dX12_wedMany_4 rfl rfl ?_
      refine a_aload_n (i := 0) dX12_wedMany_5 rfl rfl ?_
      refine gX12_261 rfl dX12_wedMany_6 (isM_0 hM) ?_
      rw [e]
      refine a_icmp_ge (tg := 40) dX12_wedMany_9 (by decide) (fun c_9 => ?_) (fun c_9 => ?_)
      · exact absurd c_9 (nI_ge hm (by omega))
      · refine a_iload_n (i := 2) dX12_wedMany_12 rfl rfl ?_
        refine a_aload_n (i := 0) dX12_wedMany_13 rfl rfl ?_
        refine gX12_127 rfl dX12_wedMany_14 (isM_0 hM) ?_
        refine a_bipush (v := 8) dX12_wedMany_17 (by decide) ?_
        refine a_iload_n (i := 1) dX12_wedMany_19 rfl rfl ?_
        refine a_imul dX12_wedMany_20 ?_
        refine a_iload_n (i := 3) dX12_wedMany_21 rfl rfl ?_
        refine a_iadd dX12_wedMany_22 ?_
        refine a_zaldN dX12_wedMany_23 (isM_67 hM) (by first | exact il8 _ _ | with_reducible exact rfl | with_reducible exact ix8 _ _ | with_reducible exact ix12 _ _ | exact rfl) (by omega) (by decide) ?_
        rw [q]
        refine a_if_eq (tg := 31) dX12_wedMany_24 (by decide) (fun c_24 => ?_) (fun c_24 => ?_)
        · exact absurd c_24 (by decide)
        · refine a_iconst (v := 1) dX12_wedMany_27 (by decide) ?_
          refine a_goto (tg := 32) dX12_wedMany_28 (by decide) ?_
          refine a_iadd dX12_wedMany_32 ?_
          refine a_istore_n (i := 2) dX12_wedMany_33 rfl (by decide) ?_
          refine a_iincK (i := 3) (u := 1) dX12_wedMany_34 rfl (by decide) (by decide) ?_
          refine a_goto (tg := 4) dX12_wedMany_37 (by decide) ?_
          rw [nI_1]; exact a_loc _ rfl ih
    · rw [if_neg hb] at q ih
      refine a_iload_n (i := 3) dX12_wedMany_4 rfl rfl ?_
      refine a_aload_n (i := 0) dX12_wedMany_5 rfl rfl ?_
      refine gX12_261 rfl dX12_wedMany_6 (isM_0 hM) ?_
      rw [e]
      refine a_icmp_ge (tg := 40) dX12_wedMany_9 (by decide) (fun c_9 => ?_) (fun c_9 => ?_)
      · exact absurd c_9 (nI_ge hm (by omega))
      · refine a_iload_n (i := 2) dX12_wedMany_12 rfl rfl ?_
        refine a_aload_n (i := 0) dX12_wedMany_13 rfl rfl ?_
        refine gX12_127 rfl dX12_wedMany_14 (isM_0 hM) ?_
        refine a_bipush (v := 8) dX12_wedMany_17 (by decide) ?_
        refine a_iload_n (i := 1) dX12_wedMany_19 rfl rfl ?_
        refine a_imul dX12_wedMany_20 ?_
        refine a_iload_n (i := 3) dX12_wedMany_21 rfl rfl ?_
        refine a_iadd dX12_wedMany_22 ?_
        refine a_zaldN dX12_wedMany_23 (isM_67 hM) (by first | exact il8 _ _ | with_reducible exact rfl | with_reducible exact ix8 _ _ | with_reducible exact ix12 _ _ | exact rfl) (by omega) (by decide) ?_
        rw [q]
        refine a_if_eq (tg := 31) dX12_wedMany_24 (by decide) (fun c_24 => ?_) (fun c_24 => ?_)
        · refine a_iconst (v := 0) dX12_wedMany_31 (by decide) ?_
          refine a_iadd dX12_wedMany_32 ?_
          refine a_istore_n (i := 2) dX12_wedMany_33 rfl (by decide) ?_
          refine a_iincK (i := 3) (u := 1) dX12_wedMany_34 rfl (by decide) (by decide) ?_
          refine a_goto (tg := 4) dX12_wedMany_37 (by decide) ?_
          rw [nI_1]; exact a_loc _ rfl ih
        · exact absurd rfl c_24
  · refine a_iload_n (i := 3) dX12_wedMany_4 rfl rfl ?_
    refine a_aload_n (i := 0) dX12_wedMany_5 rfl rfl ?_
    refine gX12_261 rfl dX12_wedMany_6 (isM_0 hM) ?_
    rw [e]
    refine a_icmp_ge (tg := 40) dX12_wedMany_9 (by decide) (fun c_9 => ?_) (fun c_9 => ?_)
    · refine a_iload_n (i := 2) dX12_wedMany_40 rfl rfl ?_
      exact a_iret dX12_wedMany_41 (by exact ⟨rfl, rfl⟩)
    · exact absurd (Int32.le_refl _) c_9
set_option maxHeartbeats 4000000 in
set_option maxRecDepth 100000 in
theorem c_X12_isIn {a u v : Int32} : aDI l mX12_isIn d D [.int a, .int u, .int v] x (bI (decide (u ≤ a ∧ a ≤ v))) x := by
  refine a_metZ (by decide) (Nat.le_of_ble_eq_true rfl) rfl (bI_01 _) ?_
  refine a_iload_n (i := 0) dX12_isIn_0 rfl rfl ?_
  refine a_iload_n (i := 1) dX12_isIn_1 rfl rfl ?_
  refine a_icmp_lt (tg := 14) dX12_isIn_2 (by decide) (fun c_2 => ?_) (fun c_2 => ?_)
  · have q := bI_f (p := u ≤ a ∧ a ≤ v) (fun g => absurd g.1 (Int32.not_le.mpr c_2))
    refine a_iconst (v := 0) dX12_isIn_14 (by decide) ?_
    exact a_iret dX12_isIn_15 (by rw [q]; exact ⟨rfl, rfl⟩)
  · refine a_iload_n (i := 0) dX12_isIn_5 rfl rfl ?_
    refine a_iload_n (i := 2) dX12_isIn_6 rfl rfl ?_
    refine a_icmp_gt (tg := 14) dX12_isIn_7 (by decide) (fun c_7 => ?_) (fun c_7 => ?_)
    · have q := bI_f (p := u ≤ a ∧ a ≤ v) (fun g => absurd g.2 (Int32.not_le.mpr c_7))
      refine a_iconst (v := 0) dX12_isIn_14 (by decide) ?_
      exact a_iret dX12_isIn_15 (by rw [q]; exact ⟨rfl, rfl⟩)
    · have q := bI_t (p := u ≤ a ∧ a ≤ v) ⟨Int32.not_lt.mp c_2, Int32.not_lt.mp c_7⟩
      refine a_iconst (v := 1) dX12_isIn_10 (by decide) ?_
      refine a_goto (tg := 15) dX12_isIn_11 (by decide) ?_
      exact a_iret dX12_isIn_15 (by rw [q]; exact ⟨rfl, rfl⟩)
set_option maxHeartbeats 4000000 in
set_option maxRecDepth 100000 in
theorem c_X12_isHouse {a : Int32} (hM : D 12 = true) (hT : rTM T x) : aDI l mX12_isHouse d D [.ref bM, .int a] x (bI (decide (zIn (T.1 0) a))) x := by
  have e : x.1 bM 12 = nI (T.1 0) := hT.1
  refine a_metZ (by decide) (Nat.le_of_ble_eq_true rfl) rfl (bI_01 _) ?_
  refine a_iload_n (i := 1) dX12_isHouse_0 rfl rfl ?_
  refine a_if_lt (tg := 16) dX12_isHouse_1 (by decide) (fun c_1 => ?_) (fun c_1 => ?_)
  · have q := bI_f (p := zIn (T.1 0) a) (fun g => absurd g.1 (Int32.not_le.mpr c_1))
    refine a_iconst (v := 0) dX12_isHouse_16 (by decide) ?_
    exact a_iret dX12_isHouse_17 (by rw [q]; exact ⟨rfl, rfl⟩)
  · refine a_iload_n (i := 1) dX12_isHouse_4 rfl rfl ?_
    refine a_aload_n (i := 0) dX12_isHouse_5 rfl rfl ?_
    refine gX12_258 rfl dX12_isHouse_6 (isM_0 hM) ?_
    rw [e]
    refine a_icmp_ge (tg := 16) dX12_isHouse_9 (by decide) (fun c_9 => ?_) (fun c_9 => ?_)
    · have q := bI_f (p := zIn (T.1 0) a) (fun g => absurd g.2 (Int32.not_lt.mpr c_9))
      refine a_iconst (v := 0) dX12_isHouse_16 (by decide) ?_
      exact a_iret dX12_isHouse_17 (by rw [q]; exact ⟨rfl, rfl⟩)
    · have q := bI_t (p := zIn (T.1 0) a) ⟨Int32.not_lt.mp c_1, Int32.not_le.mp c_9⟩
      refine a_iconst (v := 1) dX12_isHouse_12 (by decide) ?_
      refine a_goto (tg := 17) dX12_isHouse_13 (by decide) ?_
      exact a_iret dX12_isHouse_17 (by rw [q]; exact ⟨rfl, rfl⟩)
set_option maxHeartbeats 4000000 in
set_option maxRecDepth 100000 in
theorem c_X12_isMan {a : Int32} (hM : D 12 = true) (hT : rTM T x) : aDI l mX12_isMan d D [.ref bM, .int a] x (bI (decide (zIn (T.1 1) a))) x := by
  have e : x.1 bM 13 = nI (T.1 1) := hT.2.1
  refine a_metZ (by decide) (Nat.le_of_ble_eq_true rfl) rfl (bI_01 _) ?_
  refine a_iload_n (i := 1) dX12_isMan_0 rfl rfl ?_
  refine a_if_lt (tg := 16) dX12_isMan_1 (by decide) (fun c_1 => ?_) (fun c_1 => ?_)
  · have q := bI_f (p := zIn (T.1 1) a) (fun g => absurd g.1 (Int32.not_le.mpr c_1))
    refine a_iconst (v := 0) dX12_isMan_16 (by decide) ?_
    exact a_iret dX12_isMan_17 (by rw [q]; exact ⟨rfl, rfl⟩)
  · refine a_iload_n (i := 1) dX12_isMan_4 rfl rfl ?_
    refine a_aload_n (i := 0) dX12_isMan_5 rfl rfl ?_
    refine gX12_261 rfl dX12_isMan_6 (isM_0 hM) ?_
    rw [e]
    refine a_icmp_ge (tg := 16) dX12_isMan_9 (by decide) (fun c_9 => ?_) (fun c_9 => ?_)
    · have q := bI_f (p := zIn (T.1 1) a) (fun g => absurd g.2 (Int32.not_lt.mpr c_9))
      refine a_iconst (v := 0) dX12_isMan_16 (by decide) ?_
      exact a_iret dX12_isMan_17 (by rw [q]; exact ⟨rfl, rfl⟩)
    · have q := bI_t (p := zIn (T.1 1) a) ⟨Int32.not_lt.mp c_1, Int32.not_le.mp c_9⟩
      refine a_iconst (v := 1) dX12_isMan_12 (by decide) ?_
      refine a_goto (tg := 17) dX12_isMan_13 (by decide) ?_
      exact a_iret dX12_isMan_17 (by rw [q]; exact ⟨rfl, rfl⟩)
abbrev zTwo (T : zT) (a c : Int32) : Prop := zIn (T.1 0) a ∧ zIn (T.1 0) c ∧ a ≠ c
set_option maxHeartbeats 4000000 in
set_option maxRecDepth 100000 in
theorem c_X12_areTwo {a c : Int32} (hM : D 12 = true) (hT : rTM T x) : aDI l mX12_areTwo (d + 1) D [.ref bM, .int a, .int c] x (bI (decide (zTwo T a c))) x := by
  refine a_metZ (by decide) (Nat.le_of_ble_eq_true rfl) rfl (bI_01 _) ?_
  refine a_aload_n (i := 0) dX12_areTwo_0 rfl rfl ?_
  refine a_iload_n (i := 1) dX12_areTwo_1 rfl rfl ?_
  refine kX12_498 rfl dX12_areTwo_2 (Nat.le_of_ble_eq_true rfl) (isM_0 hM) (c_X12_isHouse hM hT) ?_
  refine a_if_eq (tg := 25) dX12_areTwo_5 (by decide) (fun c_5 => ?_) (fun c_5 => ?_)
  · have q := bI_f (p := zTwo T a c) (fun g => bI_p.mpr g.1 c_5)
    refine a_iconst (v := 0) dX12_areTwo_25 (by decide) ?_
    exact a_iret dX12_areTwo_26 (by rw [q]; exact ⟨rfl, rfl⟩)
  · refine a_aload_n (i := 0) dX12_areTwo_8 rfl rfl ?_
    refine a_iload_n (i := 2) dX12_areTwo_9 rfl rfl ?_
    refine kX12_498 rfl dX12_areTwo_10 (Nat.le_of_ble_eq_true rfl) (isM_0 hM) (c_X12_isHouse hM hT) ?_
    refine a_if_eq (tg := 25) dX12_areTwo_13 (by decide) (fun c_13 => ?_) (fun c_13 => ?_)
    · have q := bI_f (p := zTwo T a c) (fun g => bI_p.mpr g.2.1 c_13)
      refine a_iconst (v := 0) dX12_areTwo_25 (by decide) ?_
      exact a_iret dX12_areTwo_26 (by rw [q]; exact ⟨rfl, rfl⟩)
    · refine a_iload_n (i := 1) dX12_areTwo_16 rfl rfl ?_
      refine a_iload_n (i := 2) dX12_areTwo_17 rfl rfl ?_
      refine a_icmp_eq (tg := 25) dX12_areTwo_18 (by decide) (fun c_18 => ?_) (fun c_18 => ?_)
      · have q := bI_f (p := zTwo T a c) (fun g => g.2.2 c_18)
        refine a_iconst (v := 0) dX12_areTwo_25 (by decide) ?_
        exact a_iret dX12_areTwo_26 (by rw [q]; exact ⟨rfl, rfl⟩)
      · have q := bI_t (p := zTwo T a c) ⟨bI_p.mp c_5, bI_p.mp c_13, c_18⟩
        refine a_iconst (v := 1) dX12_areTwo_21 (by decide) ?_
        refine a_goto (tg := 26) dX12_areTwo_22 (by decide) ?_
        exact a_iret dX12_areTwo_26 (by rw [q]; exact ⟨rfl, rfl⟩)
/-- the class's text, laws and state of now -/
def cR (T : zT) (W : Nat → zL) (Z : zS) (x : aS) (t : Nat) : Prop := aTdB t ∧ (x.1 bLH 1).toNatClampNeg * 256 = t ∧ zTok T ∧ zOk T Z ∧ rT T x t ∧ rW W x t ∧ rS T Z x bNow
/-- the model's -/
def mR (T : zT) (W : Nat → zL) (Z : zS) (x : aS) : Prop := zTok T ∧ zOk T Z ∧ rTM T x ∧ rWM W x ∧ rM T Z x 0
theorem mR_w {j : Nat} {v : Int32} (hj : j < 12 ∨ 18 ≤ j) (h : mR T W Z x) : mR T W Z (aWr x bM j v) := by
  obtain ⟨a1, a2, a3, a4, a5⟩ := h
  have e : ∀ n, n ≠ bM → (aWr x bM j v).1 n = x.1 n := fun n hn => aWr_n _ _ _ hn
  have e0 : ∀ k, k ≠ j → (aWr x bM j v).1 bM k = x.1 bM k := fun k hk => aWr_j _ _ _ hk
  refine ⟨a1, a2, ?_, rWM_same (fun n h1 _ => e n (by omega)) a4, rM_same a1 a2 (fun n k hk => by rw [e n (by unfold mIn at hk; omega)]) a5⟩
  obtain ⟨a1, a2, a3, a4, a5, a6, a7, a8, b1, b2, b3, b4, b5⟩ := a3
  refine ⟨?_, ?_, ?_, ?_, ?_, ?_, ?_, ?_, fun h hh => ?_, fun m hm => ?_, fun k hk => ?_, fun k hk => ?_, fun k hk => ?_⟩
  · rw [e0 _ (by omega)]; exact a1
  · rw [e0 _ (by omega)]; exact a2
  · rw [e0 _ (by omega)]; exact a3
  · rw [e0 _ (by omega)]; exact a4
  · rw [e0 _ (by omega)]; exact a5
  · rw [e0 _ (by omega)]; exact a6
  · rw [e _ (by omega)]; exact a7
  · rw [e _ (by omega)]; exact a8
  · rw [e _ (by omega), e _ (by omega)]; exact b1 h hh
  · rw [e _ (by omega), e _ (by omega), e _ (by omega), e _ (by omega), e _ (by omega)]; exact b2 m hm
  · rw [e _ (by omega), e _ (by omega), e _ (by omega), e _ (by omega), e _ (by omega)]; exact b3 k hk
  · rw [e _ (by omega), e _ (by omega), e _ (by omega)]; exact b4 k hk
  · rw [e _ (by omega)]; exact b5 k hk
theorem mR_0 (h : mR T W Z x) : mR T W Z (aWr x bM 2 0) := mR_w (by omega) h
set_option maxHeartbeats 4000000 in
set_option maxRecDepth 100000 in
theorem c_X11_isHouse {a : Int32} (hD : aDC D) (ht : aTdB t) (hp : (x.1 bLH 1).toNatClampNeg * 256 = t) (hT : rT T x t) : aDI l mX11_isHouse d D [.ref bLH, .int a] x (bI (decide (zIn (T.1 0) a))) x := by
  have e : x.1 t 1 = nI (T.1 0) := hT.1
  refine a_metZ (by decide) (Nat.le_of_ble_eq_true rfl) rfl (bI_01 _) ?_
  refine a_iload_n (i := 1) dX11_isHouse_0 rfl rfl ?_
  refine a_if_lt (tg := 19) dX11_isHouse_1 (by decide) (fun c_1 => ?_) (fun c_1 => ?_)
  · have q := bI_f (p := zIn (T.1 0) a) (fun g => absurd g.1 (Int32.not_le.mpr c_1))
    refine a_iconst (v := 0) dX11_isHouse_19 (by decide) ?_
    exact a_iret dX11_isHouse_20 (by rw [q]; exact ⟨rfl, rfl⟩)
  · refine a_iload_n (i := 1) dX11_isHouse_4 rfl rfl ?_
    refine a_aload_n (i := 0) dX11_isHouse_5 rfl rfl ?_
    refine gX11_23 rfl dX11_isHouse_6 (isLH_0 hD) ?_
    rw [hp]
    refine gX11_112 rfl dX11_isHouse_9 (isT_0 hD ht) ?_
    rw [e]
    refine a_icmp_ge (tg := 19) dX11_isHouse_12 (by decide) (fun c_12 => ?_) (fun c_12 => ?_)
    · have q := bI_f (p := zIn (T.1 0) a) (fun g => absurd g.2 (Int32.not_lt.mpr c_12))
      refine a_iconst (v := 0) dX11_isHouse_19 (by decide) ?_
      exact a_iret dX11_isHouse_20 (by rw [q]; exact ⟨rfl, rfl⟩)
    · have q := bI_t (p := zIn (T.1 0) a) ⟨Int32.not_lt.mp c_1, Int32.not_le.mp c_12⟩
      refine a_iconst (v := 1) dX11_isHouse_15 (by decide) ?_
      refine a_goto (tg := 20) dX11_isHouse_16 (by decide) ?_
      exact a_iret dX11_isHouse_20 (by rw [q]; exact ⟨rfl, rfl⟩)
set_option maxHeartbeats 4000000 in
set_option maxRecDepth 100000 in
theorem c_X11_isMan {a : Int32} (hD : aDC D) (ht : aTdB t) (hp : (x.1 bLH 1).toNatClampNeg * 256 = t) (hT : rT T x t) : aDI l mX11_isMan d D [.ref bLH, .int a] x (bI (decide (zIn (T.1 1) a))) x := by
  have e : x.1 t 4 = nI (T.1 1) := hT.2.1
  refine a_metZ (by decide) (Nat.le_of_ble_eq_true rfl) rfl (bI_01 _) ?_
  refine a_iload_n (i := 1) dX11_isMan_0 rfl rfl ?_
  refine a_if_lt (tg := 19) dX11_isMan_1 (by decide) (fun c_1 => ?_) (fun c_1 => ?_)
  · have q := bI_f (p := zIn (T.1 1) a) (fun g => absurd g.1 (Int32.not_le.mpr c_1))
    refine a_iconst (v := 0) dX11_isMan_19 (by decide) ?_
    exact a_iret dX11_isMan_20 (by rw [q]; exact ⟨rfl, rfl⟩)
  · refine a_iload_n (i := 1) dX11_isMan_4 rfl rfl ?_
    refine a_aload_n (i := 0) dX11_isMan_5 rfl rfl ?_
    refine gX11_23 rfl dX11_isMan_6 (isLH_0 hD) ?_
    rw [hp]
    refine gX11_122 rfl dX11_isMan_9 (isT_0 hD ht) ?_
    rw [e]
    refine a_icmp_ge (tg := 19) dX11_isMan_12 (by decide) (fun c_12 => ?_) (fun c_12 => ?_)
    · have q := bI_f (p := zIn (T.1 1) a) (fun g => absurd g.2 (Int32.not_lt.mpr c_12))
      refine a_iconst (v := 0) dX11_isMan_19 (by decide) ?_
      exact a_iret dX11_isMan_20 (by rw [q]; exact ⟨rfl, rfl⟩)
    · have q := bI_t (p := zIn (T.1 1) a) ⟨Int32.not_lt.mp c_1, Int32.not_le.mp c_12⟩
      refine a_iconst (v := 1) dX11_isMan_15 (by decide) ?_
      refine a_goto (tg := 20) dX11_isMan_16 (by decide) ?_
      exact a_iret dX11_isMan_20 (by rw [q]; exact ⟨rfl, rfl⟩)
set_option maxHeartbeats 4000000 in
set_option maxRecDepth 100000 in
theorem c_X11_isZone {a : Int32} : aDI l mX11_isZone d D [.int a] x (bI (decide (zIn 8 a))) x := by
  refine a_metZ (by decide) (Nat.le_of_ble_eq_true rfl) rfl (bI_01 _) ?_
  refine a_iload_n (i := 0) dX11_isZone_0 rfl rfl ?_
  refine a_if_lt (tg := 14) dX11_isZone_1 (by decide) (fun c_1 => ?_) (fun c_1 => ?_)
  · have q := bI_f (p := zIn 8 a) (fun g => absurd g.1 (Int32.not_le.mpr c_1))
    refine a_iconst (v := 0) dX11_isZone_14 (by decide) ?_
    exact a_iret dX11_isZone_15 (by rw [q]; exact ⟨rfl, rfl⟩)
  · refine a_iload_n (i := 0) dX11_isZone_4 rfl rfl ?_
    refine a_bipush (v := 8) dX11_isZone_5 (by decide) ?_
    refine a_icmp_ge (tg := 14) dX11_isZone_7 (by decide) (fun c_7 => ?_) (fun c_7 => ?_)
    · have q := bI_f (p := zIn 8 a) (fun g => absurd g.2 (Int32.not_lt.mpr c_7))
      refine a_iconst (v := 0) dX11_isZone_14 (by decide) ?_
      exact a_iret dX11_isZone_15 (by rw [q]; exact ⟨rfl, rfl⟩)
    · have q := bI_t (p := zIn 8 a) ⟨Int32.not_lt.mp c_1, Int32.not_le.mp c_7⟩
      refine a_iconst (v := 1) dX11_isZone_10 (by decide) ?_
      refine a_goto (tg := 15) dX11_isZone_11 (by decide) ?_
      exact a_iret dX11_isZone_15 (by rw [q]; exact ⟨rfl, rfl⟩)
set_option maxHeartbeats 4000000 in
set_option maxRecDepth 100000 in
theorem c_X11_areTwoHouses {a c : Int32} (hD : aDC D) (ht : aTdB t) (hp : (x.1 bLH 1).toNatClampNeg * 256 = t) (hT : rT T x t) : aDI l mX11_areTwoHouses (d + 1) D [.ref bLH, .int a, .int c] x (bI (decide (zTwo T a c))) x := by
  refine a_metZ (by decide) (Nat.le_of_ble_eq_true rfl) rfl (bI_01 _) ?_
  refine a_aload_n (i := 0) dX11_areTwoHouses_0 rfl rfl ?_
  refine a_iload_n (i := 1) dX11_areTwoHouses_1 rfl rfl ?_
  refine kX11_162 rfl dX11_areTwoHouses_2 (Nat.le_of_ble_eq_true rfl) (isLH_0 hD) (c_X11_isHouse hD ht hp hT) ?_
  refine a_if_eq (tg := 25) dX11_areTwoHouses_5 (by decide) (fun c_5 => ?_) (fun c_5 => ?_)
  · have q := bI_f (p := zTwo T a c) (fun g => bI_p.mpr g.1 c_5)
    refine a_iconst (v := 0) dX11_areTwoHouses_25 (by decide) ?_
    exact a_iret dX11_areTwoHouses_26 (by rw [q]; exact ⟨rfl, rfl⟩)
  · refine a_aload_n (i := 0) dX11_areTwoHouses_8 rfl rfl ?_
    refine a_iload_n (i := 2) dX11_areTwoHouses_9 rfl rfl ?_
    refine kX11_162 rfl dX11_areTwoHouses_10 (Nat.le_of_ble_eq_true rfl) (isLH_0 hD) (c_X11_isHouse hD ht hp hT) ?_
    refine a_if_eq (tg := 25) dX11_areTwoHouses_13 (by decide) (fun c_13 => ?_) (fun c_13 => ?_)
    · have q := bI_f (p := zTwo T a c) (fun g => bI_p.mpr g.2.1 c_13)
      refine a_iconst (v := 0) dX11_areTwoHouses_25 (by decide) ?_
      exact a_iret dX11_areTwoHouses_26 (by rw [q]; exact ⟨rfl, rfl⟩)
    · refine a_iload_n (i := 1) dX11_areTwoHouses_16 rfl rfl ?_
      refine a_iload_n (i := 2) dX11_areTwoHouses_17 rfl rfl ?_
      refine a_icmp_eq (tg := 25) dX11_areTwoHouses_18 (by decide) (fun c_18 => ?_) (fun c_18 => ?_)
      · have q := bI_f (p := zTwo T a c) (fun g => g.2.2 c_18)
        refine a_iconst (v := 0) dX11_areTwoHouses_25 (by decide) ?_
        exact a_iret dX11_areTwoHouses_26 (by rw [q]; exact ⟨rfl, rfl⟩)
      · have q := bI_t (p := zTwo T a c) ⟨bI_p.mp c_5, bI_p.mp c_13, c_18⟩
        refine a_iconst (v := 1) dX11_areTwoHouses_21 (by decide) ?_
        refine a_goto (tg := 26) dX11_areTwoHouses_22 (by decide) ?_
        exact a_iret dX11_areTwoHouses_26 (by rw [q]; exact ⟨rfl, rfl⟩)
end zReads
