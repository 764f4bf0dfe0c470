/-! LastHouseModel: reads. rows: 28 woods, 30 folk's house, 31 wide, 32 zone, 33 bump, 34 deeds' house, 35 zone, 36 by, 37 sign, 38 year, 57 names, 58 values, 60 wood, 61 layers' zones, 62 by, 63 how many, 64 home, 65 bump, 66 corns, 67 wedded, 68 refused, 69 year -/
theorem il6 (a b : Nat) : 6 * nI a + nI b = nI (6 * a + b) := by rw [show (6 : Int32) = nI 6 from rfl, pk_mul, nI_add]
theorem il8 (a b : Nat) : 8 * nI a + nI b = nI (8 * a + b) := by rw [show (8 : Int32) = nI 8 from rfl, pk_mul, nI_add]
theorem il12 (a b : Nat) : 12 * nI a + nI b = nI (12 * a + b) := by rw [show (12 : Int32) = nI 12 from rfl, pk_mul, nI_add]
def jbit (b : Int32) (k : Nat) : Bool := decide (b >>> (nI k &&& 31) &&& 1 = 1)
set_option maxHeartbeats 4000000 in
set_option maxRecDepth 100000 in
theorem c_X12_isOf {l : Launch} {d : Nat} {D : Nat → Bool} {u : Int32} {k : Nat} {x : aS} : aDI l mX12_isOf d D [.int u, .int (nI k)] x (if jbit u k then 1 else 0) x := by
  refine a_metZ (by decide) (Nat.le_of_ble_eq_true rfl) rfl (by split <;> simp) ?_
  refine a_iload_n (i := 0) dX12_isOf_0 rfl rfl ?_
  refine a_iload_n (i := 1) dX12_isOf_1 rfl rfl ?_
  refine a_ishr dX12_isOf_2 ?_
  refine a_iconst (v := 1) dX12_isOf_3 (by decide) ?_
  refine a_iand dX12_isOf_4 ?_
  refine a_iconst (v := 1) dX12_isOf_5 (by decide) ?_
  refine a_icmp_ne (tg := 13) dX12_isOf_6 (by decide) (fun c_6 => ?_) (fun c_6 => ?_)
  · have q : jbit u k = false := decide_eq_false c_6
    refine a_iconst (v := 0) dX12_isOf_13 (by decide) ?_
    exact a_iret dX12_isOf_14 (by rw [q]; exact ⟨rfl, rfl⟩)
  · have q : jbit u k = true := decide_eq_true c_6
    refine a_iconst (v := 1) dX12_isOf_9 (by decide) ?_
    refine a_goto (tg := 14) dX12_isOf_10 (by decide) ?_
    exact a_iret dX12_isOf_14 (by rw [q]; exact ⟨rfl, rfl⟩)
def msize (a : Int32) : Int32 := if 0 ≤ a then a else -a
set_option maxHeartbeats 4000000 in
set_option maxRecDepth 100000 in
theorem c_X12_sizeOf {l : Launch} {d : Nat} {D : Nat → Bool} {a : Int32} {x : aS} : aDI l mX12_sizeOf d D [.int a] x (msize a) x := by
  refine a_metI (by decide) (Nat.le_of_ble_eq_true rfl) rfl ?_
  refine a_iload_n (i := 0) dX12_sizeOf_0 rfl rfl ?_
  refine a_if_ge (tg := 9) dX12_sizeOf_1 (by decide) (fun c_1 => ?_) (fun c_1 => ?_)
  · have q : msize a = a := if_pos c_1
    refine a_iload_n (i := 0) dX12_sizeOf_9 rfl rfl ?_
    exact a_iret dX12_sizeOf_10 (by rw [q]; exact ⟨rfl, rfl⟩)
  · have q : msize a = -a := if_neg c_1
    refine a_iload_n (i := 0) dX12_sizeOf_4 rfl rfl ?_
    refine a_ineg dX12_sizeOf_5 ?_
    refine a_goto (tg := 10) dX12_sizeOf_6 (by decide) ?_
    exact a_iret dX12_sizeOf_10 (by rw [q]; exact ⟨rfl, rfl⟩)
def mLast (x : aS) (i h z c : Nat) (u : Int32) : Int32 := lp (fun k a => a + (if x.1 (bM + 61) (12 * (6 * i + h) + k) = nI z ∧ jbit u k = false then x.1 (bM + 62) (12 * (6 * i + h) + k) else 0)) 0 c (x.1 (bM + 60) (8 * (6 * i + h) + z))
set_option maxHeartbeats 4000000 in
set_option maxRecDepth 100000 in
theorem c_X12_lastBut {l : Launch} {d : Nat} {D : Nat → Bool} {i h z c : Nat} {u : Int32} {x : aS} (hM : D 12 = true) (hi : i < 2) (hh : h < 6) (hz : z < 8) (hc : x.1 (bM + 63) (6 * i + h) = nI c) (hc12 : c ≤ 12) : aDI l mX12_lastBut (d + 1) D [.ref bM, .int (nI i), .int (nI h), .int (nI z), .int u] x (mLast x i h z c u) x := by
  have L : ∀ w, aV l mX12_lastBut (d + 1) D none 25 [(0, .ref bM), (3, .int (nI z)), (4, .int u), (5, .int (nI (6 * i + h))), (6, .int w), (7, .int (nI 0))] [] x (fun v y => v = some (.int (lp (fun k a => a + (if x.1 (bM + 61) (12 * (6 * i + h) + k) = nI z ∧ jbit u k = false then x.1 (bM + 62) (12 * (6 * i + h) + k) else 0)) 0 c w)) ∧ y = x) := by
    intro w
    refine lp_rule (P := fun k a => aV l mX12_lastBut (d + 1) D none 25 [(0, .ref bM), (3, .int (nI z)), (4, .int u), (5, .int (nI (6 * i + h))), (6, .int a), (7, .int (nI k))] [] x _) (fun k a => a + (if x.1 (bM + 61) (12 * (6 * i + h) + k) = nI z ∧ jbit u k = false then x.1 (bM + 62) (12 * (6 * i + h) + k) else 0)) ?_ c 0 w (Nat.zero_add c) ?_
    · intro k a hk ih
      refine a_iload (i := 7) dX12_lastBut_25 rfl ?_
      refine a_aload_n (i := 0) dX12_lastBut_27 rfl rfl ?_
      refine gX12_115 rfl dX12_lastBut_28 (isM_0 hM) ?_
      refine a_iload (i := 5) dX12_lastBut_31 rfl ?_
      refine a_ialdN dX12_lastBut_33 (isM_63 hM) (by first | exact il12 _ _ | with_reducible exact rfl | with_reducible exact ix8 _ _ | with_reducible exact ix12 _ _ | exact rfl) (by omega) (by decide) ?_
      rw [hc]
      refine a_icmp_ge (tg := 92) dX12_lastBut_34 (by decide) (fun c_34 => ?_) (fun c_34 => ?_)
      · exact absurd c_34 (nI_ge hk (by omega))
      · refine a_iload (i := 6) dX12_lastBut_37 rfl ?_
        refine a_aload_n (i := 0) dX12_lastBut_39 rfl rfl ?_
        refine gX12_109 rfl dX12_lastBut_40 (isM_0 hM) ?_
        refine a_bipush (v := 12) dX12_lastBut_43 (by decide) ?_
        refine a_iload (i := 5) dX12_lastBut_45 rfl ?_
        refine a_imul dX12_lastBut_47 ?_
        refine a_iload (i := 7) dX12_lastBut_48 rfl ?_
        refine a_iadd dX12_lastBut_50 ?_
        refine a_ialdN dX12_lastBut_51 (isM_61 hM) (by first | exact il12 _ _ | with_reducible exact rfl | with_reducible exact ix8 _ _ | with_reducible exact ix12 _ _ | exact rfl) (by omega) (by decide) ?_
        refine a_iload_n (i := 3) dX12_lastBut_52 rfl rfl ?_
        refine a_icmp_ne (tg := 82) dX12_lastBut_53 (by decide) (fun c_53 => ?_) (fun c_53 => ?_)
        · rw [if_neg (fun q => c_53 q.1)] at ih
          refine a_iconst (v := 0) dX12_lastBut_82 (by decide) ?_
          refine a_iadd dX12_lastBut_83 ?_
          refine a_istore (i := 6) dX12_lastBut_84 (by decide) ?_
          refine a_iincK (i := 7) (u := 1) dX12_lastBut_86 rfl (by decide) (by decide) ?_
          refine a_goto (tg := 25) dX12_lastBut_89 (by decide) ?_
          rw [nI_1]; exact a_loc _ rfl ih
        · refine a_iload (i := 4) dX12_lastBut_56 rfl ?_
          refine a_iload (i := 7) dX12_lastBut_58 rfl ?_
          refine kX12_426 rfl dX12_lastBut_60 (Nat.le_of_ble_eq_true rfl) (c_X12_isOf) ?_
          refine a_if_ne (tg := 82) dX12_lastBut_63 (by decide) (fun c_63 => ?_) (fun c_63 => ?_)
          · rw [if_neg (fun q => c_63 (by rw [if_neg (by rw [q.2]; decide)]))] at ih
            refine a_iconst (v := 0) dX12_lastBut_82 (by decide) ?_
            refine a_iadd dX12_lastBut_83 ?_
            refine a_istore (i := 6) dX12_lastBut_84 (by decide) ?_
            refine a_iincK (i := 7) (u := 1) dX12_lastBut_86 rfl (by decide) (by decide) ?_
            refine a_goto (tg := 25) dX12_lastBut_89 (by decide) ?_
            rw [nI_1]; exact a_loc _ rfl ih
          · rw [if_pos ⟨c_53, by by_cases q : jbit u k = true; rw [if_pos q] at c_63; exact absurd c_63 (by decide); exact Bool.eq_false_iff.mpr q⟩] at ih
            refine a_aload_n (i := 0) dX12_lastBut_66 rfl rfl ?_
            refine gX12_112 rfl dX12_lastBut_67 (isM_0 hM) ?_
            refine a_bipush (v := 12) dX12_lastBut_70 (by decide) ?_
            refine a_iload (i := 5) dX12_lastBut_72 rfl ?_
            refine a_imul dX12_lastBut_74 ?_
            refine a_iload (i := 7) dX12_lastBut_75 rfl ?_
            refine a_iadd dX12_lastBut_77 ?_
            refine a_ialdN dX12_lastBut_78 (isM_62 hM) (by first | exact il12 _ _ | with_reducible exact rfl | with_reducible exact ix8 _ _ | with_reducible exact ix12 _ _ | exact rfl) (by omega) (by decide) ?_
            refine a_goto (tg := 83) dX12_lastBut_79 (by decide) ?_
            refine a_iadd dX12_lastBut_83 ?_
            refine a_istore (i := 6) dX12_lastBut_84 (by decide) ?_
            refine a_iincK (i := 7) (u := 1) dX12_lastBut_86 rfl (by decide) (by decide) ?_
            refine a_goto (tg := 25) dX12_lastBut_89 (by decide) ?_
            rw [nI_1]; exact a_loc _ rfl ih
    · refine a_iload (i := 7) dX12_lastBut_25 rfl ?_
      refine a_aload_n (i := 0) dX12_lastBut_27 rfl rfl ?_
      refine gX12_115 rfl dX12_lastBut_28 (isM_0 hM) ?_
      refine a_iload (i := 5) dX12_lastBut_31 rfl ?_
      refine a_ialdN dX12_lastBut_33 (isM_63 hM) (by first | with_reducible exact rfl | with_reducible exact ix8 _ _ | with_reducible exact ix12 _ _ | exact rfl) (by omega) (by decide) ?_
      rw [hc]
      refine a_icmp_ge (tg := 92) dX12_lastBut_34 (by decide) (fun c_34 => ?_) (fun c_34 => ?_)
      · refine a_iload (i := 6) dX12_lastBut_92 rfl ?_
        exact a_iret dX12_lastBut_94 (by exact ⟨rfl, rfl⟩)
      · exact absurd (Int32.le_refl _) c_34
  refine a_metI (by decide) (Nat.le_of_ble_eq_true rfl) rfl ?_
  refine a_bipush (v := 6) dX12_lastBut_0 (by decide) ?_
  refine a_iload_n (i := 1) dX12_lastBut_2 rfl rfl ?_
  refine a_imul dX12_lastBut_3 ?_
  refine a_iload_n (i := 2) dX12_lastBut_4 rfl rfl ?_
  refine a_iadd dX12_lastBut_5 ?_
  rw [il6]
  refine a_istore (i := 5) dX12_lastBut_6 (by decide) ?_
  refine a_aload_n (i := 0) dX12_lastBut_8 rfl rfl ?_
  refine gX12_106 rfl dX12_lastBut_9 (isM_0 hM) ?_
  refine a_bipush (v := 8) dX12_lastBut_12 (by decide) ?_
  refine a_iload (i := 5) dX12_lastBut_14 rfl ?_
  refine a_imul dX12_lastBut_16 ?_
  refine a_iload_n (i := 3) dX12_lastBut_17 rfl rfl ?_
  refine a_iadd dX12_lastBut_18 ?_
  refine a_ialdN dX12_lastBut_19 (isM_60 hM) (by first | exact il8 _ _ | with_reducible exact rfl | with_reducible exact ix8 _ _ | with_reducible exact ix12 _ _ | exact rfl) (by omega) (by decide) ?_
  refine a_istore (i := 6) dX12_lastBut_20 (by decide) ?_
  refine a_iconst (v := 0) dX12_lastBut_22 (by decide) ?_
  refine a_istore (i := 7) dX12_lastBut_23 (by decide) ?_
  exact a_loc _ rfl (L _)
set_option maxHeartbeats 4000000 in
set_option maxRecDepth 100000 in
theorem c_X12_lastAt {l : Launch} {d : Nat} {D : Nat → Bool} {i h z c : Nat} {x : aS} (hM : D 12 = true) (hi : i < 2) (hh : h < 6) (hz : z < 8) (hc : x.1 (bM + 63) (6 * i + h) = nI c) (hc12 : c ≤ 12) : aDI l mX12_lastAt (d + 2) D [.ref bM, .int (nI i), .int (nI h), .int (nI z)] x (mLast x i h z c 0) x := by
  refine a_metI (by decide) (Nat.le_of_ble_eq_true rfl) rfl ?_
  refine a_aload_n (i := 0) dX12_lastAt_0 rfl rfl ?_
  refine a_iload_n (i := 1) dX12_lastAt_1 rfl rfl ?_
  refine a_iload_n (i := 2) dX12_lastAt_2 rfl rfl ?_
  refine a_iload_n (i := 3) dX12_lastAt_3 rfl rfl ?_
  refine a_iconst (v := 0) dX12_lastAt_4 (by decide) ?_
  refine kX12_429 rfl dX12_lastAt_5 (Nat.le_of_ble_eq_true rfl) (isM_0 hM) (c_X12_lastBut hM hi hh hz hc hc12) ?_
  exact a_iret dX12_lastAt_8 (by exact ⟨rfl, rfl⟩)
def mFoot (x : aS) (i m z : Nat) : Int32 := x.1 (bM + 31) m + (if x.1 (bM + 32) m = nI z then x.1 (bM + 65) (8 * i + m) else 0)
set_option maxHeartbeats 4000000 in
set_option maxRecDepth 100000 in
theorem c_X12_footAt {l : Launch} {d : Nat} {D : Nat → Bool} {i m z : Nat} {x : aS} (hM : D 12 = true) (hi : i < 2) (hm : m < 8) : aDI l mX12_footAt d D [.ref bM, .int (nI i), .int (nI m), .int (nI z)] x (mFoot x i m z) x := by
  refine a_metI (by decide) (Nat.le_of_ble_eq_true rfl) rfl ?_
  refine a_aload_n (i := 0) dX12_footAt_0 rfl rfl ?_
  refine gX12_39 rfl dX12_footAt_1 (isM_0 hM) ?_
  refine a_iload_n (i := 2) dX12_footAt_4 rfl rfl ?_
  refine a_ialdN dX12_footAt_5 (isM_31 hM) (by first | exact il8 _ _ | with_reducible exact rfl | with_reducible exact ix8 _ _ | with_reducible exact ix12 _ _ | exact rfl) (by omega) (by decide) ?_
  refine a_aload_n (i := 0) dX12_footAt_6 rfl rfl ?_
  refine gX12_42 rfl dX12_footAt_7 (isM_0 hM) ?_
  refine a_iload_n (i := 2) dX12_footAt_10 rfl rfl ?_
  refine a_ialdN dX12_footAt_11 (isM_32 hM) (by first | exact il8 _ _ | with_reducible exact rfl | with_reducible exact ix8 _ _ | with_reducible exact ix12 _ _ | exact rfl) (by omega) (by decide) ?_
  refine a_iload_n (i := 3) dX12_footAt_12 rfl rfl ?_
  refine a_icmp_ne (tg := 30) dX12_footAt_13 (by decide) (fun c_13 => ?_) (fun c_13 => ?_)
  · have q : mFoot x i m z = x.1 (bM + 31) m + 0 := by rw [mFoot, if_neg c_13]
    refine a_iconst (v := 0) dX12_footAt_30 (by decide) ?_
    refine a_iadd dX12_footAt_31 ?_
    exact a_iret dX12_footAt_32 (by rw [q]; exact ⟨rfl, rfl⟩)
  · have q : mFoot x i m z = x.1 (bM + 31) m + x.1 (bM + 65) (8 * i + m) := by rw [mFoot, if_pos c_13]
    refine a_aload_n (i := 0) dX12_footAt_16 rfl rfl ?_
    refine gX12_121 rfl dX12_footAt_17 (isM_0 hM) ?_
    refine a_bipush (v := 8) dX12_footAt_20 (by decide) ?_
    refine a_iload_n (i := 1) dX12_footAt_22 rfl rfl ?_
    refine a_imul dX12_footAt_23 ?_
    refine a_iload_n (i := 2) dX12_footAt_24 rfl rfl ?_
    refine a_iadd dX12_footAt_25 ?_
    refine a_ialdN dX12_footAt_26 (isM_65 hM) (by first | exact il8 _ _ | with_reducible exact rfl | with_reducible exact ix8 _ _ | with_reducible exact ix12 _ _ | exact rfl) (by omega) (by decide) ?_
    refine a_goto (tg := 31) dX12_footAt_27 (by decide) ?_
    refine a_iadd dX12_footAt_31 ?_
    exact a_iret dX12_footAt_32 (by rw [q]; exact ⟨rfl, rfl⟩)
def mFar (x : aS) (i m h c : Nat) (u : Int32) : Int32 := lp (fun z a => a + msize (mFoot x i m z - mLast x i h z c u)) 0 8 0
set_option maxHeartbeats 4000000 in
set_option maxRecDepth 100000 in
theorem c_X12_farBut {l : Launch} {d : Nat} {D : Nat → Bool} {i m h c : Nat} {u : Int32} {x : aS} (hM : D 12 = true) (hi : i < 2) (hm : m < 8) (hh : h < 6) (hc : x.1 (bM + 63) (6 * i + h) = nI c) (hc12 : c ≤ 12) : aDI l mX12_farBut (d + 2) D [.ref bM, .int (nI i), .int (nI m), .int (nI h), .int u] x (mFar x i m h c u) x := by
  refine a_metI (by decide) (Nat.le_of_ble_eq_true rfl) rfl ?_
  refine a_iconst (v := 0) dX12_farBut_0 (by decide) ?_
  refine a_istore (i := 5) dX12_farBut_1 (by decide) ?_
  refine a_iconst (v := 0) dX12_farBut_3 (by decide) ?_
  refine a_istore (i := 6) dX12_farBut_4 (by decide) ?_
  refine a_loc [(0, .ref bM), (1, .int (nI i)), (2, .int (nI m)), (3, .int (nI h)), (4, .int u), (5, .int 0), (6, .int (nI 0))] rfl ?_
  refine lp_rule (P := fun z a => aV l mX12_farBut (d + 2) D none 6 [(0, .ref bM), (1, .int (nI i)), (2, .int (nI m)), (3, .int (nI h)), (4, .int u), (5, .int a), (6, .int (nI z))] [] x _) (fun z a => a + msize (mFoot x i m z - mLast x i h z c u)) ?_ 8 0 0 rfl ?_
  · intro z a hz ih
    refine a_iload (i := 6) dX12_farBut_6 rfl ?_
    refine a_bipush (v := 8) dX12_farBut_8 (by decide) ?_
    refine a_icmp_ge (tg := 46) dX12_farBut_10 (by decide) (fun c_10 => ?_) (fun c_10 => ?_)
    · exact absurd c_10 (nI_ge hz (by decide))
    · refine a_iload (i := 5) dX12_farBut_13 rfl ?_
      refine a_aload_n (i := 0) dX12_farBut_15 rfl rfl ?_
      refine a_iload_n (i := 1) dX12_farBut_16 rfl rfl ?_
      refine a_iload_n (i := 2) dX12_farBut_17 rfl rfl ?_
      refine a_iload (i := 6) dX12_farBut_18 rfl ?_
      refine kX12_433 rfl dX12_farBut_20 (Nat.le_of_ble_eq_true rfl) (isM_0 hM) (c_X12_footAt hM hi hm) ?_
      refine a_aload_n (i := 0) dX12_farBut_23 rfl rfl ?_
      refine a_iload_n (i := 1) dX12_farBut_24 rfl rfl ?_
      refine a_iload_n (i := 3) dX12_farBut_25 rfl rfl ?_
      refine a_iload (i := 6) dX12_farBut_26 rfl ?_
      refine a_iload (i := 4) dX12_farBut_28 rfl ?_
      refine kX12_429 rfl dX12_farBut_30 (Nat.le_of_ble_eq_true rfl) (isM_0 hM) (c_X12_lastBut hM hi hh hz hc hc12) ?_
      refine a_isub dX12_farBut_33 ?_
      refine kX12_437 rfl dX12_farBut_34 (Nat.le_of_ble_eq_true rfl) (c_X12_sizeOf) ?_
      refine a_iadd dX12_farBut_37 ?_
      refine a_istore (i := 5) dX12_farBut_38 (by decide) ?_
      refine a_iincK (i := 6) (u := 1) dX12_farBut_40 rfl (by decide) (by decide) ?_
      refine a_goto (tg := 6) dX12_farBut_43 (by decide) ?_
      rw [nI_1]; exact a_loc _ rfl ih
  · refine a_iload (i := 6) dX12_farBut_6 rfl ?_
    refine a_bipush (v := 8) dX12_farBut_8 (by decide) ?_
    refine a_icmp_ge (tg := 46) dX12_farBut_10 (by decide) (fun c_10 => ?_) (fun c_10 => ?_)
    · refine a_iload (i := 5) dX12_farBut_46 rfl ?_
      exact a_iret dX12_farBut_48 (by exact ⟨rfl, rfl⟩)
    · exact absurd (Int32.le_refl _) c_10
def mPos (a : Int32) : Int32 := if a ≤ 0 then 0 else a
def mPinch (x : aS) (i m h c : Nat) : Int32 := lp (fun z a => a + mPos (mFoot x i m z - mLast x i h z c 0)) 0 8 0
set_option maxHeartbeats 4000000 in
set_option maxRecDepth 100000 in
theorem c_X12_pinchOf {l : Launch} {d : Nat} {D : Nat → Bool} {i m h c : Nat} {x : aS} (hM : D 12 = true) (hi : i < 2) (hm : m < 8) (hh : h < 6) (hx : x.1 (bM + 64) (8 * i + m) = nI h) (hc : x.1 (bM + 63) (6 * i + h) = nI c) (hc12 : c ≤ 12) : aDI l mX12_pinchOf (d + 3) D [.ref bM, .int (nI i), .int (nI m)] x (mPinch x i m h c) x := by
  refine a_metI (by decide) (Nat.le_of_ble_eq_true rfl) rfl ?_
  refine a_iconst (v := 0) dX12_pinchOf_0 (by decide) ?_
  refine a_istore_n (i := 3) dX12_pinchOf_1 rfl (by decide) ?_
  refine a_iconst (v := 0) dX12_pinchOf_2 (by decide) ?_
  refine a_istore (i := 4) dX12_pinchOf_3 (by decide) ?_
  refine a_loc [(0, .ref bM), (1, .int (nI i)), (2, .int (nI m)), (3, .int 0), (4, .int (nI 0))] rfl ?_
  refine lp_rule (P := fun z a => aV l mX12_pinchOf (d + 3) D none 5 [(0, .ref bM), (1, .int (nI i)), (2, .int (nI m)), (3, .int a), (4, .int (nI z))] [] x _) (fun z a => a + mPos (mFoot x i m z - mLast x i h z c 0)) ?_ 8 0 0 rfl ?_
  · intro z a hz ih
    refine a_iload (i := 4) dX12_pinchOf_5 rfl ?_
    refine a_bipush (v := 8) dX12_pinchOf_7 (by decide) ?_
    refine a_icmp_ge (tg := 61) dX12_pinchOf_9 (by decide) (fun c_9 => ?_) (fun c_9 => ?_)
    · exact absurd c_9 (nI_ge hz (by decide))
    · refine a_aload_n (i := 0) dX12_pinchOf_12 rfl rfl ?_
      refine a_iload_n (i := 1) dX12_pinchOf_13 rfl rfl ?_
      refine a_iload_n (i := 2) dX12_pinchOf_14 rfl rfl ?_
      refine a_iload (i := 4) dX12_pinchOf_15 rfl ?_
      refine kX12_433 rfl dX12_pinchOf_17 (Nat.le_of_ble_eq_true rfl) (isM_0 hM) (c_X12_footAt hM hi hm) ?_
      refine a_aload_n (i := 0) dX12_pinchOf_20 rfl rfl ?_
      refine a_iload_n (i := 1) dX12_pinchOf_21 rfl rfl ?_
      refine a_aload_n (i := 0) dX12_pinchOf_22 rfl rfl ?_
      refine gX12_118 rfl dX12_pinchOf_23 (isM_0 hM) ?_
      refine a_bipush (v := 8) dX12_pinchOf_26 (by decide) ?_
      refine a_iload_n (i := 1) dX12_pinchOf_28 rfl rfl ?_
      refine a_imul dX12_pinchOf_29 ?_
      refine a_iload_n (i := 2) dX12_pinchOf_30 rfl rfl ?_
      refine a_iadd dX12_pinchOf_31 ?_
      refine a_ialdN dX12_pinchOf_32 (isM_64 hM) (by first | exact il8 _ _ | with_reducible exact rfl | with_reducible exact ix8 _ _ | with_reducible exact ix12 _ _ | exact rfl) (by omega) (by decide) ?_
      rw [hx]
      refine a_iload (i := 4) dX12_pinchOf_33 rfl ?_
      refine kX12_440 rfl dX12_pinchOf_35 (Nat.le_of_ble_eq_true rfl) (isM_0 hM) (c_X12_lastAt hM hi hh hz hc hc12) ?_
      refine a_isub dX12_pinchOf_38 ?_
      refine a_istore (i := 5) dX12_pinchOf_39 (by decide) ?_
      refine a_iload_n (i := 3) dX12_pinchOf_41 rfl rfl ?_
      refine a_iload (i := 5) dX12_pinchOf_42 rfl ?_
      refine a_if_le (tg := 52) dX12_pinchOf_44 (by decide) (fun c_44 => ?_) (fun c_44 => ?_)
      · rw [mPos, if_pos c_44] at ih
        refine a_iconst (v := 0) dX12_pinchOf_52 (by decide) ?_
        refine a_iadd dX12_pinchOf_53 ?_
        refine a_istore_n (i := 3) dX12_pinchOf_54 rfl (by decide) ?_
        refine a_iincK (i := 4) (u := 1) dX12_pinchOf_55 rfl (by decide) (by decide) ?_
        refine a_goto (tg := 5) dX12_pinchOf_58 (by decide) ?_
        rw [nI_1]; exact a_loc _ rfl ih
      · rw [mPos, if_neg c_44] at ih
        refine a_iload (i := 5) dX12_pinchOf_47 rfl ?_
        refine a_goto (tg := 53) dX12_pinchOf_49 (by decide) ?_
        refine a_iadd dX12_pinchOf_53 ?_
        refine a_istore_n (i := 3) dX12_pinchOf_54 rfl (by decide) ?_
        refine a_iincK (i := 4) (u := 1) dX12_pinchOf_55 rfl (by decide) (by decide) ?_
        refine a_goto (tg := 5) dX12_pinchOf_58 (by decide) ?_
        rw [nI_1]; exact a_loc _ rfl ih
  · refine a_iload (i := 4) dX12_pinchOf_5 rfl ?_
    refine a_bipush (v := 8) dX12_pinchOf_7 (by decide) ?_
    refine a_icmp_ge (tg := 61) dX12_pinchOf_9 (by decide) (fun c_9 => ?_) (fun c_9 => ?_)
    · refine a_iload_n (i := 3) dX12_pinchOf_61 rfl rfl ?_
      exact a_iret dX12_pinchOf_62 (by exact ⟨rfl, rfl⟩)
    · exact absurd (Int32.le_refl _) c_9
/-! the same by Z -/
/-- the model's text -/
def rTM (T : zT) (x : aS) : Prop := x.1 bM 12 = nI (T.1 0) ∧ x.1 bM 13 = nI (T.1 1) ∧ x.1 bM 14 = nI (T.1 2) ∧ x.1 bM 15 = nI (T.1 3) ∧ x.1 bM 16 = nI (T.1 4) ∧ x.1 bM 17 = nI (T.1 7) ∧ x.1 (bM + 26) 0 = nI (T.1 5) ∧ x.1 (bM + 26) 1 = nI (T.1 6) ∧
  (∀ h, h < T.1 0 → x.1 (bM + 27) h = T.2.1 0 h ∧ x.1 (bM + 28) h = T.2.1 1 h) ∧
  (∀ m, m < T.1 1 → x.1 (bM + 29) m = T.2.1 2 m ∧ x.1 (bM + 30) m = nI (T.2.2 0 m) ∧ x.1 (bM + 31) m = T.2.1 3 m ∧ x.1 (bM + 32) m = nI (T.2.2 1 m) ∧ x.1 (bM + 33) m = T.2.1 4 m) ∧
  (∀ i, i < T.1 2 → x.1 (bM + 34) i = nI (T.2.2 2 i) ∧ x.1 (bM + 35) i = nI (T.2.2 3 i) ∧ x.1 (bM + 36) i = T.2.1 5 i ∧ x.1 (bM + 37) i = (if T.2.2 4 i = 0 then 1 else -1) ∧ x.1 (bM + 38) i = T.2.1 6 i) ∧
  (∀ i, i < T.1 3 → x.1 (bM + 39) i = nI (T.2.2 5 i) ∧ x.1 (bM + 40) i = nI (T.2.2 6 i) ∧ x.1 (bM + 41) i = T.2.1 7 i) ∧
  (∀ i, i < T.1 4 → x.1 (bM + 42) i = T.2.1 8 i)
/-- the model's state i holds Z (its number apart) -/
def rM (T : zT) (Z : zS) (x : aS) (i : Nat) : Prop := x.1 (bM + 69) i = Z.1 0 0 ∧ x.1 (bM + 68) i = Z.1 0 1 ∧
  (∀ h, h < T.1 0 → (∀ z, z < 8 → x.1 (bM + 60) (8 * (6 * i + h) + z) = Z.1 1 (h * 8 + z)) ∧ x.1 (bM + 63) (6 * i + h) = nI (Z.2 1 h) ∧
    ∀ k, k < Z.2 1 h → x.1 (bM + 61) (12 * (6 * i + h) + k) = nI (Z.2 2 (h * 12 + k)) ∧ x.1 (bM + 62) (12 * (6 * i + h) + k) = Z.1 2 (h * 12 + k)) ∧
  (∀ m, m < T.1 1 → x.1 (bM + 64) (8 * i + m) = nI (Z.2 3 m) ∧ x.1 (bM + 65) (8 * i + m) = Z.1 3 m ∧ x.1 (bM + 66) (8 * i + m) = Z.1 4 m ∧ x.1 (bM + 67) (8 * i + m) = if (Z.2 0 0).testBit m then 1 else 0)
theorem lp_shift (c : Nat → Prop) [DecidablePred c] (v : Nat → Int32) : ∀ (n i : Nat) (w a : Int32), lp (fun k a => a + (if c k then v k else 0)) i n (w + a) = w + lp (fun k a => if c k then a + v k else a) i n a := by
  intro n
  induction n with
  | zero => intro i w a; rfl
  | succ n ih =>
    intro i w a
    show lp _ (i + 1) n (w + a + (if c i then v i else 0)) = w + lp _ (i + 1) n (if c i then a + v i else a)
    by_cases h : c i
    · rw [if_pos h, if_pos h, Int32.add_assoc, ih]
    · rw [if_neg h, if_neg h, Int32.add_zero, ih]
theorem jbit_0 (k : Nat) (hk : k < 32) : jbit 0 k = false := by
  have : ∀ k, k < 32 → jbit 0 k = false := by decide +kernel
  exact this k hk
theorem mLast_z {T : zT} {Z : zS} {x : aS} {i h z : Nat} (hZ : zOk T Z) (hS : rM T Z x i) (hh : h < T.1 0) (hz : z < 8) : mLast x i h z (Z.2 1 h) 0 = zLast Z h z := by
  obtain ⟨a1, a2, a3⟩ := hS.2.2.1 h hh
  obtain ⟨b1, b2⟩ := hZ.2.1 h hh
  unfold mLast zLast zLsum
  rw [a1 z hz]
  have := lp_shift (fun k => Z.2 2 (h * 12 + k) = z) (fun k => Z.1 2 (h * 12 + k)) (Z.2 1 h) 0 (Z.1 1 (h * 8 + z)) 0
  rw [Int32.add_zero] at this
  rw [← this]
  refine lp_congr _ _ _ (fun k a _ hk => ?_)
  have hk2 : k < Z.2 1 h := by omega
  rw [(a3 k hk2).1, (a3 k hk2).2]
  have b8 := b2 k hk2
  by_cases e : Z.2 2 (h * 12 + k) = z
  · rw [if_pos ⟨by rw [e], jbit_0 k (by omega)⟩, if_pos e]
  · rw [if_neg (fun q => e ((nI_eq (by omega) (by omega)).mp q.1)), if_neg e]
theorem mFoot_z {T : zT} {Z : zS} {x : aS} {i m z : Nat} (ok : zTok T) (hT : rTM T x) (hS : rM T Z x i) (hm : m < T.1 1) (hz : z < 8) : mFoot x i m z = zFoot T m z (Z.1 3 m) := by
  obtain ⟨h1, h2, h3, h4, h5⟩ := hT.2.2.2.2.2.2.2.2.2.1 m hm
  have h8 := (ok.2.2.2.2.2.2.2.1 m hm).2
  unfold mFoot zFoot
  rw [h3, h4, (hS.2.2.2 m hm).2.1]
  by_cases e : z = T.2.2 1 m
  · rw [if_pos (by rw [e]), if_pos e]
  · rw [if_neg (fun g => e ((nI_eq (by omega) (by omega)).mp g).symm), if_neg e, Int32.add_zero]
theorem jabs_m (a : Int32) : jabs a = msize a := by
  unfold jabs msize
  by_cases h : 0 ≤ a
  · rw [if_pos h, if_pos h]
  · rw [if_neg h, if_neg h, Int32.zero_sub]
theorem jmax_m (a : Int32) : jmax 0 a = mPos a := by
  unfold jmax mPos
  by_cases h : 0 < a
  · rw [if_pos h, if_neg (Int32.not_le.mpr h)]
  · rw [if_neg h, if_pos (Int32.not_lt.mp h)]
theorem mFar_z {T : zT} {Z : zS} {x : aS} {i m h : Nat} (ok : zTok T) (hZ : zOk T Z) (hT : rTM T x) (hS : rM T Z x i) (hm : m < T.1 1) (hh : h < T.1 0) : mFar x i m h (Z.2 1 h) 0 = zFar T Z m h := by
  refine lp_congr 8 0 0 (fun z a _ hz => ?_)
  rw [mFoot_z ok hT hS hm (by omega), mLast_z hZ hS hh (by omega), jabs_m]
theorem mPinch_z {T : zT} {Z : zS} {x : aS} {i m : Nat} (ok : zTok T) (hZ : zOk T Z) (hT : rTM T x) (hS : rM T Z x i) (hm : m < T.1 1) : mPinch x i m (Z.2 3 m) (Z.2 1 (Z.2 3 m)) = zPinch T Z m := by
  refine lp_congr 8 0 0 (fun z a _ hz => ?_)
  rw [mFoot_z ok hT hS hm (by omega), mLast_z hZ hS (hZ.2.2 m hm) (by omega), jmax_m]
