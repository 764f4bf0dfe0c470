/-! LastHouse$State, LastHouse$Told: exact contracts -/
/-- a last in a zone -/
def sLast (x : aS) (b h z : Nat) : Int32 := x.1 (b + 5) (h * 8 + z) + x.1 (b + 6) (h * 8 + z)
def tFoot (x : aS) (t m z : Nat) (bump : Int32) : Int32 := if nI z = x.1 (t + 9) m then x.1 (t + 8) m + bump else x.1 (t + 8) m
def jabs (a : Int32) : Int32 := if 0 ≤ a then a else 0 - a
def jmax (a b : Int32) : Int32 := if a < b then b else a
def jmin (a b : Int32) : Int32 := if b < a then b else a
set_option maxHeartbeats 4000000 in
set_option maxRecDepth 100000 in
theorem c_X6_lastAt {l : Launch} {d : Nat} {D : Nat → Bool} {b h z : Nat} {x : aS} (hD : aDC D) (hb : aStB b) (hh : h < 6) (hz : z < 8) : aDI l mX6_lastAt d D [.ref b, .int (nI h), .int (nI z)] x (sLast x b h z) x := by
  refine a_metI (by decide) (Nat.le_of_ble_eq_true rfl) rfl ?_
  refine a_aload_n (i := 0) dX6_lastAt_0 rfl rfl ?_
  refine gX6_9 rfl dX6_lastAt_1 (isS_0 hD hb) ?_
  refine a_iload_n (i := 1) dX6_lastAt_4 rfl rfl ?_
  refine a_bipush (v := 8) dX6_lastAt_5 (by decide) ?_
  refine a_imul dX6_lastAt_7 ?_
  refine a_iload_n (i := 2) dX6_lastAt_8 rfl rfl ?_
  refine a_iadd dX6_lastAt_9 ?_
  refine a_ialdN dX6_lastAt_10 (isS_5 hD hb) (by first | with_reducible exact rfl | with_reducible exact ix8 _ _ | with_reducible exact ix12 _ _ | exact rfl) (by omega) (by decide) ?_
  refine a_aload_n (i := 0) dX6_lastAt_11 rfl rfl ?_
  refine gX6_15 rfl dX6_lastAt_12 (isS_0 hD hb) ?_
  refine a_iload_n (i := 1) dX6_lastAt_15 rfl rfl ?_
  refine a_bipush (v := 8) dX6_lastAt_16 (by decide) ?_
  refine a_imul dX6_lastAt_18 ?_
  refine a_iload_n (i := 2) dX6_lastAt_19 rfl rfl ?_
  refine a_iadd dX6_lastAt_20 ?_
  refine a_ialdN dX6_lastAt_21 (isS_6 hD hb) (by first | with_reducible exact rfl | with_reducible exact ix8 _ _ | with_reducible exact ix12 _ _ | exact rfl) (by omega) (by decide) ?_
  refine a_iadd dX6_lastAt_22 ?_
  exact a_iret dX6_lastAt_23 (by exact ⟨rfl, rfl⟩)
set_option maxHeartbeats 4000000 in
set_option maxRecDepth 100000 in
theorem c_X6_halfWay {l : Launch} {d : Nat} {D : Nat → Bool} {b h g z : Nat} {x : aS} (hD : aDC D) (hb : aStB b) (hh : h < 6) (hg : g < 6) (hz : z < 8) : aDI l mX6_halfWay (d + 1) D [.ref b, .int (nI h), .int (nI g), .int (nI z)] x ((sLast x b h z + sLast x b g z) / 2) x := by
  refine a_metI (by decide) (Nat.le_of_ble_eq_true rfl) rfl ?_
  refine a_aload_n (i := 0) dX6_halfWay_0 rfl rfl ?_
  refine a_iload_n (i := 1) dX6_halfWay_1 rfl rfl ?_
  refine a_iload_n (i := 3) dX6_halfWay_2 rfl rfl ?_
  refine kX6_96 rfl dX6_halfWay_3 (Nat.le_of_ble_eq_true rfl) (isS_0 hD hb) (c_X6_lastAt hD hb hh hz) ?_
  refine a_aload_n (i := 0) dX6_halfWay_6 rfl rfl ?_
  refine a_iload_n (i := 2) dX6_halfWay_7 rfl rfl ?_
  refine a_iload_n (i := 3) dX6_halfWay_8 rfl rfl ?_
  refine kX6_96 rfl dX6_halfWay_9 (Nat.le_of_ble_eq_true rfl) (isS_0 hD hb) (c_X6_lastAt hD hb hg hz) ?_
  refine a_iadd dX6_halfWay_12 ?_
  refine a_iconst (v := 2) dX6_halfWay_13 (by decide) ?_
  refine a_idiv dX6_halfWay_14 (by decide) ?_
  exact a_iret dX6_halfWay_15 (by exact ⟨rfl, rfl⟩)
def sSum (x : aS) (b h : Nat) : Int32 := lp (fun z a => a + sLast x b h z) 0 8 0
set_option maxHeartbeats 4000000 in
set_option maxRecDepth 100000 in
theorem c_X6_sumOf {l : Launch} {d : Nat} {D : Nat → Bool} {b h : Nat} {x : aS} (hD : aDC D) (hb : aStB b) (hh : h < 6) : aDI l mX6_sumOf (d + 1) D [.ref b, .int (nI h)] x (sSum x b h) x := by
  refine a_metI (by decide) (Nat.le_of_ble_eq_true rfl) rfl ?_
  refine a_iconst (v := 0) dX6_sumOf_0 (by decide) ?_
  refine a_istore_n (i := 2) dX6_sumOf_1 rfl (by decide) ?_
  refine a_iconst (v := 0) dX6_sumOf_2 (by decide) ?_
  refine a_istore_n (i := 3) dX6_sumOf_3 rfl (by decide) ?_
  refine a_loc [(0, .ref b), (1, .int (nI h)), (2, .int 0), (3, .int (nI 0))] rfl ?_
  refine lp_rule (P := fun i a => aV l mX6_sumOf (d + 1) D none 4 [(0, .ref b), (1, .int (nI h)), (2, .int a), (3, .int (nI i))] [] x _) (fun z a => a + sLast x b h z) ?_ 8 0 0 rfl ?_
  · intro i a hi ih
    refine a_iload_n (i := 3) dX6_sumOf_4 rfl rfl ?_
    refine a_bipush (v := 8) dX6_sumOf_5 (by decide) ?_
    refine a_icmp_ge (tg := 25) dX6_sumOf_7 (by decide) (fun c_7 => ?_) (fun c_7 => ?_)
    · exact absurd c_7 (nI_ge hi (by decide))
    · refine a_iload_n (i := 2) dX6_sumOf_10 rfl rfl ?_
      refine a_aload_n (i := 0) dX6_sumOf_11 rfl rfl ?_
      refine a_iload_n (i := 1) dX6_sumOf_12 rfl rfl ?_
      refine a_iload_n (i := 3) dX6_sumOf_13 rfl rfl ?_
      refine kX6_96 rfl dX6_sumOf_14 (Nat.le_of_ble_eq_true rfl) (isS_0 hD hb) (c_X6_lastAt hD hb hh hi) ?_
      refine a_iadd dX6_sumOf_17 ?_
      refine a_istore_n (i := 2) dX6_sumOf_18 rfl (by decide) ?_
      refine a_iincK (i := 3) (u := 1) dX6_sumOf_19 rfl (by decide) (by decide) ?_
      refine a_goto (tg := 4) dX6_sumOf_22 (by decide) ?_
      rw [nI_1]; exact a_loc _ rfl ih
  · refine a_iload_n (i := 3) dX6_sumOf_4 rfl rfl ?_
    refine a_bipush (v := 8) dX6_sumOf_5 (by decide) ?_
    refine a_icmp_ge (tg := 25) dX6_sumOf_7 (by decide) (fun c_7 => ?_) (fun c_7 => ?_)
    · refine a_iload_n (i := 2) dX6_sumOf_25 rfl rfl ?_
      exact a_iret dX6_sumOf_26 (by exact ⟨rfl, rfl⟩)
    · exact absurd (Int32.le_refl _) c_7
def sDiffer (x : aS) (b h g : Nat) : Int32 := lp (fun z a => a + jabs (sLast x b h z - sLast x b g z)) 0 8 0
set_option maxHeartbeats 4000000 in
set_option maxRecDepth 100000 in
theorem c_X6_differ {l : Launch} {d : Nat} {D : Nat → Bool} {b h g : Nat} {x : aS} (hD : aDC D) (hb : aStB b) (hh : h < 6) (hg : g < 6) : aDI l mX6_differ (d + 1) D [.ref b, .int (nI h), .int (nI g)] x (sDiffer x b h g) x := by
  refine a_metI (by decide) (Nat.le_of_ble_eq_true rfl) rfl ?_
  refine a_iconst (v := 0) dX6_differ_0 (by decide) ?_
  refine a_istore_n (i := 3) dX6_differ_1 rfl (by decide) ?_
  refine a_iconst (v := 0) dX6_differ_2 (by decide) ?_
  refine a_istore (i := 4) dX6_differ_3 (by decide) ?_
  refine a_loc [(0, .ref b), (1, .int (nI h)), (2, .int (nI g)), (3, .int 0), (4, .int (nI 0))] rfl ?_
  refine lp_rule (P := fun i a => aV l mX6_differ (d + 1) D none 5 [(0, .ref b), (1, .int (nI h)), (2, .int (nI g)), (3, .int a), (4, .int (nI i))] [] x _) (fun z a => a + jabs (sLast x b h z - sLast x b g z)) ?_ 8 0 0 rfl ?_
  · intro i a hi ih
    refine a_iload (i := 4) dX6_differ_5 rfl ?_
    refine a_bipush (v := 8) dX6_differ_7 (by decide) ?_
    refine a_icmp_ge (tg := 39) dX6_differ_9 (by decide) (fun c_9 => ?_) (fun c_9 => ?_)
    · exact absurd c_9 (nI_ge hi (by decide))
    · refine a_iload_n (i := 3) dX6_differ_12 rfl rfl ?_
      refine a_aload_n (i := 0) dX6_differ_13 rfl rfl ?_
      refine a_iload_n (i := 1) dX6_differ_14 rfl rfl ?_
      refine a_iload (i := 4) dX6_differ_15 rfl ?_
      refine kX6_96 rfl dX6_differ_17 (Nat.le_of_ble_eq_true rfl) (isS_0 hD hb) (c_X6_lastAt hD hb hh hi) ?_
      refine a_aload_n (i := 0) dX6_differ_20 rfl rfl ?_
      refine a_iload_n (i := 2) dX6_differ_21 rfl rfl ?_
      refine a_iload (i := 4) dX6_differ_22 rfl ?_
      refine kX6_96 rfl dX6_differ_24 (Nat.le_of_ble_eq_true rfl) (isS_0 hD hb) (c_X6_lastAt hD hb hg hi) ?_
      refine a_isub dX6_differ_27 ?_
      refine kX6_100 rfl dX6_differ_28 (Nat.le_of_ble_eq_true rfl) ?_
      refine a_iadd dX6_differ_31 ?_
      refine a_istore_n (i := 3) dX6_differ_32 rfl (by decide) ?_
      refine a_iincK (i := 4) (u := 1) dX6_differ_33 rfl (by decide) (by decide) ?_
      refine a_goto (tg := 5) dX6_differ_36 (by decide) ?_
      rw [nI_1]; exact a_loc _ rfl ih
  · refine a_iload (i := 4) dX6_differ_5 rfl ?_
    refine a_bipush (v := 8) dX6_differ_7 (by decide) ?_
    refine a_icmp_ge (tg := 39) dX6_differ_9 (by decide) (fun c_9 => ?_) (fun c_9 => ?_)
    · refine a_iload_n (i := 3) dX6_differ_39 rfl rfl ?_
      exact a_iret dX6_differ_40 (by exact ⟨rfl, rfl⟩)
    · exact absurd (Int32.le_refl _) c_9
set_option maxHeartbeats 4000000 in
set_option maxRecDepth 100000 in
theorem c_X8_footAt {l : Launch} {d : Nat} {D : Nat → Bool} {t m z : Nat} {u : Int32} {x : aS} (hD : aDC D) (ht : aTdB t) (hm : m < 8) : aDI l mX8_footAt d D [.ref t, .int (nI m), .int (nI z), .int u] x (tFoot x t m z u) x := by
  refine a_metI (by decide) (Nat.le_of_ble_eq_true rfl) rfl ?_
  refine a_iload_n (i := 2) dX8_footAt_0 rfl rfl ?_
  refine a_aload_n (i := 0) dX8_footAt_1 rfl rfl ?_
  refine gX8_27 rfl dX8_footAt_2 (isT_0 hD ht) ?_
  refine a_iload_n (i := 1) dX8_footAt_5 rfl rfl ?_
  refine a_ialdN dX8_footAt_6 (isT_9 hD ht) (by first | with_reducible exact rfl | with_reducible exact ix8 _ _ | with_reducible exact ix12 _ _ | exact rfl) (by omega) (by decide) ?_
  refine a_icmp_ne (tg := 21) dX8_footAt_7 (by decide) (fun c_7 => ?_) (fun c_7 => ?_)
  · refine a_aload_n (i := 0) dX8_footAt_21 rfl rfl ?_
    refine gX8_24 rfl dX8_footAt_22 (isT_0 hD ht) ?_
    refine a_iload_n (i := 1) dX8_footAt_25 rfl rfl ?_
    refine a_ialdN dX8_footAt_26 (isT_8 hD ht) (by first | with_reducible exact rfl | with_reducible exact ix8 _ _ | with_reducible exact ix12 _ _ | exact rfl) (by omega) (by decide) ?_
    exact a_iret dX8_footAt_27 (by simp [tFoot, c_7])
  · refine a_aload_n (i := 0) dX8_footAt_10 rfl rfl ?_
    refine gX8_24 rfl dX8_footAt_11 (isT_0 hD ht) ?_
    refine a_iload_n (i := 1) dX8_footAt_14 rfl rfl ?_
    refine a_ialdN dX8_footAt_15 (isT_8 hD ht) (by first | with_reducible exact rfl | with_reducible exact ix8 _ _ | with_reducible exact ix12 _ _ | exact rfl) (by omega) (by decide) ?_
    refine a_iload_n (i := 3) dX8_footAt_16 rfl rfl ?_
    refine a_iadd dX8_footAt_17 ?_
    refine a_goto (tg := 27) dX8_footAt_18 (by decide) ?_
    exact a_iret dX8_footAt_27 (by simp [tFoot, c_7])
def sFar (x : aS) (t b m h : Nat) : Int32 := lp (fun z a => a + jabs (tFoot x t m z (x.1 (b + 11) m) - sLast x b h z)) 0 8 0
set_option maxHeartbeats 4000000 in
set_option maxRecDepth 100000 in
theorem c_X6_farOf {l : Launch} {d : Nat} {D : Nat → Bool} {t b m h : Nat} {x : aS} (hD : aDC D) (hb : aStB b) (ht : aTdB t) (hm : m < 8) (hh : h < 6) : aDI l mX6_farOf (d + 1) D [.ref b, .ref t, .int (nI m), .int (nI h)] x (sFar x t b m h) x := by
  refine a_metI (by decide) (Nat.le_of_ble_eq_true rfl) rfl ?_
  refine a_iconst (v := 0) dX6_farOf_0 (by decide) ?_
  refine a_istore (i := 4) dX6_farOf_1 (by decide) ?_
  refine a_iconst (v := 0) dX6_farOf_3 (by decide) ?_
  refine a_istore (i := 5) dX6_farOf_4 (by decide) ?_
  refine a_loc [(0, .ref b), (1, .ref t), (2, .int (nI m)), (3, .int (nI h)), (4, .int 0), (5, .int (nI 0))] rfl ?_
  refine lp_rule (P := fun i a => aV l mX6_farOf (d + 1) D none 6 [(0, .ref b), (1, .ref t), (2, .int (nI m)), (3, .int (nI h)), (4, .int a), (5, .int (nI i))] [] x _) (fun z a => a + jabs (tFoot x t m z (x.1 (b + 11) m) - sLast x b h z)) ?_ 8 0 0 rfl ?_
  · intro i a hi ih
    refine a_iload (i := 5) dX6_farOf_6 rfl ?_
    refine a_bipush (v := 8) dX6_farOf_8 (by decide) ?_
    refine a_icmp_ge (tg := 48) dX6_farOf_10 (by decide) (fun c_10 => ?_) (fun c_10 => ?_)
    · exact absurd c_10 (nI_ge hi (by decide))
    · refine a_iload (i := 4) dX6_farOf_13 rfl ?_
      refine a_aload_n (i := 1) dX6_farOf_15 rfl rfl ?_
      refine a_iload_n (i := 2) dX6_farOf_16 rfl rfl ?_
      refine a_iload (i := 5) dX6_farOf_17 rfl ?_
      refine a_aload_n (i := 0) dX6_farOf_19 rfl rfl ?_
      refine gX6_30 rfl dX6_farOf_20 (isS_0 hD hb) ?_
      refine a_iload_n (i := 2) dX6_farOf_23 rfl rfl ?_
      refine a_ialdN dX6_farOf_24 (isS_11 hD hb) (by first | with_reducible exact rfl | with_reducible exact ix8 _ _ | with_reducible exact ix12 _ _ | exact rfl) (by omega) (by decide) ?_
      refine kX6_106 rfl dX6_farOf_25 (Nat.le_of_ble_eq_true rfl) (isT_0 hD ht) (c_X8_footAt hD ht hm) ?_
      refine a_aload_n (i := 0) dX6_farOf_28 rfl rfl ?_
      refine a_iload_n (i := 3) dX6_farOf_29 rfl rfl ?_
      refine a_iload (i := 5) dX6_farOf_30 rfl ?_
      refine kX6_96 rfl dX6_farOf_32 (Nat.le_of_ble_eq_true rfl) (isS_0 hD hb) (c_X6_lastAt hD hb hh hi) ?_
      refine a_isub dX6_farOf_35 ?_
      refine kX6_100 rfl dX6_farOf_36 (Nat.le_of_ble_eq_true rfl) ?_
      refine a_iadd dX6_farOf_39 ?_
      refine a_istore (i := 4) dX6_farOf_40 (by decide) ?_
      refine a_iincK (i := 5) (u := 1) dX6_farOf_42 rfl (by decide) (by decide) ?_
      refine a_goto (tg := 6) dX6_farOf_45 (by decide) ?_
      rw [nI_1]; exact a_loc _ rfl ih
  · refine a_iload (i := 5) dX6_farOf_6 rfl ?_
    refine a_bipush (v := 8) dX6_farOf_8 (by decide) ?_
    refine a_icmp_ge (tg := 48) dX6_farOf_10 (by decide) (fun c_10 => ?_) (fun c_10 => ?_)
    · refine a_iload (i := 4) dX6_farOf_48 rfl ?_
      exact a_iret dX6_farOf_50 (by exact ⟨rfl, rfl⟩)
    · exact absurd (Int32.le_refl _) c_10
/-- the pinch of one on the last of the house k -/
def sPinch (x : aS) (t b m k : Nat) : Int32 := lp (fun z a => a + jmax 0 (tFoot x t m z (x.1 (b + 11) m) - sLast x b k z)) 0 8 0
set_option maxHeartbeats 4000000 in
set_option maxRecDepth 100000 in
theorem c_X6_pinchOf {l : Launch} {d : Nat} {D : Nat → Bool} {t b m k : Nat} {x : aS} (hD : aDC D) (hb : aStB b) (ht : aTdB t) (hm : m < 8) (hk : k < 6) (hx : x.1 (b + 10) m = nI k) : aDI l mX6_pinchOf (d + 1) D [.ref b, .ref t, .int (nI m)] x (sPinch x t b m k) x := by
  refine a_metI (by decide) (Nat.le_of_ble_eq_true rfl) rfl ?_
  refine a_iconst (v := 0) dX6_pinchOf_0 (by decide) ?_
  refine a_istore_n (i := 3) dX6_pinchOf_1 rfl (by decide) ?_
  refine a_iconst (v := 0) dX6_pinchOf_2 (by decide) ?_
  refine a_istore (i := 4) dX6_pinchOf_3 (by decide) ?_
  refine a_loc [(0, .ref b), (1, .ref t), (2, .int (nI m)), (3, .int 0), (4, .int (nI 0))] rfl ?_
  refine lp_rule (P := fun i a => aV l mX6_pinchOf (d + 1) D none 5 [(0, .ref b), (1, .ref t), (2, .int (nI m)), (3, .int a), (4, .int (nI i))] [] x _) (fun z a => a + jmax 0 (tFoot x t m z (x.1 (b + 11) m) - sLast x b k z)) ?_ 8 0 0 rfl ?_
  · intro i a hi ih
    refine a_iload (i := 4) dX6_pinchOf_5 rfl ?_
    refine a_bipush (v := 8) dX6_pinchOf_7 (by decide) ?_
    refine a_icmp_ge (tg := 51) dX6_pinchOf_9 (by decide) (fun c_9 => ?_) (fun c_9 => ?_)
    · exact absurd c_9 (nI_ge hi (by decide))
    · refine a_iload_n (i := 3) dX6_pinchOf_12 rfl rfl ?_
      refine a_iconst (v := 0) dX6_pinchOf_13 (by decide) ?_
      refine a_aload_n (i := 1) dX6_pinchOf_14 rfl rfl ?_
      refine a_iload_n (i := 2) dX6_pinchOf_15 rfl rfl ?_
      refine a_iload (i := 4) dX6_pinchOf_16 rfl ?_
      refine a_aload_n (i := 0) dX6_pinchOf_18 rfl rfl ?_
      refine gX6_30 rfl dX6_pinchOf_19 (isS_0 hD hb) ?_
      refine a_iload_n (i := 2) dX6_pinchOf_22 rfl rfl ?_
      refine a_ialdN dX6_pinchOf_23 (isS_11 hD hb) (by first | with_reducible exact rfl | with_reducible exact ix8 _ _ | with_reducible exact ix12 _ _ | exact rfl) (by omega) (by decide) ?_
      refine kX6_106 rfl dX6_pinchOf_24 (Nat.le_of_ble_eq_true rfl) (isT_0 hD ht) (c_X8_footAt hD ht hm) ?_
      refine a_aload_n (i := 0) dX6_pinchOf_27 rfl rfl ?_
      refine a_aload_n (i := 0) dX6_pinchOf_28 rfl rfl ?_
      refine gX6_27 rfl dX6_pinchOf_29 (isS_0 hD hb) ?_
      refine a_iload_n (i := 2) dX6_pinchOf_32 rfl rfl ?_
      refine a_ialdN dX6_pinchOf_33 (isS_10 hD hb) (by first | with_reducible exact rfl | with_reducible exact ix8 _ _ | with_reducible exact ix12 _ _ | exact rfl) (by omega) (by decide) ?_
      rw [hx]
      refine a_iload (i := 4) dX6_pinchOf_34 rfl ?_
      refine kX6_96 rfl dX6_pinchOf_36 (Nat.le_of_ble_eq_true rfl) (isS_0 hD hb) (c_X6_lastAt hD hb hk hi) ?_
      refine a_isub dX6_pinchOf_39 ?_
      refine kX6_109 rfl dX6_pinchOf_40 (Nat.le_of_ble_eq_true rfl) ?_
      refine a_iadd dX6_pinchOf_43 ?_
      refine a_istore_n (i := 3) dX6_pinchOf_44 rfl (by decide) ?_
      refine a_iincK (i := 4) (u := 1) dX6_pinchOf_45 rfl (by decide) (by decide) ?_
      refine a_goto (tg := 5) dX6_pinchOf_48 (by decide) ?_
      rw [nI_1]; exact a_loc _ rfl ih
  · refine a_iload (i := 4) dX6_pinchOf_5 rfl ?_
    refine a_bipush (v := 8) dX6_pinchOf_7 (by decide) ?_
    refine a_icmp_ge (tg := 51) dX6_pinchOf_9 (by decide) (fun c_9 => ?_) (fun c_9 => ?_)
    · refine a_iload_n (i := 3) dX6_pinchOf_51 rfl rfl ?_
      exact a_iret dX6_pinchOf_52 (by exact ⟨rfl, rfl⟩)
    · exact absurd (Int32.le_refl _) c_9
def sPinchAll (x : aS) (t b F : Nat) (hm : Nat → Nat) : Int32 := lp (fun m a => a + sPinch x t b m (hm m)) 0 F 0
set_option maxHeartbeats 4000000 in
set_option maxRecDepth 100000 in
theorem c_X6_pinchOfAll {l : Launch} {d : Nat} {D : Nat → Bool} {t b F : Nat} {hm : Nat → Nat} {x : aS} (hD : aDC D) (hb : aStB b) (ht : aTdB t) (hF : x.1 t 4 = nI F) (hF8 : F ≤ 8) (hh : ∀ m, m < F → hm m < 6 ∧ x.1 (b + 10) m = nI (hm m)) : aDI l mX6_pinchOfAll (d + 2) D [.ref b, .ref t] x (sPinchAll x t b F hm) x := by
  refine a_metI (by decide) (Nat.le_of_ble_eq_true rfl) rfl ?_
  refine a_iconst (v := 0) dX6_pinchOfAll_0 (by decide) ?_
  refine a_istore_n (i := 2) dX6_pinchOfAll_1 rfl (by decide) ?_
  refine a_iconst (v := 0) dX6_pinchOfAll_2 (by decide) ?_
  refine a_istore_n (i := 3) dX6_pinchOfAll_3 rfl (by decide) ?_
  refine a_loc [(0, .ref b), (1, .ref t), (2, .int 0), (3, .int (nI 0))] rfl ?_
  refine lp_rule (P := fun i a => aV l mX6_pinchOfAll (d + 2) D none 4 [(0, .ref b), (1, .ref t), (2, .int a), (3, .int (nI i))] [] x _) (fun m a => a + sPinch x t b m (hm m)) ?_ F 0 0 (Nat.zero_add F) ?_
  · intro i a hi ih
    refine a_iload_n (i := 3) dX6_pinchOfAll_4 rfl rfl ?_
    refine a_aload_n (i := 1) dX6_pinchOfAll_5 rfl rfl ?_
    refine gX6_58 rfl dX6_pinchOfAll_6 (isT_0 hD ht) ?_
    rw [hF]
    refine a_icmp_ge (tg := 27) dX6_pinchOfAll_9 (by decide) (fun c_9 => ?_) (fun c_9 => ?_)
    · exact absurd c_9 (nI_ge hi (by omega))
    · refine a_iload_n (i := 2) dX6_pinchOfAll_12 rfl rfl ?_
      refine a_aload_n (i := 0) dX6_pinchOfAll_13 rfl rfl ?_
      refine a_aload_n (i := 1) dX6_pinchOfAll_14 rfl rfl ?_
      refine a_iload_n (i := 3) dX6_pinchOfAll_15 rfl rfl ?_
      refine kX6_112 rfl dX6_pinchOfAll_16 (Nat.le_of_ble_eq_true rfl) (isS_0 hD hb) (c_X6_pinchOf hD hb ht (by omega) (hh i hi).1 (hh i hi).2) ?_
      refine a_iadd dX6_pinchOfAll_19 ?_
      refine a_istore_n (i := 2) dX6_pinchOfAll_20 rfl (by decide) ?_
      refine a_iincK (i := 3) (u := 1) dX6_pinchOfAll_21 rfl (by decide) (by decide) ?_
      refine a_goto (tg := 4) dX6_pinchOfAll_24 (by decide) ?_
      rw [nI_1]; exact a_loc _ rfl ih
  · refine a_iload_n (i := 3) dX6_pinchOfAll_4 rfl rfl ?_
    refine a_aload_n (i := 1) dX6_pinchOfAll_5 rfl rfl ?_
    refine gX6_58 rfl dX6_pinchOfAll_6 (isT_0 hD ht) ?_
    rw [hF]
    refine a_icmp_ge (tg := 27) dX6_pinchOfAll_9 (by decide) (fun c_9 => ?_) (fun c_9 => ?_)
    · refine a_iload_n (i := 2) dX6_pinchOfAll_27 rfl rfl ?_
      exact a_iret dX6_pinchOfAll_28 (by exact ⟨rfl, rfl⟩)
    · exact absurd (Int32.le_refl _) c_9
def sCornsAll (x : aS) (b F : Nat) : Int32 := lp (fun m a => a + x.1 (b + 12) m) 0 F 0
set_option maxHeartbeats 4000000 in
set_option maxRecDepth 100000 in
theorem c_X6_cornsOfAll {l : Launch} {d : Nat} {D : Nat → Bool} {t b F : Nat} {x : aS} (hD : aDC D) (hb : aStB b) (ht : aTdB t) (hF : x.1 t 4 = nI F) (hF8 : F ≤ 8) : aDI l mX6_cornsOfAll d D [.ref b, .ref t] x (sCornsAll x b F) x := by
  refine a_metI (by decide) (Nat.le_of_ble_eq_true rfl) rfl ?_
  refine a_iconst (v := 0) dX6_cornsOfAll_0 (by decide) ?_
  refine a_istore_n (i := 2) dX6_cornsOfAll_1 rfl (by decide) ?_
  refine a_iconst (v := 0) dX6_cornsOfAll_2 (by decide) ?_
  refine a_istore_n (i := 3) dX6_cornsOfAll_3 rfl (by decide) ?_
  refine a_loc [(0, .ref b), (1, .ref t), (2, .int 0), (3, .int (nI 0))] rfl ?_
  refine lp_rule (P := fun i a => aV l mX6_cornsOfAll d D none 4 [(0, .ref b), (1, .ref t), (2, .int a), (3, .int (nI i))] [] x _) (fun m a => a + x.1 (b + 12) m) ?_ F 0 0 (Nat.zero_add F) ?_
  · intro i a hi ih
    refine a_iload_n (i := 3) dX6_cornsOfAll_4 rfl rfl ?_
    refine a_aload_n (i := 1) dX6_cornsOfAll_5 rfl rfl ?_
    refine gX6_58 rfl dX6_cornsOfAll_6 (isT_0 hD ht) ?_
    rw [hF]
    refine a_icmp_ge (tg := 27) dX6_cornsOfAll_9 (by decide) (fun c_9 => ?_) (fun c_9 => ?_)
    · exact absurd c_9 (nI_ge hi (by omega))
    · refine a_iload_n (i := 2) dX6_cornsOfAll_12 rfl rfl ?_
      refine a_aload_n (i := 0) dX6_cornsOfAll_13 rfl rfl ?_
      refine gX6_33 rfl dX6_cornsOfAll_14 (isS_0 hD hb) ?_
      refine a_iload_n (i := 3) dX6_cornsOfAll_17 rfl rfl ?_
      refine a_ialdN dX6_cornsOfAll_18 (isS_12 hD hb) (by first | with_reducible exact rfl | with_reducible exact ix8 _ _ | with_reducible exact ix12 _ _ | exact rfl) (by omega) (by decide) ?_
      refine a_iadd dX6_cornsOfAll_19 ?_
      refine a_istore_n (i := 2) dX6_cornsOfAll_20 rfl (by decide) ?_
      refine a_iincK (i := 3) (u := 1) dX6_cornsOfAll_21 rfl (by decide) (by decide) ?_
      refine a_goto (tg := 4) dX6_cornsOfAll_24 (by decide) ?_
      rw [nI_1]; exact a_loc _ rfl ih
  · refine a_iload_n (i := 3) dX6_cornsOfAll_4 rfl rfl ?_
    refine a_aload_n (i := 1) dX6_cornsOfAll_5 rfl rfl ?_
    refine gX6_58 rfl dX6_cornsOfAll_6 (isT_0 hD ht) ?_
    rw [hF]
    refine a_icmp_ge (tg := 27) dX6_cornsOfAll_9 (by decide) (fun c_9 => ?_) (fun c_9 => ?_)
    · refine a_iload_n (i := 2) dX6_cornsOfAll_27 rfl rfl ?_
      exact a_iret dX6_cornsOfAll_28 (by exact ⟨rfl, rfl⟩)
    · exact absurd (Int32.le_refl _) c_9
def sLayersAll (x : aS) (b N : Nat) : Int32 := lp (fun m a => a + x.1 (b + 7) m) 0 N 0
set_option maxHeartbeats 4000000 in
set_option maxRecDepth 100000 in
theorem c_X6_layersOfAll {l : Launch} {d : Nat} {D : Nat → Bool} {t b N : Nat} {x : aS} (hD : aDC D) (hb : aStB b) (ht : aTdB t) (hN : x.1 t 1 = nI N) (hN6 : N ≤ 6) : aDI l mX6_layersOfAll d D [.ref b, .ref t] x (sLayersAll x b N) x := by
  refine a_metI (by decide) (Nat.le_of_ble_eq_true rfl) rfl ?_
  refine a_iconst (v := 0) dX6_layersOfAll_0 (by decide) ?_
  refine a_istore_n (i := 2) dX6_layersOfAll_1 rfl (by decide) ?_
  refine a_iconst (v := 0) dX6_layersOfAll_2 (by decide) ?_
  refine a_istore_n (i := 3) dX6_layersOfAll_3 rfl (by decide) ?_
  refine a_loc [(0, .ref b), (1, .ref t), (2, .int 0), (3, .int (nI 0))] rfl ?_
  refine lp_rule (P := fun i a => aV l mX6_layersOfAll d D none 4 [(0, .ref b), (1, .ref t), (2, .int a), (3, .int (nI i))] [] x _) (fun m a => a + x.1 (b + 7) m) ?_ N 0 0 (Nat.zero_add N) ?_
  · intro i a hi ih
    refine a_iload_n (i := 3) dX6_layersOfAll_4 rfl rfl ?_
    refine a_aload_n (i := 1) dX6_layersOfAll_5 rfl rfl ?_
    refine gX6_73 rfl dX6_layersOfAll_6 (isT_0 hD ht) ?_
    rw [hN]
    refine a_icmp_ge (tg := 27) dX6_layersOfAll_9 (by decide) (fun c_9 => ?_) (fun c_9 => ?_)
    · exact absurd c_9 (nI_ge hi (by omega))
    · refine a_iload_n (i := 2) dX6_layersOfAll_12 rfl rfl ?_
      refine a_aload_n (i := 0) dX6_layersOfAll_13 rfl rfl ?_
      refine gX6_18 rfl dX6_layersOfAll_14 (isS_0 hD hb) ?_
      refine a_iload_n (i := 3) dX6_layersOfAll_17 rfl rfl ?_
      refine a_ialdN dX6_layersOfAll_18 (isS_7 hD hb) (by first | with_reducible exact rfl | with_reducible exact ix8 _ _ | with_reducible exact ix12 _ _ | exact rfl) (by omega) (by decide) ?_
      refine a_iadd dX6_layersOfAll_19 ?_
      refine a_istore_n (i := 2) dX6_layersOfAll_20 rfl (by decide) ?_
      refine a_iincK (i := 3) (u := 1) dX6_layersOfAll_21 rfl (by decide) (by decide) ?_
      refine a_goto (tg := 4) dX6_layersOfAll_24 (by decide) ?_
      rw [nI_1]; exact a_loc _ rfl ih
  · refine a_iload_n (i := 3) dX6_layersOfAll_4 rfl rfl ?_
    refine a_aload_n (i := 1) dX6_layersOfAll_5 rfl rfl ?_
    refine gX6_73 rfl dX6_layersOfAll_6 (isT_0 hD ht) ?_
    rw [hN]
    refine a_icmp_ge (tg := 27) dX6_layersOfAll_9 (by decide) (fun c_9 => ?_) (fun c_9 => ?_)
    · refine a_iload_n (i := 2) dX6_layersOfAll_27 rfl rfl ?_
      exact a_iret dX6_layersOfAll_28 (by exact ⟨rfl, rfl⟩)
    · exact absurd (Int32.le_refl _) c_9
