/-! LastHouse$State: reads -/
/-- a last in a zone -/
def sLast (x : aS) (b h z : Nat) : Int32 := x.1 (b + 5) (h * 8 + z) + x.1 (b + 6) (h * 8 + z)
set_option maxHeartbeats 4000000 in
set_option maxRecDepth 100000 in
theorem c_X6_lastAt {l : Launch} {d : Nat} {D : Nat → Bool} {b h z : Nat} {x : aS} (hD : aDC D) (hb : aStB b) (hh : h < 6) (hz : z < 8) : aDI l mX6_lastAt d D [.ref b, .int (nI h), .int (nI z)] x (sLast x b h z) x := by
  refine a_metI (by decide) (Nat.le_of_ble_eq_true rfl) rfl ?_
  refine a_aload_n (i := 0) dX6_lastAt_0 rfl rfl ?_
  refine gX6_9 rfl dX6_lastAt_1 (isS_0 hD hb) ?_
  refine a_iload_n (i := 1) dX6_lastAt_4 rfl rfl ?_
  refine a_bipush (v := 8) dX6_lastAt_5 (by decide) ?_
  refine a_imul dX6_lastAt_7 ?_
  refine a_iload_n (i := 2) dX6_lastAt_8 rfl rfl ?_
  refine a_iadd dX6_lastAt_9 ?_
  refine a_iald dX6_lastAt_10 (isS_5 hD hb) (by rw [ix8]; exact vp_in_nI (by omega) (by decide)) ?_
  refine a_aload_n (i := 0) dX6_lastAt_11 rfl rfl ?_
  refine gX6_15 rfl dX6_lastAt_12 (isS_0 hD hb) ?_
  refine a_iload_n (i := 1) dX6_lastAt_15 rfl rfl ?_
  refine a_bipush (v := 8) dX6_lastAt_16 (by decide) ?_
  refine a_imul dX6_lastAt_18 ?_
  refine a_iload_n (i := 2) dX6_lastAt_19 rfl rfl ?_
  refine a_iadd dX6_lastAt_20 ?_
  refine a_iald dX6_lastAt_21 (isS_6 hD hb) (by rw [ix8]; exact vp_in_nI (by omega) (by decide)) ?_
  refine a_iadd dX6_lastAt_22 ?_
  exact a_iret dX6_lastAt_23 (by rw [ix8, nI_clamp (by omega)]; exact ⟨rfl, rfl⟩)
set_option maxHeartbeats 4000000 in
set_option maxRecDepth 100000 in
theorem c_X6_halfWay {l : Launch} {d : Nat} {D : Nat → Bool} {b h g z : Nat} {x : aS} (hD : aDC D) (hb : aStB b) (hh : h < 6) (hg : g < 6) (hz : z < 8) : aDI l mX6_halfWay (d + 1) D [.ref b, .int (nI h), .int (nI g), .int (nI z)] x ((sLast x b h z + sLast x b g z) / 2) x := by
  refine a_metI (by decide) (Nat.le_of_ble_eq_true rfl) rfl ?_
  refine a_aload_n (i := 0) dX6_halfWay_0 rfl rfl ?_
  refine a_iload_n (i := 1) dX6_halfWay_1 rfl rfl ?_
  refine a_iload_n (i := 3) dX6_halfWay_2 rfl rfl ?_
  refine kX6_96 rfl dX6_halfWay_3 (Nat.le_of_ble_eq_true rfl) (isS_0 hD hb) (c_X6_lastAt hD hb hh hz) ?_
  refine a_aload_n (i := 0) dX6_halfWay_6 rfl rfl ?_
  refine a_iload_n (i := 2) dX6_halfWay_7 rfl rfl ?_
  refine a_iload_n (i := 3) dX6_halfWay_8 rfl rfl ?_
  refine kX6_96 rfl dX6_halfWay_9 (Nat.le_of_ble_eq_true rfl) (isS_0 hD hb) (c_X6_lastAt hD hb hg hz) ?_
  refine a_iadd dX6_halfWay_12 ?_
  refine a_iconst (v := 2) dX6_halfWay_13 (by decide) ?_
  refine a_idiv dX6_halfWay_14 (by decide) ?_
  exact a_iret dX6_halfWay_15 (by exact ⟨rfl, rfl⟩)
set_option maxHeartbeats 4000000 in
set_option maxRecDepth 100000 in
theorem c_X6_sumOf {l : Launch} {d : Nat} {D : Nat → Bool} {b h : Nat} {x : aS} (hD : aDC D) (hb : aStB b) (hh : h < 6) : aDI l mX6_sumOf (d + 1) D [.ref b, .int (nI h)] x (lp (fun z a => a + sLast x b h z) 0 8 0) x := by
  refine a_metI (by decide) (Nat.le_of_ble_eq_true rfl) rfl ?_
  refine a_iconst (v := 0) dX6_sumOf_0 (by decide) ?_
  refine a_istore_n (i := 2) dX6_sumOf_1 rfl (by decide) ?_
  refine a_iconst (v := 0) dX6_sumOf_2 (by decide) ?_
  refine a_istore_n (i := 3) dX6_sumOf_3 rfl (by decide) ?_
  refine a_loc [(0, .ref b), (1, .int (nI h)), (2, .int 0), (3, .int (nI 0))] rfl ?_
  refine lp_rule (P := fun i a => aV l mX6_sumOf (d + 1) D none 4 [(0, .ref b), (1, .int (nI h)), (2, .int a), (3, .int (nI i))] [] x _) (fun z a => a + sLast x b h z) ?_ 8 0 0 rfl ?_
  · intro i a hi ih
    refine a_iload_n (i := 3) dX6_sumOf_4 rfl rfl ?_
    refine a_bipush (v := 8) dX6_sumOf_5 (by decide) ?_
    refine a_icmp_ge (tg := 25) dX6_sumOf_7 (by decide) (fun c_7 => ?_) (fun c_7 => ?_)
    · exact absurd c_7 (nI_ge hi (by decide))
    · refine a_iload_n (i := 2) dX6_sumOf_10 rfl rfl ?_
      refine a_aload_n (i := 0) dX6_sumOf_11 rfl rfl ?_
      refine a_iload_n (i := 1) dX6_sumOf_12 rfl rfl ?_
      refine a_iload_n (i := 3) dX6_sumOf_13 rfl rfl ?_
      refine kX6_96 rfl dX6_sumOf_14 (Nat.le_of_ble_eq_true rfl) (isS_0 hD hb) (c_X6_lastAt hD hb hh hi) ?_
      refine a_iadd dX6_sumOf_17 ?_
      refine a_istore_n (i := 2) dX6_sumOf_18 rfl (by decide) ?_
      refine a_iincK (i := 3) (u := 1) dX6_sumOf_19 rfl (by decide) (by decide) ?_
      refine a_goto (tg := 4) dX6_sumOf_22 (by decide) ?_
      rw [nI_1]; exact a_loc _ rfl ih
  · refine a_iload_n (i := 3) dX6_sumOf_4 rfl rfl ?_
    refine a_bipush (v := 8) dX6_sumOf_5 (by decide) ?_
    refine a_icmp_ge (tg := 25) dX6_sumOf_7 (by decide) (fun c_7 => ?_) (fun c_7 => ?_)
    · refine a_iload_n (i := 2) dX6_sumOf_25 rfl rfl ?_
      exact a_iret dX6_sumOf_26 (by exact ⟨rfl, rfl⟩)
    · exact absurd (Int32.le_refl _) c_7
