/-! THE LAW: the calls that only ask -/
def mL_law : aM := (yL_law, cL_law, 7, some .boolean)
theorem a_sldN {l : Launch} {m : aM} {d : Nat} {D : Nat → Bool} {scr : Option aSc} {pc : Nat} {lv : List (Nat × Value)} {st : List Value} {x : aS} {Q : Option Value → aS → Prop} {q : aSc} {i : Int32} {k : Nat} (hd : decode m.2.1 pc = .ok (.iaload, 1)) (hs : scr = some q) (hk : i = nI k) (hlt : k < q.1) (hle : q.1 < 2147483648) (kk : aV l m d D scr (pc + 1) lv (.int (q.2.1 k) :: st) x Q) : aV l m d D scr pc lv (.int i :: .ref 9000 :: st) x Q := by
  subst hk; refine a_sld hd hs (vp_in_nI hlt hle) ?_; rw [nI_clamp (Nat.lt_trans hlt hle)]; exact kk
def lwV (i : Nat) : List (Nat × Value) := [(0, .ref 9000), (1, .ref bLH), (2, .ref bM), (3, .ref 3329), (4, .int (nI i))]
section qBN
variable {l : Launch} {D : Nat → Bool} {scr : Option aSc} {q : aSc} {i : Nat} {x : aS} {Q : Option Value → aS → Prop}
theorem lcmp_r (a : Int64) : lg_cmp a a = 0 := by unfold lg_cmp; simp

set_option maxHeartbeats 4000000 in
set_option maxRecDepth 100000 in
theorem lw_fault (hD : aDC D) (hM : D 12 = true) (hs : scr = some q) (hL : q.1 < 2147483648) (hi : i + 6 ≤ q.1) (J : gJ x) (ih : ∀ z, gJ z → aV l mL_law 13 D scr 1618 (lwV i) [] z Q) : aV l mL_law 13 D scr 318 (lwV i) [] x Q := by
  obtain ⟨T, W, Z, Y, p, k, u, im, f7, f8, t, t2, N, B, C, M, P⟩ := J
  refine a_aload_n (i := 1) dL_law_318 rfl rfl ?_
  refine a_aload_n (i := 0) dL_law_319 rfl rfl ?_
  refine a_iload (i := 4) dL_law_320 rfl ?_
  refine a_iconst (v := 1) dL_law_322 (by decide) ?_
  refine a_iadd dL_law_323 ?_
  refine a_sldN dL_law_324 hs (nI_add _ 1) (by omega) hL ?_
  refine kL_31 rfl dL_law_325 (Nat.le_of_ble_eq_true rfl) (isLH_0 hD) (c_X11_fault hD C.2.1.2.2.1 C.2.1.2.2.2) ?_
  refine a_aload_n (i := 2) dL_law_328 rfl rfl ?_
  refine a_aload_n (i := 0) dL_law_329 rfl rfl ?_
  refine a_iload (i := 4) dL_law_330 rfl ?_
  refine a_iconst (v := 1) dL_law_332 (by decide) ?_
  refine a_iadd dL_law_333 ?_
  refine a_sldN dL_law_334 hs (nI_add _ 1) (by omega) hL ?_
  refine kL_34 rfl dL_law_335 (Nat.le_of_ble_eq_true rfl) (isM_0 hM) (c_X12_fault hM M.2.1.2.2.1 M.2.1.2.2.2) ?_
  refine a_icmp_eq (tg := 1618) dL_law_338 (by decide) (fun c_338 => ?_) (fun c_338 => ?_)
  · exact a_loc _ rfl (ih _ ⟨T, W, Z, Y, p, k, u, im, f7, f8, t, t2, N, B, gC_lo C (lo_F mF_0), gM_F M mF_0, P⟩)
  · exact absurd rfl c_338
set_option maxHeartbeats 4000000 in
set_option maxRecDepth 100000 in
theorem lw_named (hD : aDC D) (hM : D 12 = true) (hs : scr = some q) (hL : q.1 < 2147483648) (hi : i + 6 ≤ q.1) (J : gJ x) (ih : ∀ z, gJ z → aV l mL_law 13 D scr 1618 (lwV i) [] z Q) : aV l mL_law 13 D scr 343 (lwV i) [] x Q := by
  obtain ⟨T, W, Z, Y, p, k, u, im, f7, f8, t, t2, N, B, C, M, P⟩ := J
  refine a_aload_n (i := 1) dL_law_343 rfl rfl ?_
  refine a_aload_n (i := 0) dL_law_344 rfl rfl ?_
  refine a_iload (i := 4) dL_law_345 rfl ?_
  refine a_iconst (v := 1) dL_law_347 (by decide) ?_
  refine a_iadd dL_law_348 ?_
  refine a_sldN dL_law_349 hs (nI_add _ 1) (by omega) hL ?_
  refine a_aload_n (i := 0) dL_law_350 rfl rfl ?_
  refine a_iload (i := 4) dL_law_351 rfl ?_
  refine a_iconst (v := 2) dL_law_353 (by decide) ?_
  refine a_iadd dL_law_354 ?_
  refine a_sldN dL_law_355 hs (nI_add _ 2) (by omega) hL ?_
  refine kL_35 rfl dL_law_356 (Nat.le_of_ble_eq_true rfl) (isLH_0 hD) (c_X11_named hD C.1) ?_
  refine a_aload_n (i := 2) dL_law_359 rfl rfl ?_
  refine a_aload_n (i := 0) dL_law_360 rfl rfl ?_
  refine a_iload (i := 4) dL_law_361 rfl ?_
  refine a_iconst (v := 1) dL_law_363 (by decide) ?_
  refine a_iadd dL_law_364 ?_
  refine a_sldN dL_law_365 hs (nI_add _ 1) (by omega) hL ?_
  refine a_aload_n (i := 0) dL_law_366 rfl rfl ?_
  refine a_iload (i := 4) dL_law_367 rfl ?_
  refine a_iconst (v := 2) dL_law_369 (by decide) ?_
  refine a_iadd dL_law_370 ?_
  refine a_sldN dL_law_371 hs (nI_add _ 2) (by omega) hL ?_
  refine kL_38 rfl dL_law_372 (Nat.le_of_ble_eq_true rfl) (isM_0 hM) (c_X12_named hM M.1.1) ?_
  refine a_icmp_eq (tg := 1618) dL_law_375 (by decide) (fun c_375 => ?_) (fun c_375 => ?_)
  · exact a_loc _ rfl (ih _ ⟨T, W, Z, Y, p, k, u, im, f7, f8, t, t2, N, B, gC_lo C (lo_F mF_0), gM_F M mF_0, P⟩)
  · exact absurd rfl c_375
set_option maxHeartbeats 4000000 in
set_option maxRecDepth 100000 in
theorem lw_last (hD : aDC D) (hM : D 12 = true) (hs : scr = some q) (hL : q.1 < 2147483648) (hi : i + 6 ≤ q.1) (J : gJ x) (ih : ∀ z, gJ z → aV l mL_law 13 D scr 1618 (lwV i) [] z Q) : aV l mL_law 13 D scr 448 (lwV i) [] x Q := by
  obtain ⟨T, W, Z, Y, p, k, u, im, f7, f8, t, t2, N, B, C, M, P⟩ := J
  refine a_aload_n (i := 1) dL_law_448 rfl rfl ?_
  refine a_aload_n (i := 0) dL_law_449 rfl rfl ?_
  refine a_iload (i := 4) dL_law_450 rfl ?_
  refine a_iconst (v := 1) dL_law_452 (by decide) ?_
  refine a_iadd dL_law_453 ?_
  refine a_sldN dL_law_454 hs (nI_add _ 1) (by omega) hL ?_
  refine a_aload_n (i := 0) dL_law_455 rfl rfl ?_
  refine a_iload (i := 4) dL_law_456 rfl ?_
  refine a_iconst (v := 2) dL_law_458 (by decide) ?_
  refine a_iadd dL_law_459 ?_
  refine a_sldN dL_law_460 hs (nI_add _ 2) (by omega) hL ?_
  refine kL_49 rfl dL_law_461 (Nat.le_of_ble_eq_true rfl) (isLH_0 hD) (c_X11_last hD C.1) ?_
  refine a_aload_n (i := 2) dL_law_464 rfl rfl ?_
  refine a_aload_n (i := 0) dL_law_465 rfl rfl ?_
  refine a_iload (i := 4) dL_law_466 rfl ?_
  refine a_iconst (v := 1) dL_law_468 (by decide) ?_
  refine a_iadd dL_law_469 ?_
  refine a_sldN dL_law_470 hs (nI_add _ 1) (by omega) hL ?_
  refine a_aload_n (i := 0) dL_law_471 rfl rfl ?_
  refine a_iload (i := 4) dL_law_472 rfl ?_
  refine a_iconst (v := 2) dL_law_474 (by decide) ?_
  refine a_iadd dL_law_475 ?_
  refine a_sldN dL_law_476 hs (nI_add _ 2) (by omega) hL ?_
  refine kL_52 rfl dL_law_477 (Nat.le_of_ble_eq_true rfl) (isM_0 hM) (c_X12_last hM M.1.1) ?_
  refine a_icmp_eq (tg := 1618) dL_law_480 (by decide) (fun c_480 => ?_) (fun c_480 => ?_)
  · exact a_loc _ rfl (ih _ ⟨T, W, Z, Y, p, k, u, im, f7, f8, t, t2, N, B, gC_lo C (lo_F mF_0), gM_F M mF_0, P⟩)
  · exact absurd rfl c_480
set_option maxHeartbeats 4000000 in
set_option maxRecDepth 100000 in
theorem lw_layer (hD : aDC D) (hM : D 12 = true) (hs : scr = some q) (hL : q.1 < 2147483648) (hi : i + 6 ≤ q.1) (J : gJ x) (ih : ∀ z, gJ z → aV l mL_law 13 D scr 1618 (lwV i) [] z Q) : aV l mL_law 13 D scr 485 (lwV i) [] x Q := by
  obtain ⟨T, W, Z, Y, p, k, u, im, f7, f8, t, t2, N, B, C, M, P⟩ := J
  refine a_aload_n (i := 1) dL_law_485 rfl rfl ?_
  refine a_aload_n (i := 0) dL_law_486 rfl rfl ?_
  refine a_iload (i := 4) dL_law_487 rfl ?_
  refine a_iconst (v := 1) dL_law_489 (by decide) ?_
  refine a_iadd dL_law_490 ?_
  refine a_sldN dL_law_491 hs (nI_add _ 1) (by omega) hL ?_
  refine a_aload_n (i := 0) dL_law_492 rfl rfl ?_
  refine a_iload (i := 4) dL_law_493 rfl ?_
  refine a_iconst (v := 2) dL_law_495 (by decide) ?_
  refine a_iadd dL_law_496 ?_
  refine a_sldN dL_law_497 hs (nI_add _ 2) (by omega) hL ?_
  refine a_aload_n (i := 0) dL_law_498 rfl rfl ?_
  refine a_iload (i := 4) dL_law_499 rfl ?_
  refine a_iconst (v := 3) dL_law_501 (by decide) ?_
  refine a_iadd dL_law_502 ?_
  refine a_sldN dL_law_503 hs (nI_add _ 3) (by omega) hL ?_
  refine kL_53 rfl dL_law_504 (Nat.le_of_ble_eq_true rfl) (isLH_0 hD) (c_X11_layer hD C.1) ?_
  refine a_aload_n (i := 2) dL_law_507 rfl rfl ?_
  refine a_aload_n (i := 0) dL_law_508 rfl rfl ?_
  refine a_iload (i := 4) dL_law_509 rfl ?_
  refine a_iconst (v := 1) dL_law_511 (by decide) ?_
  refine a_iadd dL_law_512 ?_
  refine a_sldN dL_law_513 hs (nI_add _ 1) (by omega) hL ?_
  refine a_aload_n (i := 0) dL_law_514 rfl rfl ?_
  refine a_iload (i := 4) dL_law_515 rfl ?_
  refine a_iconst (v := 2) dL_law_517 (by decide) ?_
  refine a_iadd dL_law_518 ?_
  refine a_sldN dL_law_519 hs (nI_add _ 2) (by omega) hL ?_
  refine a_aload_n (i := 0) dL_law_520 rfl rfl ?_
  refine a_iload (i := 4) dL_law_521 rfl ?_
  refine a_iconst (v := 3) dL_law_523 (by decide) ?_
  refine a_iadd dL_law_524 ?_
  refine a_sldN dL_law_525 hs (nI_add _ 3) (by omega) hL ?_
  refine kL_57 rfl dL_law_526 (Nat.le_of_ble_eq_true rfl) (isM_0 hM) (c_X12_layer hM M.1.1) ?_
  refine a_icmp_eq (tg := 1618) dL_law_529 (by decide) (fun c_529 => ?_) (fun c_529 => ?_)
  · exact a_loc _ rfl (ih _ ⟨T, W, Z, Y, p, k, u, im, f7, f8, t, t2, N, B, gC_lo C (lo_F mF_0), gM_F M mF_0, P⟩)
  · exact absurd rfl c_529
set_option maxHeartbeats 4000000 in
set_option maxRecDepth 100000 in
theorem lw_far (hD : aDC D) (hM : D 12 = true) (hs : scr = some q) (hL : q.1 < 2147483648) (hi : i + 6 ≤ q.1) (J : gJ x) (ih : ∀ z, gJ z → aV l mL_law 13 D scr 1618 (lwV i) [] z Q) : aV l mL_law 13 D scr 534 (lwV i) [] x Q := by
  obtain ⟨T, W, Z, Y, p, k, u, im, f7, f8, t, t2, N, B, C, M, P⟩ := J
  refine a_aload_n (i := 1) dL_law_534 rfl rfl ?_
  refine a_aload_n (i := 0) dL_law_535 rfl rfl ?_
  refine a_iload (i := 4) dL_law_536 rfl ?_
  refine a_iconst (v := 1) dL_law_538 (by decide) ?_
  refine a_iadd dL_law_539 ?_
  refine a_sldN dL_law_540 hs (nI_add _ 1) (by omega) hL ?_
  refine a_aload_n (i := 0) dL_law_541 rfl rfl ?_
  refine a_iload (i := 4) dL_law_542 rfl ?_
  refine a_iconst (v := 2) dL_law_544 (by decide) ?_
  refine a_iadd dL_law_545 ?_
  refine a_sldN dL_law_546 hs (nI_add _ 2) (by omega) hL ?_
  refine kL_58 rfl dL_law_547 (Nat.le_of_ble_eq_true rfl) (isLH_0 hD) (c_X11_far hD C.1) ?_
  refine a_aload_n (i := 2) dL_law_550 rfl rfl ?_
  refine a_aload_n (i := 0) dL_law_551 rfl rfl ?_
  refine a_iload (i := 4) dL_law_552 rfl ?_
  refine a_iconst (v := 1) dL_law_554 (by decide) ?_
  refine a_iadd dL_law_555 ?_
  refine a_sldN dL_law_556 hs (nI_add _ 1) (by omega) hL ?_
  refine a_aload_n (i := 0) dL_law_557 rfl rfl ?_
  refine a_iload (i := 4) dL_law_558 rfl ?_
  refine a_iconst (v := 2) dL_law_560 (by decide) ?_
  refine a_iadd dL_law_561 ?_
  refine a_sldN dL_law_562 hs (nI_add _ 2) (by omega) hL ?_
  refine kL_61 rfl dL_law_563 (Nat.le_of_ble_eq_true rfl) (isM_0 hM) (c_X12_far hM M.1.1) ?_
  refine a_icmp_eq (tg := 1618) dL_law_566 (by decide) (fun c_566 => ?_) (fun c_566 => ?_)
  · exact a_loc _ rfl (ih _ ⟨T, W, Z, Y, p, k, u, im, f7, f8, t, t2, N, B, gC_lo C (lo_F mF_0), gM_F M mF_0, P⟩)
  · exact absurd rfl c_566
set_option maxHeartbeats 4000000 in
set_option maxRecDepth 100000 in
theorem lw_nearest (hD : aDC D) (hM : D 12 = true) (hs : scr = some q) (hL : q.1 < 2147483648) (hi : i + 6 ≤ q.1) (J : gJ x) (ih : ∀ z, gJ z → aV l mL_law 13 D scr 1618 (lwV i) [] z Q) : aV l mL_law 13 D scr 819 (lwV i) [] x Q := by
  obtain ⟨T, W, Z, Y, p, k, u, im, f7, f8, t, t2, N, B, C, M, P⟩ := J
  refine a_aload_n (i := 1) dL_law_819 rfl rfl ?_
  refine a_aload_n (i := 0) dL_law_820 rfl rfl ?_
  refine a_iload (i := 4) dL_law_821 rfl ?_
  refine a_iconst (v := 1) dL_law_823 (by decide) ?_
  refine a_iadd dL_law_824 ?_
  refine a_sldN dL_law_825 hs (nI_add _ 1) (by omega) hL ?_
  refine kL_92 rfl dL_law_826 (Nat.le_of_ble_eq_true rfl) (isLH_0 hD) (c_X11_nearest hD C.1) ?_
  refine a_aload_n (i := 2) dL_law_829 rfl rfl ?_
  refine a_aload_n (i := 0) dL_law_830 rfl rfl ?_
  refine a_iload (i := 4) dL_law_831 rfl ?_
  refine a_iconst (v := 1) dL_law_833 (by decide) ?_
  refine a_iadd dL_law_834 ?_
  refine a_sldN dL_law_835 hs (nI_add _ 1) (by omega) hL ?_
  refine kL_95 rfl dL_law_836 (Nat.le_of_ble_eq_true rfl) (isM_0 hM) (c_X12_nearest hM M.1.1) ?_
  refine a_icmp_eq (tg := 1618) dL_law_839 (by decide) (fun c_839 => ?_) (fun c_839 => ?_)
  · exact a_loc _ rfl (ih _ ⟨T, W, Z, Y, p, k, u, im, f7, f8, t, t2, N, B, gC_lo C (lo_F mF_0), gM_F M mF_0, P⟩)
  · exact absurd rfl c_839
set_option maxHeartbeats 4000000 in
set_option maxRecDepth 100000 in
theorem lw_likeness (hD : aDC D) (hM : D 12 = true) (hs : scr = some q) (hL : q.1 < 2147483648) (hi : i + 6 ≤ q.1) (J : gJ x) (ih : ∀ z, gJ z → aV l mL_law 13 D scr 1618 (lwV i) [] z Q) : aV l mL_law 13 D scr 844 (lwV i) [] x Q := by
  obtain ⟨T, W, Z, Y, p, k, u, im, f7, f8, t, t2, N, B, C, M, P⟩ := J
  refine a_aload_n (i := 1) dL_law_844 rfl rfl ?_
  refine a_aload_n (i := 0) dL_law_845 rfl rfl ?_
  refine a_iload (i := 4) dL_law_846 rfl ?_
  refine a_iconst (v := 1) dL_law_848 (by decide) ?_
  refine a_iadd dL_law_849 ?_
  refine a_sldN dL_law_850 hs (nI_add _ 1) (by omega) hL ?_
  refine a_aload_n (i := 0) dL_law_851 rfl rfl ?_
  refine a_iload (i := 4) dL_law_852 rfl ?_
  refine a_iconst (v := 2) dL_law_854 (by decide) ?_
  refine a_iadd dL_law_855 ?_
  refine a_sldN dL_law_856 hs (nI_add _ 2) (by omega) hL ?_
  refine kL_96 rfl dL_law_857 (Nat.le_of_ble_eq_true rfl) (isLH_0 hD) (c_X11_likeness hD C.1) ?_
  refine a_aload_n (i := 2) dL_law_860 rfl rfl ?_
  refine a_aload_n (i := 0) dL_law_861 rfl rfl ?_
  refine a_iload (i := 4) dL_law_862 rfl ?_
  refine a_iconst (v := 1) dL_law_864 (by decide) ?_
  refine a_iadd dL_law_865 ?_
  refine a_sldN dL_law_866 hs (nI_add _ 1) (by omega) hL ?_
  refine a_aload_n (i := 0) dL_law_867 rfl rfl ?_
  refine a_iload (i := 4) dL_law_868 rfl ?_
  refine a_iconst (v := 2) dL_law_870 (by decide) ?_
  refine a_iadd dL_law_871 ?_
  refine a_sldN dL_law_872 hs (nI_add _ 2) (by omega) hL ?_
  refine kL_99 rfl dL_law_873 (Nat.le_of_ble_eq_true rfl) (isM_0 hM) (c_X12_likeness hM M.1.1) ?_
  refine a_icmp_eq (tg := 1618) dL_law_876 (by decide) (fun c_876 => ?_) (fun c_876 => ?_)
  · exact a_loc _ rfl (ih _ ⟨T, W, Z, Y, p, k, u, im, f7, f8, t, t2, N, B, gC_lo C (lo_F mF_0), gM_F M mF_0, P⟩)
  · exact absurd rfl c_876
set_option maxHeartbeats 4000000 in
set_option maxRecDepth 100000 in
theorem lw_heart (hD : aDC D) (hM : D 12 = true) (hs : scr = some q) (hL : q.1 < 2147483648) (hi : i + 6 ≤ q.1) (J : gJ x) (ih : ∀ z, gJ z → aV l mL_law 13 D scr 1618 (lwV i) [] z Q) : aV l mL_law 13 D scr 881 (lwV i) [] x Q := by
  obtain ⟨T, W, Z, Y, p, k, u, im, f7, f8, t, t2, N, B, C, M, P⟩ := J
  refine a_aload_n (i := 1) dL_law_881 rfl rfl ?_
  refine a_aload_n (i := 0) dL_law_882 rfl rfl ?_
  refine a_iload (i := 4) dL_law_883 rfl ?_
  refine a_iconst (v := 1) dL_law_885 (by decide) ?_
  refine a_iadd dL_law_886 ?_
  refine a_sldN dL_law_887 hs (nI_add _ 1) (by omega) hL ?_
  refine kL_100 rfl dL_law_888 (Nat.le_of_ble_eq_true rfl) (isLH_0 hD) (c_X11_heart hD C.1) ?_
  refine a_aload_n (i := 2) dL_law_891 rfl rfl ?_
  refine a_aload_n (i := 0) dL_law_892 rfl rfl ?_
  refine a_iload (i := 4) dL_law_893 rfl ?_
  refine a_iconst (v := 1) dL_law_895 (by decide) ?_
  refine a_iadd dL_law_896 ?_
  refine a_sldN dL_law_897 hs (nI_add _ 1) (by omega) hL ?_
  refine kL_103 rfl dL_law_898 (Nat.le_of_ble_eq_true rfl) (isM_0 hM) (c_X12_heart hM M.1.1) ?_
  refine a_icmp_eq (tg := 1618) dL_law_901 (by decide) (fun c_901 => ?_) (fun c_901 => ?_)
  · exact a_loc _ rfl (ih _ ⟨T, W, Z, Y, p, k, u, im, f7, f8, t, t2, N, B, gC_lo C (lo_F mF_0), gM_F M mF_0, P⟩)
  · exact absurd rfl c_901
set_option maxHeartbeats 4000000 in
set_option maxRecDepth 100000 in
theorem lw_game (hD : aDC D) (hM : D 12 = true) (hs : scr = some q) (hL : q.1 < 2147483648) (hi : i + 6 ≤ q.1) (J : gJ x) (ih : ∀ z, gJ z → aV l mL_law 13 D scr 1618 (lwV i) [] z Q) : aV l mL_law 13 D scr 981 (lwV i) [] x Q := by
  obtain ⟨T, W, Z, Y, p, k, u, im, f7, f8, t, t2, N, B, C, M, P⟩ := J
  refine a_aload_n (i := 1) dL_law_981 rfl rfl ?_
  refine a_aload_n (i := 0) dL_law_982 rfl rfl ?_
  refine a_iload (i := 4) dL_law_983 rfl ?_
  refine a_iconst (v := 1) dL_law_985 (by decide) ?_
  refine a_iadd dL_law_986 ?_
  refine a_sldN dL_law_987 hs (nI_add _ 1) (by omega) hL ?_
  refine kL_116 rfl dL_law_988 (Nat.le_of_ble_eq_true rfl) (isLH_0 hD) (c_X11_game hD C.1) ?_
  refine a_aload_n (i := 2) dL_law_991 rfl rfl ?_
  refine a_aload_n (i := 0) dL_law_992 rfl rfl ?_
  refine a_iload (i := 4) dL_law_993 rfl ?_
  refine a_iconst (v := 1) dL_law_995 (by decide) ?_
  refine a_iadd dL_law_996 ?_
  refine a_sldN dL_law_997 hs (nI_add _ 1) (by omega) hL ?_
  refine kL_119 rfl dL_law_998 (Nat.le_of_ble_eq_true rfl) (isM_0 hM) (c_X12_game hM M.1.1) ?_
  refine a_icmp_eq (tg := 1618) dL_law_1001 (by decide) (fun c_1001 => ?_) (fun c_1001 => ?_)
  · exact a_loc _ rfl (ih _ ⟨T, W, Z, Y, p, k, u, im, f7, f8, t, t2, N, B, gC_lo C (lo_F mF_0), gM_F M mF_0, P⟩)
  · exact absurd rfl c_1001
set_option maxHeartbeats 4000000 in
set_option maxRecDepth 100000 in
theorem lw_rests (hD : aDC D) (hM : D 12 = true) (hs : scr = some q) (hL : q.1 < 2147483648) (hi : i + 6 ≤ q.1) (J : gJ x) (ih : ∀ z, gJ z → aV l mL_law 13 D scr 1618 (lwV i) [] z Q) : aV l mL_law 13 D scr 1006 (lwV i) [] x Q := by
  obtain ⟨T, W, Z, Y, p, k, u, im, f7, f8, t, t2, N, B, C, M, P⟩ := J
  refine a_aload_n (i := 1) dL_law_1006 rfl rfl ?_
  refine a_aload_n (i := 0) dL_law_1007 rfl rfl ?_
  refine a_iload (i := 4) dL_law_1008 rfl ?_
  refine a_iconst (v := 1) dL_law_1010 (by decide) ?_
  refine a_iadd dL_law_1011 ?_
  refine a_sldN dL_law_1012 hs (nI_add _ 1) (by omega) hL ?_
  refine a_aload_n (i := 0) dL_law_1013 rfl rfl ?_
  refine a_iload (i := 4) dL_law_1014 rfl ?_
  refine a_iconst (v := 2) dL_law_1016 (by decide) ?_
  refine a_iadd dL_law_1017 ?_
  refine a_sldN dL_law_1018 hs (nI_add _ 2) (by omega) hL ?_
  refine kL_120 rfl dL_law_1019 (Nat.le_of_ble_eq_true rfl) (isLH_0 hD) (c_X11_rests hD C.1) ?_
  refine a_aload_n (i := 2) dL_law_1022 rfl rfl ?_
  refine a_aload_n (i := 0) dL_law_1023 rfl rfl ?_
  refine a_iload (i := 4) dL_law_1024 rfl ?_
  refine a_iconst (v := 1) dL_law_1026 (by decide) ?_
  refine a_iadd dL_law_1027 ?_
  refine a_sldN dL_law_1028 hs (nI_add _ 1) (by omega) hL ?_
  refine a_aload_n (i := 0) dL_law_1029 rfl rfl ?_
  refine a_iload (i := 4) dL_law_1030 rfl ?_
  refine a_iconst (v := 2) dL_law_1032 (by decide) ?_
  refine a_iadd dL_law_1033 ?_
  refine a_sldN dL_law_1034 hs (nI_add _ 2) (by omega) hL ?_
  refine kL_123 rfl dL_law_1035 (Nat.le_of_ble_eq_true rfl) (isM_0 hM) (c_X12_rests hM M.1.1) ?_
  refine a_icmp_eq (tg := 1618) dL_law_1038 (by decide) (fun c_1038 => ?_) (fun c_1038 => ?_)
  · exact a_loc _ rfl (ih _ ⟨T, W, Z, Y, p, k, u, im, f7, f8, t, t2, N, B, gC_lo C (lo_F mF_0), gM_F M mF_0, P⟩)
  · exact absurd rfl c_1038
set_option maxHeartbeats 4000000 in
set_option maxRecDepth 100000 in
theorem lw_rest (hD : aDC D) (hM : D 12 = true) (hs : scr = some q) (hL : q.1 < 2147483648) (hi : i + 6 ≤ q.1) (J : gJ x) (ih : ∀ z, gJ z → aV l mL_law 13 D scr 1618 (lwV i) [] z Q) : aV l mL_law 13 D scr 1043 (lwV i) [] x Q := by
  obtain ⟨T, W, Z, Y, p, k, u, im, f7, f8, t, t2, N, B, C, M, P⟩ := J
  refine a_aload_n (i := 1) dL_law_1043 rfl rfl ?_
  refine a_aload_n (i := 0) dL_law_1044 rfl rfl ?_
  refine a_iload (i := 4) dL_law_1045 rfl ?_
  refine a_iconst (v := 1) dL_law_1047 (by decide) ?_
  refine a_iadd dL_law_1048 ?_
  refine a_sldN dL_law_1049 hs (nI_add _ 1) (by omega) hL ?_
  refine a_aload_n (i := 0) dL_law_1050 rfl rfl ?_
  refine a_iload (i := 4) dL_law_1051 rfl ?_
  refine a_iconst (v := 2) dL_law_1053 (by decide) ?_
  refine a_iadd dL_law_1054 ?_
  refine a_sldN dL_law_1055 hs (nI_add _ 2) (by omega) hL ?_
  refine a_aload_n (i := 0) dL_law_1056 rfl rfl ?_
  refine a_iload (i := 4) dL_law_1057 rfl ?_
  refine a_iconst (v := 3) dL_law_1059 (by decide) ?_
  refine a_iadd dL_law_1060 ?_
  refine a_sldN dL_law_1061 hs (nI_add _ 3) (by omega) hL ?_
  refine kL_124 rfl dL_law_1062 (Nat.le_of_ble_eq_true rfl) (isLH_0 hD) (c_X11_rest hD C.1) ?_
  refine a_aload_n (i := 2) dL_law_1065 rfl rfl ?_
  refine a_aload_n (i := 0) dL_law_1066 rfl rfl ?_
  refine a_iload (i := 4) dL_law_1067 rfl ?_
  refine a_iconst (v := 1) dL_law_1069 (by decide) ?_
  refine a_iadd dL_law_1070 ?_
  refine a_sldN dL_law_1071 hs (nI_add _ 1) (by omega) hL ?_
  refine a_aload_n (i := 0) dL_law_1072 rfl rfl ?_
  refine a_iload (i := 4) dL_law_1073 rfl ?_
  refine a_iconst (v := 2) dL_law_1075 (by decide) ?_
  refine a_iadd dL_law_1076 ?_
  refine a_sldN dL_law_1077 hs (nI_add _ 2) (by omega) hL ?_
  refine a_aload_n (i := 0) dL_law_1078 rfl rfl ?_
  refine a_iload (i := 4) dL_law_1079 rfl ?_
  refine a_iconst (v := 3) dL_law_1081 (by decide) ?_
  refine a_iadd dL_law_1082 ?_
  refine a_sldN dL_law_1083 hs (nI_add _ 3) (by omega) hL ?_
  refine kL_127 rfl dL_law_1084 (Nat.le_of_ble_eq_true rfl) (isM_0 hM) (c_X12_rest hM M.1.1) ?_
  refine a_icmp_eq (tg := 1618) dL_law_1087 (by decide) (fun c_1087 => ?_) (fun c_1087 => ?_)
  · exact a_loc _ rfl (ih _ ⟨T, W, Z, Y, p, k, u, im, f7, f8, t, t2, N, B, gC_lo C (lo_F mF_0), gM_F M mF_0, P⟩)
  · exact absurd rfl c_1087
set_option maxHeartbeats 4000000 in
set_option maxRecDepth 100000 in
theorem lw_sum (hD : aDC D) (hM : D 12 = true) (hs : scr = some q) (hL : q.1 < 2147483648) (hi : i + 6 ≤ q.1) (J : gJ x) (ih : ∀ z, gJ z → aV l mL_law 13 D scr 1618 (lwV i) [] z Q) : aV l mL_law 13 D scr 1130 (lwV i) [] x Q := by
  obtain ⟨T, W, Z, Y, p, k, u, im, f7, f8, t, t2, N, B, C, M, P⟩ := J
  refine a_aload_n (i := 1) dL_law_1130 rfl rfl ?_
  refine a_aload_n (i := 0) dL_law_1131 rfl rfl ?_
  refine a_iload (i := 4) dL_law_1132 rfl ?_
  refine a_iconst (v := 1) dL_law_1134 (by decide) ?_
  refine a_iadd dL_law_1135 ?_
  refine a_sldN dL_law_1136 hs (nI_add _ 1) (by omega) hL ?_
  refine kL_132 rfl dL_law_1137 (Nat.le_of_ble_eq_true rfl) (isLH_0 hD) (c_X11_sum hD C.1) ?_
  refine a_aload_n (i := 2) dL_law_1140 rfl rfl ?_
  refine a_aload_n (i := 0) dL_law_1141 rfl rfl ?_
  refine a_iload (i := 4) dL_law_1142 rfl ?_
  refine a_iconst (v := 1) dL_law_1144 (by decide) ?_
  refine a_iadd dL_law_1145 ?_
  refine a_sldN dL_law_1146 hs (nI_add _ 1) (by omega) hL ?_
  refine kL_135 rfl dL_law_1147 (Nat.le_of_ble_eq_true rfl) (isM_0 hM) (c_X12_sum hM M.1.1) ?_
  refine a_icmp_eq (tg := 1618) dL_law_1150 (by decide) (fun c_1150 => ?_) (fun c_1150 => ?_)
  · exact a_loc _ rfl (ih _ ⟨T, W, Z, Y, p, k, u, im, f7, f8, t, t2, N, B, gC_lo C (lo_F mF_0), gM_F M mF_0, P⟩)
  · exact absurd rfl c_1150
set_option maxHeartbeats 4000000 in
set_option maxRecDepth 100000 in
theorem lw_settle (hD : aDC D) (hM : D 12 = true) (hs : scr = some q) (hL : q.1 < 2147483648) (hi : i + 6 ≤ q.1) (J : gJ x) (ih : ∀ z, gJ z → aV l mL_law 13 D scr 1618 (lwV i) [] z Q) : aV l mL_law 13 D scr 1155 (lwV i) [] x Q := by
  obtain ⟨T, W, Z, Y, p, k, u, im, f7, f8, t, t2, N, B, C, M, P⟩ := J
  refine a_aload_n (i := 1) dL_law_1155 rfl rfl ?_
  refine a_aload_n (i := 0) dL_law_1156 rfl rfl ?_
  refine a_iload (i := 4) dL_law_1157 rfl ?_
  refine a_iconst (v := 1) dL_law_1159 (by decide) ?_
  refine a_iadd dL_law_1160 ?_
  refine a_sldN dL_law_1161 hs (nI_add _ 1) (by omega) hL ?_
  refine a_aload_n (i := 0) dL_law_1162 rfl rfl ?_
  refine a_iload (i := 4) dL_law_1163 rfl ?_
  refine a_iconst (v := 2) dL_law_1165 (by decide) ?_
  refine a_iadd dL_law_1166 ?_
  refine a_sldN dL_law_1167 hs (nI_add _ 2) (by omega) hL ?_
  refine a_aload_n (i := 0) dL_law_1168 rfl rfl ?_
  refine a_iload (i := 4) dL_law_1169 rfl ?_
  refine a_iconst (v := 3) dL_law_1171 (by decide) ?_
  refine a_iadd dL_law_1172 ?_
  refine a_sldN dL_law_1173 hs (nI_add _ 3) (by omega) hL ?_
  refine kL_136 rfl dL_law_1174 (Nat.le_of_ble_eq_true rfl) (isLH_0 hD) (c_X11_settle hD C.1) ?_
  refine a_aload_n (i := 2) dL_law_1177 rfl rfl ?_
  refine a_aload_n (i := 0) dL_law_1178 rfl rfl ?_
  refine a_iload (i := 4) dL_law_1179 rfl ?_
  refine a_iconst (v := 1) dL_law_1181 (by decide) ?_
  refine a_iadd dL_law_1182 ?_
  refine a_sldN dL_law_1183 hs (nI_add _ 1) (by omega) hL ?_
  refine a_aload_n (i := 0) dL_law_1184 rfl rfl ?_
  refine a_iload (i := 4) dL_law_1185 rfl ?_
  refine a_iconst (v := 2) dL_law_1187 (by decide) ?_
  refine a_iadd dL_law_1188 ?_
  refine a_sldN dL_law_1189 hs (nI_add _ 2) (by omega) hL ?_
  refine a_aload_n (i := 0) dL_law_1190 rfl rfl ?_
  refine a_iload (i := 4) dL_law_1191 rfl ?_
  refine a_iconst (v := 3) dL_law_1193 (by decide) ?_
  refine a_iadd dL_law_1194 ?_
  refine a_sldN dL_law_1195 hs (nI_add _ 3) (by omega) hL ?_
  refine kL_139 rfl dL_law_1196 (Nat.le_of_ble_eq_true rfl) (isM_0 hM) (c_X12_settle hM M.1.1) ?_
  refine a_icmp_eq (tg := 1618) dL_law_1199 (by decide) (fun c_1199 => ?_) (fun c_1199 => ?_)
  · exact a_loc _ rfl (ih _ ⟨T, W, Z, Y, p, k, u, im, f7, f8, t, t2, N, B, gC_lo C (lo_F mF_0), gM_F M mF_0, P⟩)
  · exact absurd rfl c_1199
set_option maxHeartbeats 4000000 in
set_option maxRecDepth 100000 in
theorem lw_knee (hD : aDC D) (hM : D 12 = true) (hs : scr = some q) (hL : q.1 < 2147483648) (hi : i + 6 ≤ q.1) (J : gJ x) (ih : ∀ z, gJ z → aV l mL_law 13 D scr 1618 (lwV i) [] z Q) : aV l mL_law 13 D scr 1204 (lwV i) [] x Q := by
  obtain ⟨T, W, Z, Y, p, k, u, im, f7, f8, t, t2, N, B, C, M, P⟩ := J
  refine a_aload_n (i := 1) dL_law_1204 rfl rfl ?_
  refine kL_140 rfl dL_law_1205 (Nat.le_of_ble_eq_true rfl) (isLH_0 hD) (c_X11_knee hD C.1) ?_
  refine a_aload_n (i := 2) dL_law_1208 rfl rfl ?_
  refine kL_143 rfl dL_law_1209 (Nat.le_of_ble_eq_true rfl) (isM_0 hM) (c_X12_knee hM M.1.1) ?_
  refine a_icmp_eq (tg := 1618) dL_law_1212 (by decide) (fun c_1212 => ?_) (fun c_1212 => ?_)
  · exact a_loc _ rfl (ih _ ⟨T, W, Z, Y, p, k, u, im, f7, f8, t, t2, N, B, gC_lo C (lo_F mF_0), gM_F M mF_0, P⟩)
  · exact absurd rfl c_1212
set_option maxHeartbeats 4000000 in
set_option maxRecDepth 100000 in
theorem lw_walkers (hD : aDC D) (hM : D 12 = true) (hs : scr = some q) (hL : q.1 < 2147483648) (hi : i + 6 ≤ q.1) (J : gJ x) (ih : ∀ z, gJ z → aV l mL_law 13 D scr 1618 (lwV i) [] z Q) : aV l mL_law 13 D scr 1217 (lwV i) [] x Q := by
  obtain ⟨T, W, Z, Y, p, k, u, im, f7, f8, t, t2, N, B, C, M, P⟩ := J
  refine a_aload_n (i := 1) dL_law_1217 rfl rfl ?_
  refine kL_144 rfl dL_law_1218 (Nat.le_of_ble_eq_true rfl) (isLH_0 hD) (c_X11_walkers hD C.1) ?_
  refine a_aload_n (i := 2) dL_law_1221 rfl rfl ?_
  refine kL_147 rfl dL_law_1222 (Nat.le_of_ble_eq_true rfl) (isM_0 hM) (c_X12_walkers hM M.1.1) ?_
  refine a_icmp_eq (tg := 1618) dL_law_1225 (by decide) (fun c_1225 => ?_) (fun c_1225 => ?_)
  · exact a_loc _ rfl (ih _ ⟨T, W, Z, Y, p, k, u, im, f7, f8, t, t2, N, B, gC_lo C (lo_F mF_0), gM_F M mF_0, P⟩)
  · exact absurd rfl c_1225
set_option maxHeartbeats 4000000 in
set_option maxRecDepth 100000 in
theorem lw_barest (hD : aDC D) (hM : D 12 = true) (hs : scr = some q) (hL : q.1 < 2147483648) (hi : i + 6 ≤ q.1) (J : gJ x) (ih : ∀ z, gJ z → aV l mL_law 13 D scr 1618 (lwV i) [] z Q) : aV l mL_law 13 D scr 1230 (lwV i) [] x Q := by
  obtain ⟨T, W, Z, Y, p, k, u, im, f7, f8, t, t2, N, B, C, M, P⟩ := J
  refine a_aload_n (i := 1) dL_law_1230 rfl rfl ?_
  refine kL_148 rfl dL_law_1231 (Nat.le_of_ble_eq_true rfl) (isLH_0 hD) (c_X11_barest hD C.1) ?_
  refine a_aload_n (i := 2) dL_law_1234 rfl rfl ?_
  refine kL_151 rfl dL_law_1235 (Nat.le_of_ble_eq_true rfl) (isM_0 hM) (c_X12_barest hM M.1.1) ?_
  refine a_icmp_eq (tg := 1618) dL_law_1238 (by decide) (fun c_1238 => ?_) (fun c_1238 => ?_)
  · exact a_loc _ rfl (ih _ ⟨T, W, Z, Y, p, k, u, im, f7, f8, t, t2, N, B, gC_lo C (lo_F mF_0), gM_F M mF_0, P⟩)
  · exact absurd rfl c_1238
set_option maxHeartbeats 4000000 in
set_option maxRecDepth 100000 in
theorem lw_dry (hD : aDC D) (hM : D 12 = true) (hs : scr = some q) (hL : q.1 < 2147483648) (hi : i + 6 ≤ q.1) (J : gJ x) (ih : ∀ z, gJ z → aV l mL_law 13 D scr 1618 (lwV i) [] z Q) : aV l mL_law 13 D scr 1092 (lwV i) [] x Q := by
  obtain ⟨T, W, Z, Y, p, k, u, im, f7, f8, t, t2, N, B, C, M, P⟩ := J
  refine a_aload_n (i := 1) dL_law_1092 rfl rfl ?_
  refine a_aload_n (i := 0) dL_law_1093 rfl rfl ?_
  refine a_iload (i := 4) dL_law_1094 rfl ?_
  refine a_iconst (v := 1) dL_law_1096 (by decide) ?_
  refine a_iadd dL_law_1097 ?_
  refine a_sldN dL_law_1098 hs (nI_add _ 1) (by omega) hL ?_
  refine a_aload_n (i := 0) dL_law_1099 rfl rfl ?_
  refine a_iload (i := 4) dL_law_1100 rfl ?_
  refine a_iconst (v := 2) dL_law_1102 (by decide) ?_
  refine a_iadd dL_law_1103 ?_
  refine a_sldN dL_law_1104 hs (nI_add _ 2) (by omega) hL ?_
  refine kL_128 rfl dL_law_1105 (Nat.le_of_ble_eq_true rfl) (isLH_0 hD) (c_X11_dry hD C.1) ?_
  refine a_aload_n (i := 2) dL_law_1108 rfl rfl ?_
  refine a_aload_n (i := 0) dL_law_1109 rfl rfl ?_
  refine a_iload (i := 4) dL_law_1110 rfl ?_
  refine a_iconst (v := 1) dL_law_1112 (by decide) ?_
  refine a_iadd dL_law_1113 ?_
  refine a_sldN dL_law_1114 hs (nI_add _ 1) (by omega) hL ?_
  refine a_aload_n (i := 0) dL_law_1115 rfl rfl ?_
  refine a_iload (i := 4) dL_law_1116 rfl ?_
  refine a_iconst (v := 2) dL_law_1118 (by decide) ?_
  refine a_iadd dL_law_1119 ?_
  refine a_sldN dL_law_1120 hs (nI_add _ 2) (by omega) hL ?_
  refine kL_131 rfl dL_law_1121 (Nat.le_of_ble_eq_true rfl) (isM_0 hM) (c_X12_dry hM M.1.1) ?_
  refine a_lcmp dL_law_1124 ?_
  rw [lcmp_r]
  refine a_if_eq (tg := 1618) dL_law_1125 (by decide) (fun c_1125 => ?_) (fun c_1125 => ?_)
  · exact a_loc _ rfl (ih _ ⟨T, W, Z, Y, p, k, u, im, f7, f8, t, t2, N, B, gC_lo C (lo_F mF_0), gM_F M mF_0, P⟩)
  · exact absurd rfl c_1125
set_option maxHeartbeats 4000000 in
set_option maxRecDepth 100000 in
theorem lw_law (hD : aDC D) (hM : D 12 = true) (hs : scr = some q) (hL : q.1 < 2147483648) (hi : i + 6 ≤ q.1) (J : gJ x) (ih : ∀ z, gJ z → aV l mL_law 13 D scr 1618 (lwV i) [] z Q) : aV l mL_law 13 D scr 571 (lwV i) [] x Q := by
  obtain ⟨T, W, Z, Y, p, k, u, im, f7, f8, t, t2, N, B, C, M, P⟩ := J
  refine a_aload_n (i := 1) dL_law_571 rfl rfl ?_
  refine a_aload_n (i := 0) dL_law_572 rfl rfl ?_
  refine a_iload (i := 4) dL_law_573 rfl ?_
  refine a_iconst (v := 1) dL_law_575 (by decide) ?_
  refine a_iadd dL_law_576 ?_
  refine a_sldN dL_law_577 hs (nI_add _ 1) (by omega) hL ?_
  refine a_aload_n (i := 0) dL_law_578 rfl rfl ?_
  refine a_iload (i := 4) dL_law_579 rfl ?_
  refine a_iconst (v := 2) dL_law_581 (by decide) ?_
  refine a_iadd dL_law_582 ?_
  refine a_sldN dL_law_583 hs (nI_add _ 2) (by omega) hL ?_
  refine kgL_62 rfl dL_law_584 (Nat.le_of_ble_eq_true rfl) (isLH_0 hD) (c_X11_law hD C.1) ?_
  rintro v y ⟨rfl, F1⟩
  have C1 := gC_F C F1
  have M1 := gM_hi M (hi_F F1)
  refine a_aload_n (i := 2) dL_law_587 rfl rfl ?_
  refine a_aload_n (i := 0) dL_law_588 rfl rfl ?_
  refine a_iload (i := 4) dL_law_589 rfl ?_
  refine a_iconst (v := 1) dL_law_591 (by decide) ?_
  refine a_iadd dL_law_592 ?_
  refine a_sldN dL_law_593 hs (nI_add _ 1) (by omega) hL ?_
  refine a_aload_n (i := 0) dL_law_594 rfl rfl ?_
  refine a_iload (i := 4) dL_law_595 rfl ?_
  refine a_iconst (v := 2) dL_law_597 (by decide) ?_
  refine a_iadd dL_law_598 ?_
  refine a_sldN dL_law_599 hs (nI_add _ 2) (by omega) hL ?_
  refine kgL_66 rfl dL_law_600 (Nat.le_of_ble_eq_true rfl) (isM_0 hM) (c_X12_law hM M1.1.1) ?_
  rintro v z ⟨rfl, F2⟩
  refine a_lcmp dL_law_603 ?_
  rw [lcmp_r]
  refine a_if_eq (tg := 1618) dL_law_604 (by decide) (fun c_604 => ?_) (fun c_604 => ?_)
  · exact a_loc _ rfl (ih _ ⟨T, W, Z, Y, p, k, u, im, f7, f8, t, t2, N, B, gC_lo C1 (lo_F F2), gM_F M1 F2, P⟩)
  · exact absurd rfl c_604
set_option maxHeartbeats 4000000 in
set_option maxRecDepth 100000 in
theorem lw_ahead (hD : aDC D) (hM : D 12 = true) (hs : scr = some q) (hL : q.1 < 2147483648) (hi : i + 6 ≤ q.1) (J : gJ x) (ih : ∀ z, gJ z → aV l mL_law 13 D scr 1618 (lwV i) [] z Q) : aV l mL_law 13 D scr 745 (lwV i) [] x Q := by
  obtain ⟨T, W, Z, Y, p, k, u, im, f7, f8, t, t2, N, B, C, M, P⟩ := J
  refine a_aload_n (i := 1) dL_law_745 rfl rfl ?_
  refine a_aload_n (i := 0) dL_law_746 rfl rfl ?_
  refine a_iload (i := 4) dL_law_747 rfl ?_
  refine a_iconst (v := 1) dL_law_749 (by decide) ?_
  refine a_iadd dL_law_750 ?_
  refine a_sldN dL_law_751 hs (nI_add _ 1) (by omega) hL ?_
  refine a_aload_n (i := 0) dL_law_752 rfl rfl ?_
  refine a_iload (i := 4) dL_law_753 rfl ?_
  refine a_iconst (v := 2) dL_law_755 (by decide) ?_
  refine a_iadd dL_law_756 ?_
  refine a_sldN dL_law_757 hs (nI_add _ 2) (by omega) hL ?_
  refine a_aload_n (i := 0) dL_law_758 rfl rfl ?_
  refine a_iload (i := 4) dL_law_759 rfl ?_
  refine a_iconst (v := 3) dL_law_761 (by decide) ?_
  refine a_iadd dL_law_762 ?_
  refine a_sldN dL_law_763 hs (nI_add _ 3) (by omega) hL ?_
  refine kgL_84 rfl dL_law_764 (Nat.le_of_ble_eq_true rfl) (isLH_0 hD) (c_X11_ahead hD C.1 M.1.2.1) ?_
  rintro v y ⟨rfl, F1⟩
  have C1 := gC_F C F1
  have M1 := gM_hi M (hi_F F1)
  refine a_aload_n (i := 2) dL_law_767 rfl rfl ?_
  refine a_aload_n (i := 0) dL_law_768 rfl rfl ?_
  refine a_iload (i := 4) dL_law_769 rfl ?_
  refine a_iconst (v := 1) dL_law_771 (by decide) ?_
  refine a_iadd dL_law_772 ?_
  refine a_sldN dL_law_773 hs (nI_add _ 1) (by omega) hL ?_
  refine a_aload_n (i := 0) dL_law_774 rfl rfl ?_
  refine a_iload (i := 4) dL_law_775 rfl ?_
  refine a_iconst (v := 2) dL_law_777 (by decide) ?_
  refine a_iadd dL_law_778 ?_
  refine a_sldN dL_law_779 hs (nI_add _ 2) (by omega) hL ?_
  refine a_aload_n (i := 0) dL_law_780 rfl rfl ?_
  refine a_iload (i := 4) dL_law_781 rfl ?_
  refine a_iconst (v := 3) dL_law_783 (by decide) ?_
  refine a_iadd dL_law_784 ?_
  refine a_sldN dL_law_785 hs (nI_add _ 3) (by omega) hL ?_
  refine kgL_87 rfl dL_law_786 (Nat.le_of_ble_eq_true rfl) (isM_0 hM) (c_X12_ahead hM M1.1) ?_
  rintro v z ⟨rfl, F2⟩
  refine a_icmp_eq (tg := 1618) dL_law_789 (by decide) (fun c_789 => ?_) (fun c_789 => ?_)
  · exact a_loc _ rfl (ih _ ⟨T, W, Z, Y, p, k, u, im, f7, f8, t, t2, N, B, gC_lo C1 (lo_F F2), gM_F M1 F2, P⟩)
  · exact absurd rfl c_789
set_option maxHeartbeats 4000000 in
set_option maxRecDepth 100000 in
theorem lw_firstCorn (hD : aDC D) (hM : D 12 = true) (hs : scr = some q) (hL : q.1 < 2147483648) (hi : i + 6 ≤ q.1) (J : gJ x) (ih : ∀ z, gJ z → aV l mL_law 13 D scr 1618 (lwV i) [] z Q) : aV l mL_law 13 D scr 794 (lwV i) [] x Q := by
  obtain ⟨T, W, Z, Y, p, k, u, im, f7, f8, t, t2, N, B, C, M, P⟩ := J
  refine a_aload_n (i := 1) dL_law_794 rfl rfl ?_
  refine a_aload_n (i := 0) dL_law_795 rfl rfl ?_
  refine a_iload (i := 4) dL_law_796 rfl ?_
  refine a_iconst (v := 1) dL_law_798 (by decide) ?_
  refine a_iadd dL_law_799 ?_
  refine a_sldN dL_law_800 hs (nI_add _ 1) (by omega) hL ?_
  refine kgL_88 rfl dL_law_801 (Nat.le_of_ble_eq_true rfl) (isLH_0 hD) (c_X11_firstCorn hD C.1) ?_
  rintro v y ⟨rfl, F1⟩
  have C1 := gC_F C F1
  have M1 := gM_hi M (hi_F F1)
  refine a_aload_n (i := 2) dL_law_804 rfl rfl ?_
  refine a_aload_n (i := 0) dL_law_805 rfl rfl ?_
  refine a_iload (i := 4) dL_law_806 rfl ?_
  refine a_iconst (v := 1) dL_law_808 (by decide) ?_
  refine a_iadd dL_law_809 ?_
  refine a_sldN dL_law_810 hs (nI_add _ 1) (by omega) hL ?_
  refine kgL_91 rfl dL_law_811 (Nat.le_of_ble_eq_true rfl) (isM_0 hM) (c_X12_firstCorn hM M1.1) ?_
  rintro v z ⟨rfl, F2⟩
  refine a_icmp_eq (tg := 1618) dL_law_814 (by decide) (fun c_814 => ?_) (fun c_814 => ?_)
  · exact a_loc _ rfl (ih _ ⟨T, W, Z, Y, p, k, u, im, f7, f8, t, t2, N, B, gC_lo C1 (lo_F F2), gM_F M1 F2, P⟩)
  · exact absurd rfl c_814
set_option maxHeartbeats 4000000 in
set_option maxRecDepth 100000 in
theorem lw_chance (hD : aDC D) (hM : D 12 = true) (hs : scr = some q) (hL : q.1 < 2147483648) (hi : i + 6 ≤ q.1) (J : gJ x) (ih : ∀ z, gJ z → aV l mL_law 13 D scr 1618 (lwV i) [] z Q) : aV l mL_law 13 D scr 1444 (lwV i) [] x Q := by
  obtain ⟨T, W, Z, Y, p, k, u, im, f7, f8, t, t2, N, B, C, M, P⟩ := J
  refine a_aload_n (i := 1) dL_law_1444 rfl rfl ?_
  refine a_aload_n (i := 0) dL_law_1445 rfl rfl ?_
  refine a_iload (i := 4) dL_law_1446 rfl ?_
  refine a_iconst (v := 1) dL_law_1448 (by decide) ?_
  refine a_iadd dL_law_1449 ?_
  refine a_sldN dL_law_1450 hs (nI_add _ 1) (by omega) hL ?_
  refine a_aload_n (i := 0) dL_law_1451 rfl rfl ?_
  refine a_iload (i := 4) dL_law_1452 rfl ?_
  refine a_iconst (v := 2) dL_law_1454 (by decide) ?_
  refine a_iadd dL_law_1455 ?_
  refine a_sldN dL_law_1456 hs (nI_add _ 2) (by omega) hL ?_
  refine a_aload_n (i := 0) dL_law_1457 rfl rfl ?_
  refine a_iload (i := 4) dL_law_1458 rfl ?_
  refine a_iconst (v := 3) dL_law_1460 (by decide) ?_
  refine a_iadd dL_law_1461 ?_
  refine a_sldN dL_law_1462 hs (nI_add _ 3) (by omega) hL ?_
  refine a_aload_n (i := 0) dL_law_1463 rfl rfl ?_
  refine a_iload (i := 4) dL_law_1464 rfl ?_
  refine a_iconst (v := 4) dL_law_1466 (by decide) ?_
  refine a_iadd dL_law_1467 ?_
  refine a_sldN dL_law_1468 hs (nI_add _ 4) (by omega) hL ?_
  refine kgL_174 rfl dL_law_1469 (Nat.le_of_ble_eq_true rfl) (isLH_0 hD) (c_X11_chance hD C.1) ?_
  rintro v y ⟨rfl, F1⟩
  have C1 := gC_F C F1
  have M1 := gM_hi M (hi_F F1)
  refine a_aload_n (i := 2) dL_law_1472 rfl rfl ?_
  refine a_aload_n (i := 0) dL_law_1473 rfl rfl ?_
  refine a_iload (i := 4) dL_law_1474 rfl ?_
  refine a_iconst (v := 1) dL_law_1476 (by decide) ?_
  refine a_iadd dL_law_1477 ?_
  refine a_sldN dL_law_1478 hs (nI_add _ 1) (by omega) hL ?_
  refine a_aload_n (i := 0) dL_law_1479 rfl rfl ?_
  refine a_iload (i := 4) dL_law_1480 rfl ?_
  refine a_iconst (v := 2) dL_law_1482 (by decide) ?_
  refine a_iadd dL_law_1483 ?_
  refine a_sldN dL_law_1484 hs (nI_add _ 2) (by omega) hL ?_
  refine a_aload_n (i := 0) dL_law_1485 rfl rfl ?_
  refine a_iload (i := 4) dL_law_1486 rfl ?_
  refine a_iconst (v := 3) dL_law_1488 (by decide) ?_
  refine a_iadd dL_law_1489 ?_
  refine a_sldN dL_law_1490 hs (nI_add _ 3) (by omega) hL ?_
  refine a_aload_n (i := 0) dL_law_1491 rfl rfl ?_
  refine a_iload (i := 4) dL_law_1492 rfl ?_
  refine a_iconst (v := 4) dL_law_1494 (by decide) ?_
  refine a_iadd dL_law_1495 ?_
  refine a_sldN dL_law_1496 hs (nI_add _ 4) (by omega) hL ?_
  refine kgL_178 rfl dL_law_1497 (Nat.le_of_ble_eq_true rfl) (isM_0 hM) (c_X12_chance hM M1.1) ?_
  rintro v z ⟨rfl, F2⟩
  refine a_icmp_eq (tg := 1618) dL_law_1500 (by decide) (fun c_1500 => ?_) (fun c_1500 => ?_)
  · exact a_loc _ rfl (ih _ ⟨T, W, Z, Y, p, k, u, im, f7, f8, t, t2, N, B, gC_lo C1 (lo_F F2), gM_F M1 F2, P⟩)
  · exact absurd rfl c_1500
set_option maxHeartbeats 4000000 in
set_option maxRecDepth 100000 in
theorem lw_tried (hD : aDC D) (hM : D 12 = true) (hs : scr = some q) (hL : q.1 < 2147483648) (hi : i + 6 ≤ q.1) (J : gJ x) (ih : ∀ z, gJ z → aV l mL_law 13 D scr 1618 (lwV i) [] z Q) : aV l mL_law 13 D scr 1505 (lwV i) [] x Q := by
  obtain ⟨T, W, Z, Y, p, k, u, im, f7, f8, t, t2, N, B, C, M, P⟩ := J
  refine a_aload_n (i := 1) dL_law_1505 rfl rfl ?_
  refine a_aload_n (i := 0) dL_law_1506 rfl rfl ?_
  refine a_iload (i := 4) dL_law_1507 rfl ?_
  refine a_iconst (v := 1) dL_law_1509 (by decide) ?_
  refine a_iadd dL_law_1510 ?_
  refine a_sldN dL_law_1511 hs (nI_add _ 1) (by omega) hL ?_
  refine a_aload_n (i := 0) dL_law_1512 rfl rfl ?_
  refine a_iload (i := 4) dL_law_1513 rfl ?_
  refine a_iconst (v := 2) dL_law_1515 (by decide) ?_
  refine a_iadd dL_law_1516 ?_
  refine a_sldN dL_law_1517 hs (nI_add _ 2) (by omega) hL ?_
  refine a_aload_n (i := 0) dL_law_1518 rfl rfl ?_
  refine a_iload (i := 4) dL_law_1519 rfl ?_
  refine a_iconst (v := 3) dL_law_1521 (by decide) ?_
  refine a_iadd dL_law_1522 ?_
  refine a_sldN dL_law_1523 hs (nI_add _ 3) (by omega) hL ?_
  refine kgL_179 rfl dL_law_1524 (Nat.le_of_ble_eq_true rfl) (isLH_0 hD) (c_X11_tried hD C.1) ?_
  rintro v y ⟨rfl, F1⟩
  have C1 := gC_F C F1
  have M1 := gM_hi M (hi_F F1)
  refine a_aload_n (i := 2) dL_law_1527 rfl rfl ?_
  refine a_aload_n (i := 0) dL_law_1528 rfl rfl ?_
  refine a_iload (i := 4) dL_law_1529 rfl ?_
  refine a_iconst (v := 1) dL_law_1531 (by decide) ?_
  refine a_iadd dL_law_1532 ?_
  refine a_sldN dL_law_1533 hs (nI_add _ 1) (by omega) hL ?_
  refine a_aload_n (i := 0) dL_law_1534 rfl rfl ?_
  refine a_iload (i := 4) dL_law_1535 rfl ?_
  refine a_iconst (v := 2) dL_law_1537 (by decide) ?_
  refine a_iadd dL_law_1538 ?_
  refine a_sldN dL_law_1539 hs (nI_add _ 2) (by omega) hL ?_
  refine a_aload_n (i := 0) dL_law_1540 rfl rfl ?_
  refine a_iload (i := 4) dL_law_1541 rfl ?_
  refine a_iconst (v := 3) dL_law_1543 (by decide) ?_
  refine a_iadd dL_law_1544 ?_
  refine a_sldN dL_law_1545 hs (nI_add _ 3) (by omega) hL ?_
  refine kgL_182 rfl dL_law_1546 (Nat.le_of_ble_eq_true rfl) (isM_0 hM) (c_X12_tried hM M1.1) ?_
  rintro v z ⟨rfl, F2⟩
  refine a_icmp_eq (tg := 1618) dL_law_1549 (by decide) (fun c_1549 => ?_) (fun c_1549 => ?_)
  · exact a_loc _ rfl (ih _ ⟨T, W, Z, Y, p, k, u, im, f7, f8, t, t2, N, B, gC_lo C1 (lo_F F2), gM_F M1 F2, P⟩)
  · exact absurd rfl c_1549
set_option maxHeartbeats 4000000 in
set_option maxRecDepth 100000 in
theorem lw_ease (hD : aDC D) (hM : D 12 = true) (hs : scr = some q) (hL : q.1 < 2147483648) (hi : i + 6 ≤ q.1) (J : gJ x) (ih : ∀ z, gJ z → aV l mL_law 13 D scr 1618 (lwV i) [] z Q) : aV l mL_law 13 D scr 906 (lwV i) [] x Q := by
  obtain ⟨T, W, Z, Y, p, k, u, im, f7, f8, t, t2, N, B, C, M, P⟩ := J
  refine a_aload_n (i := 1) dL_law_906 rfl rfl ?_
  refine a_aload_n (i := 0) dL_law_907 rfl rfl ?_
  refine a_iload (i := 4) dL_law_908 rfl ?_
  refine a_iconst (v := 1) dL_law_910 (by decide) ?_
  refine a_iadd dL_law_911 ?_
  refine a_sldN dL_law_912 hs (nI_add _ 1) (by omega) hL ?_
  refine a_aload_n (i := 0) dL_law_913 rfl rfl ?_
  refine a_iload (i := 4) dL_law_914 rfl ?_
  refine a_iconst (v := 2) dL_law_916 (by decide) ?_
  refine a_iadd dL_law_917 ?_
  refine a_sldN dL_law_918 hs (nI_add _ 2) (by omega) hL ?_
  refine kgL_104 rfl dL_law_919 (Nat.le_of_ble_eq_true rfl) (isLH_0 hD) (c_X11_ease hD C.1) ?_
  rintro v y ⟨rfl, F1⟩
  have C1 := gC_F C F1
  have M1 := gM_hi M (hi_F F1)
  refine a_aload_n (i := 2) dL_law_922 rfl rfl ?_
  refine a_aload_n (i := 0) dL_law_923 rfl rfl ?_
  refine a_iload (i := 4) dL_law_924 rfl ?_
  refine a_iconst (v := 1) dL_law_926 (by decide) ?_
  refine a_iadd dL_law_927 ?_
  refine a_sldN dL_law_928 hs (nI_add _ 1) (by omega) hL ?_
  refine a_aload_n (i := 0) dL_law_929 rfl rfl ?_
  refine a_iload (i := 4) dL_law_930 rfl ?_
  refine a_iconst (v := 2) dL_law_932 (by decide) ?_
  refine a_iadd dL_law_933 ?_
  refine a_sldN dL_law_934 hs (nI_add _ 2) (by omega) hL ?_
  refine kL_107 rfl dL_law_935 (Nat.le_of_ble_eq_true rfl) (isM_0 hM) (c_X12_ease hM M1.1.1) ?_
  refine a_icmp_eq (tg := 1618) dL_law_938 (by decide) (fun c_938 => ?_) (fun c_938 => ?_)
  · exact a_loc _ rfl (ih _ ⟨T, W, Z, Y, p, k, u, im, f7, f8, t, t2, N, B, gC_lo C1 (lo_F mF_0), gM_F M1 mF_0, P⟩)
  · exact absurd rfl c_938
set_option maxHeartbeats 4000000 in
set_option maxRecDepth 100000 in
theorem lw_match (hD : aDC D) (hM : D 12 = true) (hs : scr = some q) (hL : q.1 < 2147483648) (hi : i + 6 ≤ q.1) (J : gJ x) (ih : ∀ z, gJ z → aV l mL_law 13 D scr 1618 (lwV i) [] z Q) : aV l mL_law 13 D scr 943 (lwV i) [] x Q := by
  obtain ⟨T, W, Z, Y, p, k, u, im, f7, f8, t, t2, N, B, C, M, P⟩ := J
  have ok := mOk_of P.2.2.1 C.1.2.2.2.1 P.1
  refine a_aload_n (i := 1) dL_law_943 rfl rfl ?_
  refine a_aload_n (i := 0) dL_law_944 rfl rfl ?_
  refine a_iload (i := 4) dL_law_945 rfl ?_
  refine a_iconst (v := 1) dL_law_947 (by decide) ?_
  refine a_iadd dL_law_948 ?_
  refine a_sldN dL_law_949 hs (nI_add _ 1) (by omega) hL ?_
  refine kgL_108 rfl dL_law_950 (Nat.le_of_ble_eq_true rfl) (isLH_0 hD) (c_X11_match hD C.1 ok) ?_
  rintro v y ⟨rfl, F1⟩
  have C1 := gC_F C F1
  have M1 := gM_hi M (hi_F F1)
  refine a_aload_n (i := 2) dL_law_953 rfl rfl ?_
  refine a_aload_n (i := 0) dL_law_954 rfl rfl ?_
  refine a_iload (i := 4) dL_law_955 rfl ?_
  refine a_iconst (v := 1) dL_law_957 (by decide) ?_
  refine a_iadd dL_law_958 ?_
  refine a_sldN dL_law_959 hs (nI_add _ 1) (by omega) hL ?_
  refine kgL_111 rfl dL_law_960 (Nat.le_of_ble_eq_true rfl) (isM_0 hM) (c_X12_match hM M1.1.1 ok) ?_
  rintro v z ⟨rfl, F2⟩
  refine a_icmp_eq (tg := 1618) dL_law_963 (by decide) (fun c_963 => ?_) (fun c_963 => ?_)
  · exact a_loc _ rfl (ih _ ⟨T, W, Z, Y, p, k, u, im, f7, f8, t, t2, N, B, gC_lo C1 (lo_F F2), gM_F M1 F2, P⟩)
  · exact absurd rfl c_963
set_option maxHeartbeats 4000000 in
set_option maxRecDepth 100000 in
theorem lw_bumps (hD : aDC D) (hM : D 12 = true) (hs : scr = some q) (hL : q.1 < 2147483648) (hi : i + 6 ≤ q.1) (J : gJ x) (ih : ∀ z, gJ z → aV l mL_law 13 D scr 1618 (lwV i) [] z Q) : aV l mL_law 13 D scr 1370 (lwV i) [] x Q := by
  obtain ⟨T, W, Z, Y, p, k, u, im, f7, f8, t, t2, N, B, C, M, P⟩ := J
  obtain ⟨K, hK, hKp, hk1⟩ := kn_K P.2.2.2.2.1 P.2.2.2.1.1
  refine a_aload_n (i := 1) dL_law_1370 rfl rfl ?_
  refine a_aload_n (i := 0) dL_law_1371 rfl rfl ?_
  refine a_iload (i := 4) dL_law_1372 rfl ?_
  refine a_iconst (v := 1) dL_law_1374 (by decide) ?_
  refine a_iadd dL_law_1375 ?_
  refine a_sldN dL_law_1376 hs (nI_add _ 1) (by omega) hL ?_
  refine kgL_166 rfl dL_law_1377 (Nat.le_of_ble_eq_true rfl) (isLH_0 hD) (c_X11_bumps hD C.1 P.2.2.2.1 C.2.2.1.1 C.2.2.1.2 hK hKp) ?_
  rintro v y ⟨rfl, F1⟩
  have C1 := gC_Fs C F1
  have M1 := gM_hi M (hi_Fs F1)
  refine a_aload_n (i := 2) dL_law_1380 rfl rfl ?_
  refine a_aload_n (i := 0) dL_law_1381 rfl rfl ?_
  refine a_iload (i := 4) dL_law_1382 rfl ?_
  refine a_iconst (v := 1) dL_law_1384 (by decide) ?_
  refine a_iadd dL_law_1385 ?_
  refine a_sldN dL_law_1386 hs (nI_add _ 1) (by omega) hL ?_
  refine kgL_169 rfl dL_law_1387 (Nat.le_of_ble_eq_true rfl) (isM_0 hM) (c_X12_bumps hM M1.1 P.2.2.2.1 M1.2.2.1 hk1 hK hKp) ?_
  rintro v z ⟨rfl, F2⟩
  refine a_icmp_eq (tg := 1618) dL_law_1390 (by decide) (fun c_1390 => ?_) (fun c_1390 => ?_)
  · exact a_loc _ rfl (ih _ ⟨T, W, Z, Y, p, k, u, im, f7, f8, t, t2, N, B, gC_lo C1 (lo_F F2), gM_F M1 F2, P⟩)
  · exact absurd rfl c_1390
set_option maxHeartbeats 4000000 in
set_option maxRecDepth 100000 in
theorem lw_ask (hD : aDC D) (hM : D 12 = true) (hs : scr = some q) (hL : q.1 < 2147483648) (hi : i + 6 ≤ q.1) (J : gJ x) (ih : ∀ z, gJ z → aV l mL_law 13 D scr 1618 (lwV i) [] z Q) : aV l mL_law 13 D scr 1395 (lwV i) [] x Q := by
  obtain ⟨T, W, Z, Y, p, k, u, im, f7, f8, t, t2, N, B, C, M, P⟩ := J
  obtain ⟨K, hK, hKp, hk1⟩ := kn_K P.2.2.2.2.1 P.2.2.2.1.1
  refine a_aload_n (i := 1) dL_law_1395 rfl rfl ?_
  refine a_aload_n (i := 0) dL_law_1396 rfl rfl ?_
  refine a_iload (i := 4) dL_law_1397 rfl ?_
  refine a_iconst (v := 1) dL_law_1399 (by decide) ?_
  refine a_iadd dL_law_1400 ?_
  refine a_sldN dL_law_1401 hs (nI_add _ 1) (by omega) hL ?_
  refine a_aload_n (i := 0) dL_law_1402 rfl rfl ?_
  refine a_iload (i := 4) dL_law_1403 rfl ?_
  refine a_iconst (v := 2) dL_law_1405 (by decide) ?_
  refine a_iadd dL_law_1406 ?_
  refine a_sldN dL_law_1407 hs (nI_add _ 2) (by omega) hL ?_
  refine a_aload_n (i := 0) dL_law_1408 rfl rfl ?_
  refine a_iload (i := 4) dL_law_1409 rfl ?_
  refine a_iconst (v := 3) dL_law_1411 (by decide) ?_
  refine a_iadd dL_law_1412 ?_
  refine a_sldN dL_law_1413 hs (nI_add _ 3) (by omega) hL ?_
  refine kgL_170 rfl dL_law_1414 (Nat.le_of_ble_eq_true rfl) (isLH_0 hD) (c_X11_ask hD C.1 P.2.2.2.1 C.2.2.1.1 C.2.2.1.2 hK hKp) ?_
  rintro v y ⟨rfl, F1⟩
  have C1 := gC_Fs C F1
  have M1 := gM_hi M (hi_Fs F1)
  refine a_aload_n (i := 2) dL_law_1417 rfl rfl ?_
  refine a_aload_n (i := 0) dL_law_1418 rfl rfl ?_
  refine a_iload (i := 4) dL_law_1419 rfl ?_
  refine a_iconst (v := 1) dL_law_1421 (by decide) ?_
  refine a_iadd dL_law_1422 ?_
  refine a_sldN dL_law_1423 hs (nI_add _ 1) (by omega) hL ?_
  refine a_aload_n (i := 0) dL_law_1424 rfl rfl ?_
  refine a_iload (i := 4) dL_law_1425 rfl ?_
  refine a_iconst (v := 2) dL_law_1427 (by decide) ?_
  refine a_iadd dL_law_1428 ?_
  refine a_sldN dL_law_1429 hs (nI_add _ 2) (by omega) hL ?_
  refine a_aload_n (i := 0) dL_law_1430 rfl rfl ?_
  refine a_iload (i := 4) dL_law_1431 rfl ?_
  refine a_iconst (v := 3) dL_law_1433 (by decide) ?_
  refine a_iadd dL_law_1434 ?_
  refine a_sldN dL_law_1435 hs (nI_add _ 3) (by omega) hL ?_
  refine kgL_173 rfl dL_law_1436 (Nat.le_of_ble_eq_true rfl) (isM_0 hM) (c_X12_ask hM M1.1 P.2.2.2.1 M1.2.2.1 hk1 hK hKp) ?_
  rintro v z ⟨rfl, F2⟩
  refine a_icmp_eq (tg := 1618) dL_law_1439 (by decide) (fun c_1439 => ?_) (fun c_1439 => ?_)
  · exact a_loc _ rfl (ih _ ⟨T, W, Z, Y, p, k, u, im, f7, f8, t, t2, N, B, gC_lo C1 (lo_F F2), gM_F M1 F2, P⟩)
  · exact absurd rfl c_1439
set_option maxHeartbeats 4000000 in
set_option maxRecDepth 100000 in
theorem lw_count (hD : aDC D) (hM : D 12 = true) (hs : scr = some q) (hL : q.1 < 2147483648) (hi : i + 6 ≤ q.1) (J : gJ x) (ih : ∀ z, gJ z → aV l mL_law 13 D scr 1618 (lwV i) [] z Q) : aV l mL_law 13 D scr 1593 (lwV i) [] x Q := by
  obtain ⟨T, W, Z, Y, p, k, u, im, f7, f8, t, t2, N, B, C, M, P⟩ := J
  obtain ⟨K, hK, hKp, hk1⟩ := kn_K P.2.2.2.2.1 P.2.2.2.1.1
  refine a_aload_n (i := 1) dL_law_1593 rfl rfl ?_
  refine a_aload_n (i := 0) dL_law_1594 rfl rfl ?_
  refine a_iload (i := 4) dL_law_1595 rfl ?_
  refine a_iconst (v := 1) dL_law_1597 (by decide) ?_
  refine a_iadd dL_law_1598 ?_
  refine a_sldN dL_law_1599 hs (nI_add _ 1) (by omega) hL ?_
  refine kL_195 rfl dL_law_1600 (Nat.le_of_ble_eq_true rfl) (isLH_0 hD) (c_X11_count hD C.1 M.1.2.1 C.2.2.1.1.1 C.2.2.1.2 C.2.2.2.1.1) ?_
  refine a_aload_n (i := 2) dL_law_1603 rfl rfl ?_
  refine a_aload_n (i := 0) dL_law_1604 rfl rfl ?_
  refine a_iload (i := 4) dL_law_1605 rfl ?_
  refine a_iconst (v := 1) dL_law_1607 (by decide) ?_
  refine a_iadd dL_law_1608 ?_
  refine a_sldN dL_law_1609 hs (nI_add _ 1) (by omega) hL ?_
  refine kL_198 rfl dL_law_1610 (Nat.le_of_ble_eq_true rfl) (isM_0 hM) (c_X12_count hM M.1.1 M.2.2.1.1.1 M.2.2.1.2 hk1 M.2.2.2.1.1) ?_
  refine a_icmp_eq (tg := 1618) dL_law_1613 (by decide) (fun c_1613 => ?_) (fun c_1613 => ?_)
  · exact a_loc _ rfl (ih _ ⟨T, W, Z, Y, p, k, u, im, f7, f8, t, t2, N, B, gC_lo C (lo_F mF_0), gM_F M mF_0, P⟩)
  · exact absurd rfl c_1613
set_option maxHeartbeats 4000000 in
set_option maxRecDepth 100000 in
theorem lw_join (hD : aDC D) (hM : D 12 = true) (hs : scr = some q) (hL : q.1 < 2147483648) (hi : i + 6 ≤ q.1) (J : gJ x) (ih : ∀ z, gJ z → aV l mL_law 13 D scr 1618 (lwV i) [] z Q) : aV l mL_law 13 D scr 968 (lwV i) [] x Q := by
  obtain ⟨T, W, Z, Y, p, k, u, im, f7, f8, t, t2, N, B, C, M, P⟩ := J
  have ok := jOk_of C.1.2.2.2.1 P.1
  refine a_aload_n (i := 1) dL_law_968 rfl rfl ?_
  refine kgL_112 rfl dL_law_969 (Nat.le_of_ble_eq_true rfl) (isLH_0 hD) (c_X11_join hD C.1 ok) ?_
  rintro v y ⟨⟨r, rfl, js⟩, F1⟩
  have C1 := gC_F C F1
  have M1 := gM_hi M (hi_F F1)
  refine a_aload_n (i := 2) dL_law_972 rfl rfl ?_
  refine kgL_115 rfl dL_law_973 (Nat.le_of_ble_eq_true rfl) (isM_0 hM) (c_X12_join hM M1.1.1 ok) ?_
  rintro v z ⟨⟨r2, rfl, js2⟩, rfl⟩
  refine a_icmp_eq (tg := 1618) dL_law_976 (by decide) (fun c_976 => ?_) (fun c_976 => ?_)
  · exact a_loc _ rfl (ih _ ⟨T, W, Z, Y, p, k, u, im, f7, f8, t, t2, N, B, gC_lo C1 (lo_F mF_0), gM_F M1 mF_0, P⟩)
  · exact absurd (jSum_eq ok js js2) c_976
end qBN
