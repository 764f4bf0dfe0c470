/-! THE LAW: the calls that change something -/
section qBO
variable {T : zT} {W : Nat → zL} {Z Y X : zS} {p p' : Nat × zG} {k k' : Int32} {u u' : zU} {im : Bool} {f7 f8 : Int32} {t t2 N : Nat} {B : Nat → Nat} {x y : aS}
theorem nb0 : bLH = 0 ∧ bRd = 256 ∧ bTp = 512 ∧ bNow = 1280 ∧ bIm = 1536 ∧ bSn = 2304 ∧ bDn = 2560 ∧ bM = 3072 := by decide
theorem hi_Ly (e : cLy x y) : hiS x y := ⟨fun m h => (e m (by omega) (by omega)).1, fun m h => (e m (by omega) (by omega)).2⟩
theorem hi_Go (e : cGo x y) : hiS x y := ⟨fun m h => (e m (by omega) (by omega) (by have := nb0; omega)).1, fun m h => (e m (by omega) (by omega) (by have := nb0; omega)).2⟩
theorem hi_Bk (e : cBk x y) : hiS x y := ⟨fun m h => (e m (by omega) (by have := nb0; omega)).1, fun m h => (e m (by omega) (by have := nb0; omega)).2⟩
theorem hi_Sn (e : cSn x y) : hiS x y := ⟨fun m h => (e m (by omega)).1, fun m h => (e m (by omega)).2⟩
theorem hi_Kp (e : cKp x y) : hiS x y := ⟨fun m h => funext (fun j => e.1 m j (by omega) (by have := nb0; omega)), fun m h => e.2 m (by omega)⟩
theorem hi_Tp (e : cTp x y) : hiS x y := ⟨fun m h => funext (fun j => e.1 m j (by have := nb0; omega) (by have := nb0; omega)), fun m h => by rw [e.2]⟩
theorem lo_Ly (e : mLy x y) : loS x y := fun m h => funext (fun j => e.1 m j (by have := nb0; omega) (by have := nb0; omega) (fun g => by have := nb0; unfold mIn at g; omega))
theorem lo_Bk (e : mBk x y) : loS x y := fun m h => funext (fun j => e.1 m j (by have := nb0; omega) (fun g => by have := nb0; unfold mIn at g; omega))
theorem lo_Kp (e : mKp x y) : loS x y := fun m h => funext (fun j => e.1 m j (by have := nb0; omega) (by have := nb0; omega) (by have := nb0; omega) (by have := nb0; omega))
theorem lo_Sn (e : mSn x y) : loS x y := fun m h => funext (fun j => e.1 m j (by have := nb0; omega) (by have := nb0; omega))
theorem lo_Tp (e : mTp x y) : loS x y := fun m h => funext (fun j => e.1 m j (by have := nb0; omega) (by have := nb0; omega))
theorem lo_Go (e : mGo x y) : loS x y := fun m h => funext (fun j => e.1 m j (fun g => by have := nb0; unfold mScr mIn at g; omega) (fun g => by have := nb0; unfold mIn at g; omega) (by have := nb0; omega))
theorem gC_Ly (h : gC T W Z Y p k u im f7 f8 t t2 N B x) (e : cLy x y) (h1 : cR T W X y t) (h2 : rU u' y) : gC T W X Y p k u' im f7 f8 t t2 N B y := by
  obtain ⟨-, a2, a3, -, a5⟩ := h
  have n := nb0
  exact ⟨h1, cT0_f a2 (fun m g => (e m (by omega) (by omega)).1), cS0_f a3 (fun m g _ => (e m (by omega) (by omega)).1), h2, cI0_f a5 (by rw [(e bLH (by decide) (by decide)).1]) (fun m g => (e m (by omega) (by omega)).1)⟩
theorem gC_Go (h : gC T W Z Y p k u im f7 f8 t t2 N B x) (e : cGo x y) (h1 : cR T W X y t) (h2 : rU u' y) : gC T W X Y p k u' im f7 f8 t t2 N B y := by
  obtain ⟨-, a2, a3, -, a5⟩ := h
  have n := nb0
  exact ⟨h1, cT0_f a2 (fun m g => (e m (by omega) (by omega) (by omega)).1), cS0_f a3 (fun m g _ => (e m (by omega) (by omega) (by omega)).1), h2, cI0_f a5 (by rw [(e bLH (by decide) (by decide) (by decide)).1]) (fun m g => (e m (by omega) (by omega) (by omega)).1)⟩
theorem gC_Bk (h : gC T W Z Y p k u im f7 f8 t t2 N B x) (e : cBk x y) (h1 : cR T W X y t) (h2 : rU u' y) : gC T W X Y p k u' im f7 f8 t t2 N B y := by
  obtain ⟨-, a2, a3, -, a5⟩ := h
  have n := nb0
  exact ⟨h1, cT0_f a2 (fun m g => (e m (by omega) (by omega)).1), cS0_f a3 (fun m g _ => (e m (by omega) (by omega)).1), h2, cI0_f a5 (by rw [(e bLH (by decide) (by decide)).1]) (fun m g => (e m (by omega) (by omega)).1)⟩
theorem gC_Sn (h : gC T W Z Y p k u im f7 f8 t t2 N B x) (e : cSn x y) (h1 : cS0 p' k' y) : gC T W Z Y p' k' u im f7 f8 t t2 N B y := by
  obtain ⟨a1, a2, -, a4, a5⟩ := h
  have n := nb0
  exact ⟨cR_o (fun m g => (e m (by omega)).1) a1, cT0_f a2 (fun m g => (e m (by omega)).1), h1, rU_o (fun m g => (e m (by omega)).1) a4, cI0_f a5 (by rw [(e bLH (by decide)).1]) (fun m g => (e m (by omega)).1)⟩
theorem gC_Kp (h : gC T W Z Y p k u im f7 f8 t t2 N B x) (e : cKp x y) (h1 : rS T X y bIm) (h2 : y.1 bLH 5 = 1) : gC T W Z X p k u true f7 f8 t t2 N B y := by
  obtain ⟨a1, a2, a3, a4, a5⟩ := h
  have n := nb0
  have e0 : ∀ m, m / 256 ≠ 6 → m ≠ bLH → y.1 m = x.1 m := fun m h0 h3 => funext (fun j => e.1 m j h0 (fun g => h3 g.1))
  refine ⟨?_, cT0_f a2 (fun m g => e0 m (by omega) (by omega)), cS0_f a3 (fun m g _ => e0 m (by omega) (by omega)), rU_o (fun m g => e0 m (by omega) (by omega)) a4, ⟨h2, fun _ => h1⟩⟩
  obtain ⟨b1, b2, b3, b4, b5, b6, b7⟩ := a1
  have ht : t = 768 ∨ t = 1024 := b1
  exact ⟨b1, by rw [e.1 bLH 1 (by decide) (by omega)]; exact b2, b3, b4, rT_same (fun q hq => e0 _ (by omega) (by omega)) b3 b5, rW_same (fun q hq => e0 _ (by omega) (by omega)) b6, rS_same (fun q hq => e0 _ (by omega) (by omega)) b7⟩
theorem gM_Ly (h : gM T W Z Y p k u im f7 f8 N B x) (e : mLy x y) (h1 : mQ T W X y) (h2 : rUM T u' y) : gM T W X Y p k u' im f7 f8 N B y := by
  obtain ⟨-, a2, a3, -, a5⟩ := h
  have ni : ∀ m j, m = bM ∨ m = bM + 1 ∨ m = bM + 4 ∨ m = bM + 81 ∨ m = bM + 87 ∨ m = bM + 88 ∨ m = bM + 89 → ¬ mIn 0 m j := fun m j g g2 => by unfold mIn at g2; omega
  have n := nb0
  exact ⟨h1, mT0_f a2 (fun m j g => e.1 _ _ (by omega) (by omega) (ni _ _ (by omega))), mSe_f a3 (fun m j g => e.1 _ _ (by omega) (by omega) (ni _ _ (by omega))), h2, mI0_f a5 (e.1 _ _ (by omega) (by omega) (ni _ _ (by omega))) (fun m j g => e.1 _ _ (by omega) (by omega) (ni _ _ (by omega))) (by rw [e.2])⟩
theorem gM_Bk (h : gM T W Z Y p k u im f7 f8 N B x) (e : mBk x y) (h1 : mQ T W X y) (h2 : rUM T u' y) : gM T W X Y p k u' im f7 f8 N B y := by
  obtain ⟨-, a2, a3, -, a5⟩ := h
  have ni : ∀ m j, m = bM ∨ m = bM + 1 ∨ m = bM + 4 ∨ m = bM + 81 ∨ m = bM + 87 ∨ m = bM + 88 ∨ m = bM + 89 → ¬ mIn 0 m j := fun m j g g2 => by unfold mIn at g2; omega
  have n := nb0
  exact ⟨h1, mT0_f a2 (fun m j g => e.1 _ _ (by omega) (ni _ _ (by omega))), mSe_f a3 (fun m j g => e.1 _ _ (by omega) (ni _ _ (by omega))), h2, mI0_f a5 (e.1 _ _ (by omega) (ni _ _ (by omega))) (fun m j g => e.1 _ _ (by omega) (ni _ _ (by omega))) (e.2 _ _ (by omega))⟩
theorem gM_Go (h : gM T W Z Y p k u im f7 f8 N B x) (e : mGo x y) (h1 : mQ T W X y) (h2 : rUM T u' y) : gM T W X Y p k u' im f7 f8 N B y := by
  obtain ⟨-, a2, a3, -, a5⟩ := h
  have ni : ∀ m j, m = bM ∨ m = bM + 1 ∨ m = bM + 4 ∨ m = bM + 81 ∨ m = bM + 87 ∨ m = bM + 88 ∨ m = bM + 89 → ¬ mIn 0 m j := fun m j g g2 => by unfold mIn at g2; omega
  have n := nb0
  exact ⟨h1, mT0_f a2 (fun m j g => e.1 _ _ (nScr (by omega)) (ni _ _ (by omega)) (by omega)), mSe_f a3 (fun m j g => e.1 _ _ (nScr (by omega)) (ni _ _ (by omega)) (by omega)), h2, mI0_f a5 (e.1 _ _ (nScr (by omega)) (ni _ _ (by omega)) (by omega)) (fun m j g => e.1 _ _ (nScr (by omega)) (ni _ _ (by omega)) (by omega)) (e.2 _ _ (by omega) (by omega) (by omega))⟩
theorem gM_Sn (h : gM T W Z Y p k u im f7 f8 N B x) (e : mSn x y) (h1 : mSe p' k' y) : gM T W Z Y p' k' u im f7 f8 N B y := by
  obtain ⟨a1, a2, -, a4, a5⟩ := h
  have n := nb0
  exact ⟨mQ_o (fun m j g => e.1 m j (by unfold mKq mIn at g; omega) (by unfold mKq mIn at g; omega)) (by rw [e.2]) a1, mT0_f a2 (fun m j g => e.1 _ _ (by omega) (by omega)), h1, rUM_f a4 (fun m j g => e.1 _ _ (by omega) (by omega)), mI0_f a5 (e.1 _ _ (by omega) (by omega)) (fun m j g => e.1 _ _ (by omega) (by omega)) (by rw [e.2])⟩
theorem gM_Kp (h : gM T W Z Y p k u im f7 f8 N B x) (e : mKp x y) (h1 : mQ T W Z y) (h2 : rIM T X y) (h3 : y.1 bM 85 = 1) : gM T W Z X p k u true f7 f8 N B y := by
  obtain ⟨-, a2, a3, a4, -⟩ := h
  have n := nb0
  exact ⟨h1, mT0_f a2 (fun m j g => e.1 _ _ (by omega) (by omega) (by omega) (by omega)), mSe_f a3 (fun m j g => e.1 _ _ (by omega) (by omega) (by omega) (by omega)), rUM_f a4 (fun m j g => e.1 _ _ (by omega) (by omega) (by omega) (by omega)), ⟨h3, fun _ => h2⟩⟩
/-- nothing can be undone -/
theorem rU_0 (h : x.1 bDn 0 = 0) : rU (0, u.2) x := ⟨h, fun k hk => absurd hk (Nat.not_lt_zero k)⟩
theorem rUM_0 (h : x.1 bM 83 = 0) : rUM T (0, u.2) x := ⟨h, fun k hk => absurd hk (Nat.not_lt_zero k)⟩
theorem uR_0 : uR T Z (0, u.2) := ⟨Nat.zero_le _, fun k hk => absurd hk (Nat.not_lt_zero k)⟩
theorem fdB_lt {n : Nat} {a b c e f : Int32} (h : ∀ i, i < n → B i < 256) (i : Nat) : fdB n B a b c e f i < 256 := by
  unfold fdB
  split
  · exact h i (by assumption)
  · exact (byt_ok _ _).2
end qBO
theorem ab_20 {v : Int32} (h1 : -20 ≤ v) (h2 : v ≤ 20) : ab v 20 := by
  have a := Int32.le_iff_toInt_le.mp h1
  have b := Int32.le_iff_toInt_le.mp h2
  have e1 : (-20 : Int32).toInt = -20 := rfl
  have e2 : (20 : Int32).toInt = 20 := rfl
  unfold ab
  omega
theorem i32_m1 {a : Int32} (h : a < 0) : a ≤ -1 := by
  have b := Int32.lt_iff_toInt_lt.mp h
  have e1 : (0 : Int32).toInt = 0 := rfl
  have e2 : (-1 : Int32).toInt = -1 := rfl
  exact Int32.le_iff_toInt_le.mpr (by omega)
section qBP
variable {l : Launch} {D : Nat → Bool} {scr : Option aSc} {q : aSc} {i : Nat} {x : aS} {Q : Option Value → aS → Prop}

set_option maxHeartbeats 4000000 in
set_option maxRecDepth 100000 in
theorem lw_lay (hD : aDC D) (hM : D 12 = true) (hs : scr = some q) (hL : q.1 < 2147483648) (hi : i + 6 ≤ q.1) (J : gJ x) (ih : ∀ z, gJ z → aV l mL_law 13 D scr 1618 (lwV i) [] z Q) : aV l mL_law 13 D scr 609 (lwV i) [] x Q := by
  obtain ⟨T, W, Z, Y, p, k, u, im, f7, f8, t, t2, N, B, C, M, P⟩ := J
  obtain ⟨pW, pCo, pB, pS, pK, pR, pU, pI, pN, pBB⟩ := id P
  have hZ := C.1.2.2.2.1
  have ok := C.1.2.2.1
  have P' : zLyC T Z (q.2.1 (i + 1)) (q.2.1 (i + 2)) (q.2.1 (i + 3)) → gPu T (zPut Z (q.2.1 (i + 1)).toNatClampNeg (q.2.1 (i + 2)).toNatClampNeg (q.2.1 (i + 3))) Y p k (uPush u Z (0, (q.2.1 (i + 1)).toNatClampNeg, (q.2.1 (i + 2)).toNatClampNeg, (q.2.1 (i + 3)))) im N B := by
    intro ⟨⟨g1, g2, g3, g4, g5⟩, g6⟩
    obtain ⟨a, ha, ea⟩ := zIn_of (by have := ok.1; omega) g1
    obtain ⟨z, hz, ez⟩ := zIn_of (by decide) g2
    rw [ea] at g6 ⊢
    rw [ez]
    rw [nI_clamp (by have := ok.1; omega)] at g6 ⊢
    rw [nI_clamp (by omega)]
    exact ⟨zWb_put hZ pW g6 (ab_20 g4 g5), zCo_of pCo rfl, pB, pS, pK, uR_lay pR hZ ha hz g6, by_push pU pW.2.1 pR.1, pI, pN, pBB⟩
  by_cases g : zLyC T Z (q.2.1 (i + 1)) (q.2.1 (i + 2)) (q.2.1 (i + 3))
  · refine a_aload_n (i := 1) dL_law_609 rfl rfl ?_
    refine a_aload_n (i := 0) dL_law_610 rfl rfl ?_
    refine a_iload (i := 4) dL_law_611 rfl ?_
    refine a_iconst (v := 1) dL_law_613 (by decide) ?_
    refine a_iadd dL_law_614 ?_
    refine a_sldN dL_law_615 hs (nI_add _ 1) (by omega) hL ?_
    refine a_aload_n (i := 0) dL_law_616 rfl rfl ?_
    refine a_iload (i := 4) dL_law_617 rfl ?_
    refine a_iconst (v := 2) dL_law_619 (by decide) ?_
    refine a_iadd dL_law_620 ?_
    refine a_sldN dL_law_621 hs (nI_add _ 2) (by omega) hL ?_
    refine a_aload_n (i := 0) dL_law_622 rfl rfl ?_
    refine a_iload (i := 4) dL_law_623 rfl ?_
    refine a_iconst (v := 3) dL_law_625 (by decide) ?_
    refine a_iadd dL_law_626 ?_
    refine a_sldN dL_law_627 hs (nI_add _ 3) (by omega) hL ?_
    refine kgL_67 rfl dL_law_628 (Nat.le_of_ble_eq_true rfl) (isLH_0 hD) (c_X11_lay hD C.1 C.2.2.2.1 pR.1) ?_
    rintro v y ⟨q1, q2⟩
    obtain ⟨rfl, h1, h2, F1⟩ := q2 g
    have C1 := gC_Ly C F1 h1 h2
    have M1 := gM_hi M (hi_Ly F1)
    refine a_aload_n (i := 2) dL_law_631 rfl rfl ?_
    refine a_aload_n (i := 0) dL_law_632 rfl rfl ?_
    refine a_iload (i := 4) dL_law_633 rfl ?_
    refine a_iconst (v := 1) dL_law_635 (by decide) ?_
    refine a_iadd dL_law_636 ?_
    refine a_sldN dL_law_637 hs (nI_add _ 1) (by omega) hL ?_
    refine a_aload_n (i := 0) dL_law_638 rfl rfl ?_
    refine a_iload (i := 4) dL_law_639 rfl ?_
    refine a_iconst (v := 2) dL_law_641 (by decide) ?_
    refine a_iadd dL_law_642 ?_
    refine a_sldN dL_law_643 hs (nI_add _ 2) (by omega) hL ?_
    refine a_aload_n (i := 0) dL_law_644 rfl rfl ?_
    refine a_iload (i := 4) dL_law_645 rfl ?_
    refine a_iconst (v := 3) dL_law_647 (by decide) ?_
    refine a_iadd dL_law_648 ?_
    refine a_sldN dL_law_649 hs (nI_add _ 3) (by omega) hL ?_
    refine kgL_70 rfl dL_law_650 (Nat.le_of_ble_eq_true rfl) (isM_0 hM) (c_X12_lay hM M1.1 M1.2.2.2.1 pR) ?_
    rintro v z ⟨q1, q2⟩
    obtain ⟨rfl, h3, h4, F2⟩ := q2 g
    have M2 := gM_Ly M1 F2 h3 h4
    refine a_icmp_eq (tg := 1618) dL_law_653 (by decide) (fun c_653 => ?_) (fun c_653 => ?_)
    · exact a_loc _ rfl (ih _ ⟨T, W, (zPut Z (q.2.1 (i + 1)).toNatClampNeg (q.2.1 (i + 2)).toNatClampNeg (q.2.1 (i + 3))), Y, p, k, (uPush u Z (0, (q.2.1 (i + 1)).toNatClampNeg, (q.2.1 (i + 2)).toNatClampNeg, (q.2.1 (i + 3)))), im, f7, f8, t, t2, N, B, gC_lo C1 (lo_Ly F2), M2, P' g⟩)
    · exact absurd rfl c_653
  · refine a_aload_n (i := 1) dL_law_609 rfl rfl ?_
    refine a_aload_n (i := 0) dL_law_610 rfl rfl ?_
    refine a_iload (i := 4) dL_law_611 rfl ?_
    refine a_iconst (v := 1) dL_law_613 (by decide) ?_
    refine a_iadd dL_law_614 ?_
    refine a_sldN dL_law_615 hs (nI_add _ 1) (by omega) hL ?_
    refine a_aload_n (i := 0) dL_law_616 rfl rfl ?_
    refine a_iload (i := 4) dL_law_617 rfl ?_
    refine a_iconst (v := 2) dL_law_619 (by decide) ?_
    refine a_iadd dL_law_620 ?_
    refine a_sldN dL_law_621 hs (nI_add _ 2) (by omega) hL ?_
    refine a_aload_n (i := 0) dL_law_622 rfl rfl ?_
    refine a_iload (i := 4) dL_law_623 rfl ?_
    refine a_iconst (v := 3) dL_law_625 (by decide) ?_
    refine a_iadd dL_law_626 ?_
    refine a_sldN dL_law_627 hs (nI_add _ 3) (by omega) hL ?_
    refine kgL_67 rfl dL_law_628 (Nat.le_of_ble_eq_true rfl) (isLH_0 hD) (c_X11_lay hD C.1 C.2.2.2.1 pR.1) ?_
    rintro v y ⟨q1, q2⟩
    obtain ⟨rfl, rfl⟩ := q1 g
    refine a_aload_n (i := 2) dL_law_631 rfl rfl ?_
    refine a_aload_n (i := 0) dL_law_632 rfl rfl ?_
    refine a_iload (i := 4) dL_law_633 rfl ?_
    refine a_iconst (v := 1) dL_law_635 (by decide) ?_
    refine a_iadd dL_law_636 ?_
    refine a_sldN dL_law_637 hs (nI_add _ 1) (by omega) hL ?_
    refine a_aload_n (i := 0) dL_law_638 rfl rfl ?_
    refine a_iload (i := 4) dL_law_639 rfl ?_
    refine a_iconst (v := 2) dL_law_641 (by decide) ?_
    refine a_iadd dL_law_642 ?_
    refine a_sldN dL_law_643 hs (nI_add _ 2) (by omega) hL ?_
    refine a_aload_n (i := 0) dL_law_644 rfl rfl ?_
    refine a_iload (i := 4) dL_law_645 rfl ?_
    refine a_iconst (v := 3) dL_law_647 (by decide) ?_
    refine a_iadd dL_law_648 ?_
    refine a_sldN dL_law_649 hs (nI_add _ 3) (by omega) hL ?_
    refine kgL_70 rfl dL_law_650 (Nat.le_of_ble_eq_true rfl) (isM_0 hM) (c_X12_lay hM M.1 M.2.2.2.1 pR) ?_
    rintro v z ⟨q1, q2⟩
    obtain ⟨rfl, rfl⟩ := q1 g
    refine a_icmp_eq (tg := 1618) dL_law_653 (by decide) (fun c_653 => ?_) (fun c_653 => ?_)
    · exact a_loc _ rfl (ih _ ⟨T, W, Z, Y, p, k, u, im, f7, f8, t, t2, N, B, gC_lo C (lo_F mF_0), gM_F M mF_0, P⟩)
    · exact absurd rfl c_653
set_option maxHeartbeats 4000000 in
set_option maxRecDepth 100000 in
theorem lw_peel (hD : aDC D) (hM : D 12 = true) (hs : scr = some q) (hL : q.1 < 2147483648) (hi : i + 6 ≤ q.1) (J : gJ x) (ih : ∀ z, gJ z → aV l mL_law 13 D scr 1618 (lwV i) [] z Q) : aV l mL_law 13 D scr 658 (lwV i) [] x Q := by
  obtain ⟨T, W, Z, Y, p, k, u, im, f7, f8, t, t2, N, B, C, M, P⟩ := J
  obtain ⟨pW, pCo, pB, pS, pK, pR, pU, pI, pN, pBB⟩ := id P
  have hZ := C.1.2.2.2.1
  have ok := C.1.2.2.1
  have P' : zPlC T Z (q.2.1 (i + 1)) → gPu T (zPop Z (q.2.1 (i + 1)).toNatClampNeg) Y p k (uPush u Z (uPl Z (q.2.1 (i + 1)).toNatClampNeg)) im N B := by
    intro ⟨g1, g6⟩
    obtain ⟨a, ha, ea⟩ := zIn_of (by have := ok.1; omega) g1
    rw [ea] at g6 ⊢
    rw [nI_clamp (by have := ok.1; omega)] at g6 ⊢
    exact ⟨zWb_pop pW, zCo_of pCo rfl, pB, pS, pK, uR_peel pR hZ ha g6, by_push pU pW.2.1 pR.1, pI, pN, pBB⟩
  by_cases g : zPlC T Z (q.2.1 (i + 1))
  · refine a_aload_n (i := 1) dL_law_658 rfl rfl ?_
    refine a_aload_n (i := 0) dL_law_659 rfl rfl ?_
    refine a_iload (i := 4) dL_law_660 rfl ?_
    refine a_iconst (v := 1) dL_law_662 (by decide) ?_
    refine a_iadd dL_law_663 ?_
    refine a_sldN dL_law_664 hs (nI_add _ 1) (by omega) hL ?_
    refine kgL_71 rfl dL_law_665 (Nat.le_of_ble_eq_true rfl) (isLH_0 hD) (c_X11_peel hD C.1 C.2.2.2.1 pR.1) ?_
    rintro v y ⟨q1, q2⟩
    obtain ⟨rfl, h1, h2, F1⟩ := q2 g
    have C1 := gC_Ly C F1 h1 h2
    have M1 := gM_hi M (hi_Ly F1)
    refine a_aload_n (i := 2) dL_law_668 rfl rfl ?_
    refine a_aload_n (i := 0) dL_law_669 rfl rfl ?_
    refine a_iload (i := 4) dL_law_670 rfl ?_
    refine a_iconst (v := 1) dL_law_672 (by decide) ?_
    refine a_iadd dL_law_673 ?_
    refine a_sldN dL_law_674 hs (nI_add _ 1) (by omega) hL ?_
    refine kgL_74 rfl dL_law_675 (Nat.le_of_ble_eq_true rfl) (isM_0 hM) (c_X12_peel hM M1.1 M1.2.2.2.1 pR) ?_
    rintro v z ⟨q1, q2⟩
    obtain ⟨rfl, h3, h4, F2⟩ := q2 g
    have M2 := gM_Ly M1 F2 h3 h4
    refine a_icmp_eq (tg := 1618) dL_law_678 (by decide) (fun c_678 => ?_) (fun c_678 => ?_)
    · exact a_loc _ rfl (ih _ ⟨T, W, (zPop Z (q.2.1 (i + 1)).toNatClampNeg), Y, p, k, (uPush u Z (uPl Z (q.2.1 (i + 1)).toNatClampNeg)), im, f7, f8, t, t2, N, B, gC_lo C1 (lo_Ly F2), M2, P' g⟩)
    · exact absurd rfl c_678
  · refine a_aload_n (i := 1) dL_law_658 rfl rfl ?_
    refine a_aload_n (i := 0) dL_law_659 rfl rfl ?_
    refine a_iload (i := 4) dL_law_660 rfl ?_
    refine a_iconst (v := 1) dL_law_662 (by decide) ?_
    refine a_iadd dL_law_663 ?_
    refine a_sldN dL_law_664 hs (nI_add _ 1) (by omega) hL ?_
    refine kgL_71 rfl dL_law_665 (Nat.le_of_ble_eq_true rfl) (isLH_0 hD) (c_X11_peel hD C.1 C.2.2.2.1 pR.1) ?_
    rintro v y ⟨q1, q2⟩
    obtain ⟨rfl, rfl⟩ := q1 g
    refine a_aload_n (i := 2) dL_law_668 rfl rfl ?_
    refine a_aload_n (i := 0) dL_law_669 rfl rfl ?_
    refine a_iload (i := 4) dL_law_670 rfl ?_
    refine a_iconst (v := 1) dL_law_672 (by decide) ?_
    refine a_iadd dL_law_673 ?_
    refine a_sldN dL_law_674 hs (nI_add _ 1) (by omega) hL ?_
    refine kgL_74 rfl dL_law_675 (Nat.le_of_ble_eq_true rfl) (isM_0 hM) (c_X12_peel hM M.1 M.2.2.2.1 pR) ?_
    rintro v z ⟨q1, q2⟩
    obtain ⟨rfl, rfl⟩ := q1 g
    refine a_icmp_eq (tg := 1618) dL_law_678 (by decide) (fun c_678 => ?_) (fun c_678 => ?_)
    · exact a_loc _ rfl (ih _ ⟨T, W, Z, Y, p, k, u, im, f7, f8, t, t2, N, B, gC_lo C (lo_F mF_0), gM_F M mF_0, P⟩)
    · exact absurd rfl c_678
set_option maxHeartbeats 4000000 in
set_option maxRecDepth 100000 in
theorem lw_move (hD : aDC D) (hM : D 12 = true) (hs : scr = some q) (hL : q.1 < 2147483648) (hi : i + 6 ≤ q.1) (J : gJ x) (ih : ∀ z, gJ z → aV l mL_law 13 D scr 1618 (lwV i) [] z Q) : aV l mL_law 13 D scr 683 (lwV i) [] x Q := by
  obtain ⟨T, W, Z, Y, p, k, u, im, f7, f8, t, t2, N, B, C, M, P⟩ := J
  obtain ⟨pW, pCo, pB, pS, pK, pR, pU, pI, pN, pBB⟩ := id P
  have hZ := C.1.2.2.2.1
  have ok := C.1.2.2.1
  have P' : zMvC T Z (q.2.1 (i + 1)) (q.2.1 (i + 2)) → gPu T (zHome Z (q.2.1 (i + 1)).toNatClampNeg (q.2.1 (i + 2)).toNatClampNeg) Y p k (uPush u Z (2, (q.2.1 (i + 1)).toNatClampNeg, Z.2 3 (q.2.1 (i + 1)).toNatClampNeg, 0)) im N B := by
    intro ⟨g1, g2, g6⟩
    obtain ⟨a, ha, ea⟩ := zIn_of (by have := ok.2.1; omega) g1
    rw [ea]
    rw [nI_clamp (by have := ok.2.1; omega)]
    exact ⟨zWb_home pW, zCo_of pCo rfl, pB, pS, pK, uR_move pR hZ ha, by_push pU pW.2.1 pR.1, pI, pN, pBB⟩
  by_cases g : zMvC T Z (q.2.1 (i + 1)) (q.2.1 (i + 2))
  · refine a_aload_n (i := 1) dL_law_683 rfl rfl ?_
    refine a_aload_n (i := 0) dL_law_684 rfl rfl ?_
    refine a_iload (i := 4) dL_law_685 rfl ?_
    refine a_iconst (v := 1) dL_law_687 (by decide) ?_
    refine a_iadd dL_law_688 ?_
    refine a_sldN dL_law_689 hs (nI_add _ 1) (by omega) hL ?_
    refine a_aload_n (i := 0) dL_law_690 rfl rfl ?_
    refine a_iload (i := 4) dL_law_691 rfl ?_
    refine a_iconst (v := 2) dL_law_693 (by decide) ?_
    refine a_iadd dL_law_694 ?_
    refine a_sldN dL_law_695 hs (nI_add _ 2) (by omega) hL ?_
    refine kgL_75 rfl dL_law_696 (Nat.le_of_ble_eq_true rfl) (isLH_0 hD) (c_X11_move hD C.1 C.2.2.2.1 pR.1) ?_
    rintro v y ⟨q1, q2⟩
    obtain ⟨rfl, h1, h2, F1⟩ := q2 g
    have C1 := gC_Ly C F1 h1 h2
    have M1 := gM_hi M (hi_Ly F1)
    refine a_aload_n (i := 2) dL_law_699 rfl rfl ?_
    refine a_aload_n (i := 0) dL_law_700 rfl rfl ?_
    refine a_iload (i := 4) dL_law_701 rfl ?_
    refine a_iconst (v := 1) dL_law_703 (by decide) ?_
    refine a_iadd dL_law_704 ?_
    refine a_sldN dL_law_705 hs (nI_add _ 1) (by omega) hL ?_
    refine a_aload_n (i := 0) dL_law_706 rfl rfl ?_
    refine a_iload (i := 4) dL_law_707 rfl ?_
    refine a_iconst (v := 2) dL_law_709 (by decide) ?_
    refine a_iadd dL_law_710 ?_
    refine a_sldN dL_law_711 hs (nI_add _ 2) (by omega) hL ?_
    refine kgL_79 rfl dL_law_712 (Nat.le_of_ble_eq_true rfl) (isM_0 hM) (c_X12_move hM M1.1 M1.2.2.2.1 pR) ?_
    rintro v z ⟨q1, q2⟩
    obtain ⟨rfl, h3, h4, F2⟩ := q2 g
    have M2 := gM_Ly M1 F2 h3 h4
    refine a_icmp_eq (tg := 1618) dL_law_715 (by decide) (fun c_715 => ?_) (fun c_715 => ?_)
    · exact a_loc _ rfl (ih _ ⟨T, W, (zHome Z (q.2.1 (i + 1)).toNatClampNeg (q.2.1 (i + 2)).toNatClampNeg), Y, p, k, (uPush u Z (2, (q.2.1 (i + 1)).toNatClampNeg, Z.2 3 (q.2.1 (i + 1)).toNatClampNeg, 0)), im, f7, f8, t, t2, N, B, gC_lo C1 (lo_Ly F2), M2, P' g⟩)
    · exact absurd rfl c_715
  · refine a_aload_n (i := 1) dL_law_683 rfl rfl ?_
    refine a_aload_n (i := 0) dL_law_684 rfl rfl ?_
    refine a_iload (i := 4) dL_law_685 rfl ?_
    refine a_iconst (v := 1) dL_law_687 (by decide) ?_
    refine a_iadd dL_law_688 ?_
    refine a_sldN dL_law_689 hs (nI_add _ 1) (by omega) hL ?_
    refine a_aload_n (i := 0) dL_law_690 rfl rfl ?_
    refine a_iload (i := 4) dL_law_691 rfl ?_
    refine a_iconst (v := 2) dL_law_693 (by decide) ?_
    refine a_iadd dL_law_694 ?_
    refine a_sldN dL_law_695 hs (nI_add _ 2) (by omega) hL ?_
    refine kgL_75 rfl dL_law_696 (Nat.le_of_ble_eq_true rfl) (isLH_0 hD) (c_X11_move hD C.1 C.2.2.2.1 pR.1) ?_
    rintro v y ⟨q1, q2⟩
    obtain ⟨rfl, rfl⟩ := q1 g
    refine a_aload_n (i := 2) dL_law_699 rfl rfl ?_
    refine a_aload_n (i := 0) dL_law_700 rfl rfl ?_
    refine a_iload (i := 4) dL_law_701 rfl ?_
    refine a_iconst (v := 1) dL_law_703 (by decide) ?_
    refine a_iadd dL_law_704 ?_
    refine a_sldN dL_law_705 hs (nI_add _ 1) (by omega) hL ?_
    refine a_aload_n (i := 0) dL_law_706 rfl rfl ?_
    refine a_iload (i := 4) dL_law_707 rfl ?_
    refine a_iconst (v := 2) dL_law_709 (by decide) ?_
    refine a_iadd dL_law_710 ?_
    refine a_sldN dL_law_711 hs (nI_add _ 2) (by omega) hL ?_
    refine kgL_79 rfl dL_law_712 (Nat.le_of_ble_eq_true rfl) (isM_0 hM) (c_X12_move hM M.1 M.2.2.2.1 pR) ?_
    rintro v z ⟨q1, q2⟩
    obtain ⟨rfl, rfl⟩ := q1 g
    refine a_icmp_eq (tg := 1618) dL_law_715 (by decide) (fun c_715 => ?_) (fun c_715 => ?_)
    · exact a_loc _ rfl (ih _ ⟨T, W, Z, Y, p, k, u, im, f7, f8, t, t2, N, B, gC_lo C (lo_F mF_0), gM_F M mF_0, P⟩)
    · exact absurd rfl c_715
set_option maxHeartbeats 4000000 in
set_option maxRecDepth 100000 in
theorem lw_undo (hD : aDC D) (hM : D 12 = true) (hs : scr = some q) (hL : q.1 < 2147483648) (hi : i + 6 ≤ q.1) (J : gJ x) (ih : ∀ z, gJ z → aV l mL_law 13 D scr 1618 (lwV i) [] z Q) : aV l mL_law 13 D scr 1554 (lwV i) [] x Q := by
  obtain ⟨T, W, Z, Y, p, k, u, im, f7, f8, t, t2, N, B, C, M, P⟩ := J
  obtain ⟨pW, pCo, pB, pS, pK, pR, pU, pI, pN, pBB⟩ := id P
  have hZ := C.1.2.2.2.1
  have ok := C.1.2.2.1
  have P' : ¬ u.1 = 0 → gPu T (zTk Z (u.2.1 (u.1 - 1))) Y p k (uPop u) im N B := by
    intro g
    refine ⟨zWb_tk pW (pU _ (by omega)), zCo_of pCo rfl, pB, pS, pK, uR_pop pR (by omega), fun j hj => pU j ?_, pI, pN, pBB⟩
    have hj : j < u.1 - 1 := hj
    omega
  by_cases g : ¬ u.1 = 0
  · refine a_aload_n (i := 1) dL_law_1554 rfl rfl ?_
    refine kgL_183 rfl dL_law_1555 (Nat.le_of_ble_eq_true rfl) (isLH_0 hD) (c_X11_undo hD C.1 C.2.2.2.1 pR) ?_
    rintro v y ⟨q1, q2⟩
    obtain ⟨rfl, h1, h2, F1⟩ := q2 g
    have C1 := gC_Ly C F1 h1 h2
    have M1 := gM_hi M (hi_Ly F1)
    refine a_aload_n (i := 2) dL_law_1558 rfl rfl ?_
    refine kgL_186 rfl dL_law_1559 (Nat.le_of_ble_eq_true rfl) (isM_0 hM) (c_X12_undo hM M1.1 M1.2.2.2.1 pR) ?_
    rintro v z ⟨q1, q2⟩
    obtain ⟨rfl, h3, h4, F2⟩ := q2 g
    have M2 := gM_Ly M1 F2 h3 h4
    refine a_icmp_eq (tg := 1618) dL_law_1562 (by decide) (fun c_1562 => ?_) (fun c_1562 => ?_)
    · exact a_loc _ rfl (ih _ ⟨T, W, (zTk Z (u.2.1 (u.1 - 1))), Y, p, k, (uPop u), im, f7, f8, t, t2, N, B, gC_lo C1 (lo_Ly F2), M2, P' g⟩)
    · exact absurd rfl c_1562
  · refine a_aload_n (i := 1) dL_law_1554 rfl rfl ?_
    refine kgL_183 rfl dL_law_1555 (Nat.le_of_ble_eq_true rfl) (isLH_0 hD) (c_X11_undo hD C.1 C.2.2.2.1 pR) ?_
    rintro v y ⟨q1, q2⟩
    obtain ⟨rfl, rfl⟩ := q1 (Classical.not_not.mp g)
    refine a_aload_n (i := 2) dL_law_1558 rfl rfl ?_
    refine kgL_186 rfl dL_law_1559 (Nat.le_of_ble_eq_true rfl) (isM_0 hM) (c_X12_undo hM M.1 M.2.2.2.1 pR) ?_
    rintro v z ⟨q1, q2⟩
    obtain ⟨rfl, rfl⟩ := q1 (Classical.not_not.mp g)
    refine a_icmp_eq (tg := 1618) dL_law_1562 (by decide) (fun c_1562 => ?_) (fun c_1562 => ?_)
    · exact a_loc _ rfl (ih _ ⟨T, W, Z, Y, p, k, u, im, f7, f8, t, t2, N, B, gC_lo C (lo_F mF_0), gM_F M mF_0, P⟩)
    · exact absurd rfl c_1562
set_option maxHeartbeats 4000000 in
set_option maxRecDepth 100000 in
theorem lw_back (hD : aDC D) (hM : D 12 = true) (hs : scr = some q) (hL : q.1 < 2147483648) (hi : i + 6 ≤ q.1) (J : gJ x) (ih : ∀ z, gJ z → aV l mL_law 13 D scr 1618 (lwV i) [] z Q) : aV l mL_law 13 D scr 1580 (lwV i) [] x Q := by
  obtain ⟨T, W, Z, Y, p, k, u, im, f7, f8, t, t2, N, B, C, M, P⟩ := J
  obtain ⟨pW, pCo, pB, pS, pK, pR, pU, pI, pN, pBB⟩ := id P
  have hZ := C.1.2.2.2.1
  have ok := C.1.2.2.1
  have P' : im = true → gPu T Y Y p k (0, u.2) im N B := fun g => ⟨(pI g).2.2.1, (pI g).2.2.2, pB, pS, pK, uR_0, fun j hj => absurd hj (Nat.not_lt_zero j), pI, pN, pBB⟩
  by_cases g : im = true
  · refine a_aload_n (i := 1) dL_law_1580 rfl rfl ?_
    refine kgL_191 rfl dL_law_1581 (Nat.le_of_ble_eq_true rfl) (isLH_0 hD) (c_X11_back hD C.1 C.2.2.2.2.1 (fun g => ⟨(pI g).1, C.2.2.2.2.2 g⟩)) ?_
    rintro v y ⟨q1, q2⟩
    obtain ⟨rfl, h1, h2, F1⟩ := q2 g
    have C1 := gC_Bk C F1 h1 (rU_0 (u := u) h2)
    have M1 := gM_hi M (hi_Bk F1)
    refine a_aload_n (i := 2) dL_law_1584 rfl rfl ?_
    refine kgL_194 rfl dL_law_1585 (Nat.le_of_ble_eq_true rfl) (isM_0 hM) (c_X12_back hM M1.1 M1.2.2.2.2.1 (fun g => ⟨(pI g).1, (pI g).2.1, M1.2.2.2.2.2 g⟩)) ?_
    rintro v z ⟨q1, q2⟩
    obtain ⟨rfl, h3, h4, F2⟩ := q2 g
    have M2 := gM_Bk M1 F2 h3 (rUM_0 (u := u) h4)
    refine a_icmp_eq (tg := 1618) dL_law_1588 (by decide) (fun c_1588 => ?_) (fun c_1588 => ?_)
    · exact a_loc _ rfl (ih _ ⟨T, W, Y, Y, p, k, (0, u.2), im, f7, f8, t, t2, N, B, gC_lo C1 (lo_Bk F2), M2, P' g⟩)
    · exact absurd rfl c_1588
  · refine a_aload_n (i := 1) dL_law_1580 rfl rfl ?_
    refine kgL_191 rfl dL_law_1581 (Nat.le_of_ble_eq_true rfl) (isLH_0 hD) (c_X11_back hD C.1 C.2.2.2.2.1 (fun g => ⟨(pI g).1, C.2.2.2.2.2 g⟩)) ?_
    rintro v y ⟨q1, q2⟩
    obtain ⟨rfl, rfl⟩ := q1 (Bool.not_eq_true _ ▸ g)
    refine a_aload_n (i := 2) dL_law_1584 rfl rfl ?_
    refine kgL_194 rfl dL_law_1585 (Nat.le_of_ble_eq_true rfl) (isM_0 hM) (c_X12_back hM M.1 M.2.2.2.2.1 (fun g => ⟨(pI g).1, (pI g).2.1, M.2.2.2.2.2 g⟩)) ?_
    rintro v z ⟨q1, q2⟩
    obtain ⟨rfl, rfl⟩ := q1 (Bool.not_eq_true _ ▸ g)
    refine a_icmp_eq (tg := 1618) dL_law_1588 (by decide) (fun c_1588 => ?_) (fun c_1588 => ?_)
    · exact a_loc _ rfl (ih _ ⟨T, W, Z, Y, p, k, u, im, f7, f8, t, t2, N, B, gC_lo C (lo_F mF_0), gM_F M mF_0, P⟩)
    · exact absurd rfl c_1588
set_option maxHeartbeats 4000000 in
set_option maxRecDepth 100000 in
theorem lw_keep (hD : aDC D) (hM : D 12 = true) (hs : scr = some q) (hL : q.1 < 2147483648) (hi : i + 6 ≤ q.1) (J : gJ x) (ih : ∀ z, gJ z → aV l mL_law 13 D scr 1618 (lwV i) [] z Q) : aV l mL_law 13 D scr 1567 (lwV i) [] x Q := by
  obtain ⟨T, W, Z, Y, p, k, u, im, f7, f8, t, t2, N, B, C, M, P⟩ := J
  obtain ⟨pW, pCo, pB, pS, pK, pR, pU, pI, pN, pBB⟩ := id P
  have hZ := C.1.2.2.2.1
  have ok := C.1.2.2.1
  refine a_aload_n (i := 1) dL_law_1567 rfl rfl ?_
  refine kgL_187 rfl dL_law_1568 (Nat.le_of_ble_eq_true rfl) (isLH_0 hD) (c_X11_keep hD C.1) ?_
  rintro v y ⟨rfl, h1, h2, F1⟩
  have C1 := gC_Kp C F1 h1 h2
  have M1 := gM_hi M (hi_Kp F1)
  refine a_aload_n (i := 2) dL_law_1571 rfl rfl ?_
  refine kgL_190 rfl dL_law_1572 (Nat.le_of_ble_eq_true rfl) (isM_0 hM) (c_X12_keep hM M1.1) ?_
  rintro v z ⟨rfl, h3, h4, h5, F2⟩
  have M2 := gM_Kp M1 F2 h3 h4 h5
  refine a_icmp_eq (tg := 1618) dL_law_1575 (by decide) (fun c_1575 => ?_) (fun c_1575 => ?_)
  · exact a_loc _ rfl (ih _ ⟨T, W, Z, Z, p, k, u, true, f7, f8, t, t2, N, B, gC_lo C1 (lo_Kp F2), M2, ⟨pW, pCo, pB, pS, pK, pR, pU, fun _ => ⟨hZ, M.1.2.1, pW, pCo⟩, pN, pBB⟩⟩)
  · exact absurd rfl c_1575
set_option maxHeartbeats 4000000 in
set_option maxRecDepth 100000 in
theorem lw_known (hD : aDC D) (hM : D 12 = true) (hs : scr = some q) (hL : q.1 < 2147483648) (hi : i + 6 ≤ q.1) (J : gJ x) (ih : ∀ z, gJ z → aV l mL_law 13 D scr 1618 (lwV i) [] z Q) : aV l mL_law 13 D scr 1345 (lwV i) [] x Q := by
  obtain ⟨T, W, Z, Y, p, k, u, im, f7, f8, t, t2, N, B, C, M, P⟩ := J
  obtain ⟨pW, pCo, pB, pS, pK, pR, pU, pI, pN, pBB⟩ := id P
  have hZ := C.1.2.2.2.1
  have ok := C.1.2.2.1
  have rk : ∀ x : aS, rG p x → rG p (aWr x bSn 1 (q.2.1 (i + 1))) := fun x h => ⟨by rw [aWr_j _ _ _ (by decide)]; exact h.1, fun j hj => by rw [aWr_n _ _ _ (by decide), aWr_n _ _ _ (by decide), aWr_n _ _ _ (by decide), aWr_n _ _ _ (by decide), aWr_n _ _ _ (by decide)]; exact h.2 j hj⟩
  have h24 := pS.1
  have cc := c_X11_known (l := l) (d := 12) (D := D) (n := (q.2.1 (i + 1))) hD C.2.2.1.1
  by_cases g : zKnC p (q.2.1 (i + 1))
  · rw [if_pos g] at cc
    have C1 : gC T W Z Y p (q.2.1 (i + 1)) u im f7 f8 t t2 N B (aWr x bSn 1 (q.2.1 (i + 1))) := gC_Sn C (fun m hm => ⟨aWr_n _ _ _ (fun e => hm (by rw [e]; decide)), rfl⟩) ⟨rk x C.2.2.1.1, aWr_s _ _ _ _⟩
    have M1 := gM_hi (y := aWr x bSn 1 (q.2.1 (i + 1))) M ⟨fun m hm => aWr_n _ _ _ (by have := nb0; omega), fun _ _ => rfl⟩
    have mc := c_X12_known (l := l) (d := 11) (D := D) (n := (q.2.1 (i + 1))) hM M1.2.2.1.1
    rw [if_pos g] at mc
    have M2 : gM T W Z Y p (q.2.1 (i + 1)) u im f7 f8 N B (aWr (aWr (aWr x bSn 1 (q.2.1 (i + 1))) bM 2 0) bM 79 (q.2.1 (i + 1))) := by
      have M0 := gM_F M1 mF_0
      exact gM_Sn M0 ⟨fun m j h1 h2 => aWr_o _ _ (by omega), rfl⟩ ⟨⟨by rw [aWr_j _ _ _ (by decide)]; exact M0.2.2.1.1.1, fun j hj => by rw [aWr_n _ _ _ (by decide)]; exact M0.2.2.1.1.2 j hj⟩, aWr_s _ _ _ _⟩
    have C2 : gC T W Z Y p (q.2.1 (i + 1)) u im f7 f8 t t2 N B (aWr (aWr (aWr x bSn 1 (q.2.1 (i + 1))) bM 2 0) bM 79 (q.2.1 (i + 1))) := gC_lo C1 (fun m hm => by rw [aWr_n _ _ _ (by have := nb0; omega), aWr_n _ _ _ (by have := nb0; omega)])
    have K' : (q.2.1 (i + 1)) = -1 ∨ ∃ K, K ≤ p.1 ∧ (q.2.1 (i + 1)) = nI K := by
      by_cases e : (q.2.1 (i + 1)) < 0
      · refine Or.inl (Int32.le_antisymm ?_ g.1)
        exact i32_m1 e
      · obtain ⟨K, hK, eK⟩ := nI_of e
        refine Or.inr ⟨K, ?_, eK⟩
        have := g.2
        rw [eK] at this
        exact (nI_leI hK (by omega)).mp this
    refine a_aload_n (i := 1) dL_law_1345 rfl rfl ?_
    refine a_aload_n (i := 0) dL_law_1346 rfl rfl ?_
    refine a_iload (i := 4) dL_law_1347 rfl ?_
    refine a_iconst (v := 1) dL_law_1349 (by decide) ?_
    refine a_iadd dL_law_1350 ?_
    refine a_sldN dL_law_1351 hs (nI_add _ 1) (by omega) hL ?_
    refine kL_161 rfl dL_law_1352 (Nat.le_of_ble_eq_true rfl) (isLH_0 hD) (cc) ?_
    refine a_aload_n (i := 2) dL_law_1355 rfl rfl ?_
    refine a_aload_n (i := 0) dL_law_1356 rfl rfl ?_
    refine a_iload (i := 4) dL_law_1357 rfl ?_
    refine a_iconst (v := 1) dL_law_1359 (by decide) ?_
    refine a_iadd dL_law_1360 ?_
    refine a_sldN dL_law_1361 hs (nI_add _ 1) (by omega) hL ?_
    refine kL_165 rfl dL_law_1362 (Nat.le_of_ble_eq_true rfl) (isM_0 hM) (mc) ?_
    refine a_icmp_eq (tg := 1618) dL_law_1365 (by decide) (fun c_1365 => ?_) (fun c_1365 => ?_)
    · exact a_loc _ rfl (ih _ ⟨T, W, Z, Y, p, (q.2.1 (i + 1)), u, im, f7, f8, t, t2, N, B, C2, M2, ⟨pW, pCo, pB, pS, K', pR, pU, pI, pN, pBB⟩⟩)
    · exact absurd rfl c_1365
  · rw [if_neg g] at cc
    have mc := c_X12_known (l := l) (d := 11) (D := D) (n := (q.2.1 (i + 1))) hM M.2.2.1.1
    rw [if_neg g] at mc
    refine a_aload_n (i := 1) dL_law_1345 rfl rfl ?_
    refine a_aload_n (i := 0) dL_law_1346 rfl rfl ?_
    refine a_iload (i := 4) dL_law_1347 rfl ?_
    refine a_iconst (v := 1) dL_law_1349 (by decide) ?_
    refine a_iadd dL_law_1350 ?_
    refine a_sldN dL_law_1351 hs (nI_add _ 1) (by omega) hL ?_
    refine kL_161 rfl dL_law_1352 (Nat.le_of_ble_eq_true rfl) (isLH_0 hD) (cc) ?_
    refine a_aload_n (i := 2) dL_law_1355 rfl rfl ?_
    refine a_aload_n (i := 0) dL_law_1356 rfl rfl ?_
    refine a_iload (i := 4) dL_law_1357 rfl ?_
    refine a_iconst (v := 1) dL_law_1359 (by decide) ?_
    refine a_iadd dL_law_1360 ?_
    refine a_sldN dL_law_1361 hs (nI_add _ 1) (by omega) hL ?_
    refine kL_165 rfl dL_law_1362 (Nat.le_of_ble_eq_true rfl) (isM_0 hM) (mc) ?_
    refine a_icmp_eq (tg := 1618) dL_law_1365 (by decide) (fun c_1365 => ?_) (fun c_1365 => ?_)
    · exact a_loc _ rfl (ih _ ⟨T, W, Z, Y, p, k, u, im, f7, f8, t, t2, N, B, gC_lo C (lo_F mF_0), gM_F M mF_0, P⟩)
    · exact absurd rfl c_1365
set_option maxHeartbeats 4000000 in
set_option maxRecDepth 100000 in
theorem lw_strike (hD : aDC D) (hM : D 12 = true) (hs : scr = some q) (hL : q.1 < 2147483648) (hi : i + 6 ≤ q.1) (J : gJ x) (ih : ∀ z, gJ z → aV l mL_law 13 D scr 1618 (lwV i) [] z Q) : aV l mL_law 13 D scr 1320 (lwV i) [] x Q := by
  obtain ⟨T, W, Z, Y, p, k, u, im, f7, f8, t, t2, N, B, C, M, P⟩ := J
  obtain ⟨pW, pCo, pB, pS, pK, pR, pU, pI, pN, pBB⟩ := id P
  have hZ := C.1.2.2.2.1
  have ok := C.1.2.2.1
  have h24 := pS.1
  have S' : sgOk T (zStP p (q.2.1 (i + 1))) ∧ p.1 ≤ (zStP p (q.2.1 (i + 1))).1 := by
    unfold zStP
    by_cases g : zStC p (q.2.1 (i + 1))
    · rw [if_pos g]
      obtain ⟨a, ha, ea⟩ := zIn_of (by omega) g.1
      exact ⟨sgOk_push pS g.2 (Nat.zero_le 60) (fun _ => by rw [ea, nI_clamp (by omega)]; exact ha) (fun e => absurd rfl e), Nat.le_succ _⟩
    · rw [if_neg g]; exact ⟨pS, Nat.le_refl _⟩
  have K' : k = -1 ∨ ∃ K, K ≤ (zStP p (q.2.1 (i + 1))).1 ∧ k = nI K := by
    rcases pK with h | ⟨K, h1, h2⟩
    · exact Or.inl h
    · exact Or.inr ⟨K, Nat.le_trans h1 S'.2, h2⟩
  refine a_aload_n (i := 1) dL_law_1320 rfl rfl ?_
  refine a_aload_n (i := 0) dL_law_1321 rfl rfl ?_
  refine a_iload (i := 4) dL_law_1322 rfl ?_
  refine a_iconst (v := 1) dL_law_1324 (by decide) ?_
  refine a_iadd dL_law_1325 ?_
  refine a_sldN dL_law_1326 hs (nI_add _ 1) (by omega) hL ?_
  refine kgL_157 rfl dL_law_1327 (Nat.le_of_ble_eq_true rfl) (isLH_0 hD) (c_X11_strike hD C.2.2.1.1 h24) ?_
  rintro v y ⟨rfl, h1, h2, F1⟩
  have C1 := gC_Sn C F1 ⟨h1, h2.trans C.2.2.1.2⟩
  have M1 := gM_hi M (hi_Sn F1)
  refine a_aload_n (i := 2) dL_law_1330 rfl rfl ?_
  refine a_aload_n (i := 0) dL_law_1331 rfl rfl ?_
  refine a_iload (i := 4) dL_law_1332 rfl ?_
  refine a_iconst (v := 1) dL_law_1334 (by decide) ?_
  refine a_iadd dL_law_1335 ?_
  refine a_sldN dL_law_1336 hs (nI_add _ 1) (by omega) hL ?_
  refine kgL_160 rfl dL_law_1337 (Nat.le_of_ble_eq_true rfl) (isM_0 hM) (c_X12_strike hM M1.2.2.1.1 h24) ?_
  rintro v z ⟨rfl, h3, h4, F2⟩
  have M2 := gM_Sn M1 F2 ⟨h3, h4.trans M1.2.2.1.2⟩
  refine a_icmp_eq (tg := 1618) dL_law_1340 (by decide) (fun c_1340 => ?_) (fun c_1340 => ?_)
  · exact a_loc _ rfl (ih _ ⟨T, W, Z, Y, (zStP p (q.2.1 (i + 1))), k, u, im, f7, f8, t, t2, N, B, gC_lo C1 (lo_Sn F2), M2, ⟨pW, pCo, pB, S'.1, K', pR, pU, pI, pN, pBB⟩⟩)
  · exact absurd rfl c_1340
set_option maxHeartbeats 4000000 in
set_option maxRecDepth 100000 in
theorem lw_see (hD : aDC D) (hM : D 12 = true) (hs : scr = some q) (hL : q.1 < 2147483648) (hi : i + 6 ≤ q.1) (J : gJ x) (ih : ∀ z, gJ z → aV l mL_law 13 D scr 1618 (lwV i) [] z Q) : aV l mL_law 13 D scr 1243 (lwV i) [] x Q := by
  obtain ⟨T, W, Z, Y, p, k, u, im, f7, f8, t, t2, N, B, C, M, P⟩ := J
  obtain ⟨pW, pCo, pB, pS, pK, pR, pU, pI, pN, pBB⟩ := id P
  have hZ := C.1.2.2.2.1
  have ok := C.1.2.2.1
  have h24 := pS.1
  have h8 := ok.2.1
  have S' : ∀ b : Bool, sgOk T (zSeeP T p (q.2.1 (i + 1)) (q.2.1 (i + 2)) (q.2.1 (i + 3)) b) ∧ p.1 ≤ (zSeeP T p (q.2.1 (i + 1)) (q.2.1 (i + 2)) (q.2.1 (i + 3)) b).1 := by
    intro b
    unfold zSeeP
    by_cases g : zSeeC T (q.2.1 (i + 1)) (q.2.1 (i + 2)) (q.2.1 (i + 3)) ∧ p.1 < 24
    · rw [if_pos g]
      obtain ⟨a, ha, ea⟩ := zIn_of (by omega) g.1.2.1
      obtain ⟨y, hy, hy0, ey⟩ := y60_of g.1.1
      refine ⟨sgOk_push pS g.2 ?_ (fun e => absurd e ?_) (fun _ => ?_), Nat.le_succ _⟩
      · rw [ey, nI_clamp (by omega)]; exact hy
      · rw [ey, nI_clamp (by omega)]; exact hy0
      · rw [ea, nI_clamp (by omega)]; exact ha
    · rw [if_neg g]; exact ⟨pS, Nat.le_refl _⟩
  have K' : ∀ b : Bool, k = -1 ∨ ∃ K, K ≤ (zSeeP T p (q.2.1 (i + 1)) (q.2.1 (i + 2)) (q.2.1 (i + 3)) b).1 ∧ k = nI K := by
    intro b
    rcases pK with h | ⟨K, h1, h2⟩
    · exact Or.inl h
    · exact Or.inr ⟨K, Nat.le_trans h1 (S' b).2, h2⟩
  by_cases g : (q.2.1 (i + 4)) = 0
  · refine a_aload_n (i := 1) dL_law_1243 rfl rfl ?_
    refine a_aload_n (i := 0) dL_law_1244 rfl rfl ?_
    refine a_iload (i := 4) dL_law_1245 rfl ?_
    refine a_iconst (v := 1) dL_law_1247 (by decide) ?_
    refine a_iadd dL_law_1248 ?_
    refine a_sldN dL_law_1249 hs (nI_add _ 1) (by omega) hL ?_
    refine a_aload_n (i := 0) dL_law_1250 rfl rfl ?_
    refine a_iload (i := 4) dL_law_1251 rfl ?_
    refine a_iconst (v := 2) dL_law_1253 (by decide) ?_
    refine a_iadd dL_law_1254 ?_
    refine a_sldN dL_law_1255 hs (nI_add _ 2) (by omega) hL ?_
    refine a_aload_n (i := 0) dL_law_1256 rfl rfl ?_
    refine a_iload (i := 4) dL_law_1257 rfl ?_
    refine a_iconst (v := 3) dL_law_1259 (by decide) ?_
    refine a_iadd dL_law_1260 ?_
    refine a_sldN dL_law_1261 hs (nI_add _ 3) (by omega) hL ?_
    refine a_aload_n (i := 0) dL_law_1262 rfl rfl ?_
    refine a_iload (i := 4) dL_law_1263 rfl ?_
    refine a_iconst (v := 4) dL_law_1265 (by decide) ?_
    refine a_iadd dL_law_1266 ?_
    refine a_sldN dL_law_1267 hs (nI_add _ 4) (by omega) hL ?_
    refine a_if_eq (tg := 1275) dL_law_1268 (by decide) (fun c_1268 => ?_) (fun c_1268 => ?_)
    · refine a_iconst (v := 0) dL_law_1275 (by decide) ?_
      refine kgL_152 rfl dL_law_1276 (Nat.le_of_ble_eq_true rfl) (isLH_0 hD) (c_X11_see (b := false) hD C.1 C.2.2.1.1 h24) ?_
      rintro v y ⟨rfl, h1, h2, F1⟩
      have C1 := gC_Sn C F1 ⟨h1, h2.trans C.2.2.1.2⟩
      have M1 := gM_hi M (hi_Sn F1)
      refine a_aload_n (i := 2) dL_law_1279 rfl rfl ?_
      refine a_aload_n (i := 0) dL_law_1280 rfl rfl ?_
      refine a_iload (i := 4) dL_law_1281 rfl ?_
      refine a_iconst (v := 1) dL_law_1283 (by decide) ?_
      refine a_iadd dL_law_1284 ?_
      refine a_sldN dL_law_1285 hs (nI_add _ 1) (by omega) hL ?_
      refine a_aload_n (i := 0) dL_law_1286 rfl rfl ?_
      refine a_iload (i := 4) dL_law_1287 rfl ?_
      refine a_iconst (v := 2) dL_law_1289 (by decide) ?_
      refine a_iadd dL_law_1290 ?_
      refine a_sldN dL_law_1291 hs (nI_add _ 2) (by omega) hL ?_
      refine a_aload_n (i := 0) dL_law_1292 rfl rfl ?_
      refine a_iload (i := 4) dL_law_1293 rfl ?_
      refine a_iconst (v := 3) dL_law_1295 (by decide) ?_
      refine a_iadd dL_law_1296 ?_
      refine a_sldN dL_law_1297 hs (nI_add _ 3) (by omega) hL ?_
      refine a_aload_n (i := 0) dL_law_1298 rfl rfl ?_
      refine a_iload (i := 4) dL_law_1299 rfl ?_
      refine a_iconst (v := 4) dL_law_1301 (by decide) ?_
      refine a_iadd dL_law_1302 ?_
      refine a_sldN dL_law_1303 hs (nI_add _ 4) (by omega) hL ?_
      refine a_if_eq (tg := 1311) dL_law_1304 (by decide) (fun c_1304 => ?_) (fun c_1304 => ?_)
      · refine a_iconst (v := 0) dL_law_1311 (by decide) ?_
        refine kgL_156 rfl dL_law_1312 (Nat.le_of_ble_eq_true rfl) (isM_0 hM) (c_X12_see (b := false) hM M1.1.1 M1.2.2.1.1 h24) ?_
        rintro v z ⟨rfl, h3, h4, F2⟩
        have M2 := gM_Sn M1 F2 ⟨h3, h4.trans M1.2.2.1.2⟩
        refine a_icmp_eq (tg := 1618) dL_law_1315 (by decide) (fun c_1315 => ?_) (fun c_1315 => ?_)
        · exact a_loc _ rfl (ih _ ⟨T, W, Z, Y, (zSeeP T p (q.2.1 (i + 1)) (q.2.1 (i + 2)) (q.2.1 (i + 3)) false), k, u, im, f7, f8, t, t2, N, B, gC_lo C1 (lo_Sn F2), M2, ⟨pW, pCo, pB, (S' false).1, K' false, pR, pU, pI, pN, pBB⟩⟩)
        · exact absurd rfl c_1315
      · exact absurd g c_1304
    · exact absurd g c_1268
  · refine a_aload_n (i := 1) dL_law_1243 rfl rfl ?_
    refine a_aload_n (i := 0) dL_law_1244 rfl rfl ?_
    refine a_iload (i := 4) dL_law_1245 rfl ?_
    refine a_iconst (v := 1) dL_law_1247 (by decide) ?_
    refine a_iadd dL_law_1248 ?_
    refine a_sldN dL_law_1249 hs (nI_add _ 1) (by omega) hL ?_
    refine a_aload_n (i := 0) dL_law_1250 rfl rfl ?_
    refine a_iload (i := 4) dL_law_1251 rfl ?_
    refine a_iconst (v := 2) dL_law_1253 (by decide) ?_
    refine a_iadd dL_law_1254 ?_
    refine a_sldN dL_law_1255 hs (nI_add _ 2) (by omega) hL ?_
    refine a_aload_n (i := 0) dL_law_1256 rfl rfl ?_
    refine a_iload (i := 4) dL_law_1257 rfl ?_
    refine a_iconst (v := 3) dL_law_1259 (by decide) ?_
    refine a_iadd dL_law_1260 ?_
    refine a_sldN dL_law_1261 hs (nI_add _ 3) (by omega) hL ?_
    refine a_aload_n (i := 0) dL_law_1262 rfl rfl ?_
    refine a_iload (i := 4) dL_law_1263 rfl ?_
    refine a_iconst (v := 4) dL_law_1265 (by decide) ?_
    refine a_iadd dL_law_1266 ?_
    refine a_sldN dL_law_1267 hs (nI_add _ 4) (by omega) hL ?_
    refine a_if_eq (tg := 1275) dL_law_1268 (by decide) (fun c_1268 => ?_) (fun c_1268 => ?_)
    · exact absurd c_1268 g
    · refine a_iconst (v := 1) dL_law_1271 (by decide) ?_
      refine a_goto (tg := 1276) dL_law_1272 (by decide) ?_
      refine kgL_152 rfl dL_law_1276 (Nat.le_of_ble_eq_true rfl) (isLH_0 hD) (c_X11_see (b := true) hD C.1 C.2.2.1.1 h24) ?_
      rintro v y ⟨rfl, h1, h2, F1⟩
      have C1 := gC_Sn C F1 ⟨h1, h2.trans C.2.2.1.2⟩
      have M1 := gM_hi M (hi_Sn F1)
      refine a_aload_n (i := 2) dL_law_1279 rfl rfl ?_
      refine a_aload_n (i := 0) dL_law_1280 rfl rfl ?_
      refine a_iload (i := 4) dL_law_1281 rfl ?_
      refine a_iconst (v := 1) dL_law_1283 (by decide) ?_
      refine a_iadd dL_law_1284 ?_
      refine a_sldN dL_law_1285 hs (nI_add _ 1) (by omega) hL ?_
      refine a_aload_n (i := 0) dL_law_1286 rfl rfl ?_
      refine a_iload (i := 4) dL_law_1287 rfl ?_
      refine a_iconst (v := 2) dL_law_1289 (by decide) ?_
      refine a_iadd dL_law_1290 ?_
      refine a_sldN dL_law_1291 hs (nI_add _ 2) (by omega) hL ?_
      refine a_aload_n (i := 0) dL_law_1292 rfl rfl ?_
      refine a_iload (i := 4) dL_law_1293 rfl ?_
      refine a_iconst (v := 3) dL_law_1295 (by decide) ?_
      refine a_iadd dL_law_1296 ?_
      refine a_sldN dL_law_1297 hs (nI_add _ 3) (by omega) hL ?_
      refine a_aload_n (i := 0) dL_law_1298 rfl rfl ?_
      refine a_iload (i := 4) dL_law_1299 rfl ?_
      refine a_iconst (v := 4) dL_law_1301 (by decide) ?_
      refine a_iadd dL_law_1302 ?_
      refine a_sldN dL_law_1303 hs (nI_add _ 4) (by omega) hL ?_
      refine a_if_eq (tg := 1311) dL_law_1304 (by decide) (fun c_1304 => ?_) (fun c_1304 => ?_)
      · exact absurd c_1304 g
      · refine a_iconst (v := 1) dL_law_1307 (by decide) ?_
        refine a_goto (tg := 1312) dL_law_1308 (by decide) ?_
        refine kgL_156 rfl dL_law_1312 (Nat.le_of_ble_eq_true rfl) (isM_0 hM) (c_X12_see (b := true) hM M1.1.1 M1.2.2.1.1 h24) ?_
        rintro v z ⟨rfl, h3, h4, F2⟩
        have M2 := gM_Sn M1 F2 ⟨h3, h4.trans M1.2.2.1.2⟩
        refine a_icmp_eq (tg := 1618) dL_law_1315 (by decide) (fun c_1315 => ?_) (fun c_1315 => ?_)
        · exact a_loc _ rfl (ih _ ⟨T, W, Z, Y, (zSeeP T p (q.2.1 (i + 1)) (q.2.1 (i + 2)) (q.2.1 (i + 3)) true), k, u, im, f7, f8, t, t2, N, B, gC_lo C1 (lo_Sn F2), M2, ⟨pW, pCo, pB, (S' true).1, K' true, pR, pU, pI, pN, pBB⟩⟩)
        · exact absurd rfl c_1315
set_option maxHeartbeats 4000000 in
set_option maxRecDepth 100000 in
theorem lw_go (hD : aDC D) (hM : D 12 = true) (hs : scr = some q) (hL : q.1 < 2147483648) (hi : i + 6 ≤ q.1) (J : gJ x) (ih : ∀ z, gJ z → aV l mL_law 13 D scr 1618 (lwV i) [] z Q) : aV l mL_law 13 D scr 720 (lwV i) [] x Q := by
  obtain ⟨T, W, Z, Y, p, k, u, im, f7, f8, t, t2, N, B, C, M, P⟩ := J
  obtain ⟨pW, pCo, pB, pS, pK, pR, pU, pI, pN, pBB⟩ := id P
  have hZ := C.1.2.2.2.1
  have ok := C.1.2.2.1
  have P' : zGo Z (q.2.1 (i + 1)) → gPu T (zYears T W 6 (q.2.1 (i + 1)).toNatClampNeg Z) Y p k (if 0 < (q.2.1 (i + 1)) then (0, u.2) else u) im N B := by
    intro g
    obtain ⟨n, hn, en⟩ := zIn_of (by decide) g.1
    refine ⟨(zWb_years ok pB hZ pW).2, zCo_years pCo, pB, pS, pK, ?_, ?_, pI, pN, pBB⟩
    · by_cases e : 0 < (q.2.1 (i + 1))
      · rw [if_pos e]; exact uR_0
      · rw [if_neg e]
        have n0 : n = 0 := by
          rw [en] at e
          rcases Nat.eq_zero_or_pos n with h | h
          · exact h
          · exact absurd (nI_lt (a := 0) h (by omega)) e
        rw [en, n0]
        exact pR
    · by_cases e : 0 < (q.2.1 (i + 1))
      · rw [if_pos e]; exact fun j hj => absurd hj (Nat.not_lt_zero j)
      · rw [if_neg e]; exact pU
  have rU1 : ∀ y : aS, cGo x y → y.1 bDn 0 = (if 0 < (q.2.1 (i + 1)) then 0 else x.1 bDn 0) → rU (if 0 < (q.2.1 (i + 1)) then (0, u.2) else u) y := by
    intro y F e0
    by_cases e : 0 < (q.2.1 (i + 1))
    · rw [if_pos e] at e0 ⊢; exact rU_0 e0
    · rw [if_neg e] at e0 ⊢
      have n := nb0
      exact ⟨by rw [e0]; exact C.2.2.2.1.1, fun j hj => by rw [(F (bDn + 2) (by omega) (by omega) (by omega)).1, (F (bDn + 3) (by omega) (by omega) (by omega)).1, (F (bDn + 4) (by omega) (by omega) (by omega)).1, (F (bDn + 5) (by omega) (by omega) (by omega)).1]; exact C.2.2.2.1.2 j hj⟩
  have rU2 : ∀ y z : aS, rUM T u y → mGo y z → z.1 bM 83 = (if 0 < (q.2.1 (i + 1)) then 0 else y.1 bM 83) → rUM T (if 0 < (q.2.1 (i + 1)) then (0, u.2) else u) z := by
    intro y z h F e0
    by_cases e : 0 < (q.2.1 (i + 1))
    · rw [if_pos e] at e0 ⊢; exact rUM_0 e0
    · rw [if_neg e] at e0 ⊢
      exact rUM_o (funext (fun j => F.1 _ _ (nScr (by omega)) (fun g => by unfold mIn at g; omega) (by omega))) e0 h
  by_cases g : zGo Z (q.2.1 (i + 1))
  · refine a_aload_n (i := 1) dL_law_720 rfl rfl ?_
    refine a_aload_n (i := 0) dL_law_721 rfl rfl ?_
    refine a_iload (i := 4) dL_law_722 rfl ?_
    refine a_iconst (v := 1) dL_law_724 (by decide) ?_
    refine a_iadd dL_law_725 ?_
    refine a_sldN dL_law_726 hs (nI_add _ 1) (by omega) hL ?_
    refine kgL_80 rfl dL_law_727 (Nat.le_of_ble_eq_true rfl) (isLH_0 hD) (c_X11_go hD C.1) ?_
    rintro v y ⟨q1, q2⟩
    obtain ⟨rfl, h1, h2, F1⟩ := q2 g
    have C1 := gC_Go C F1 h1 (rU1 y F1 h2)
    have M1 := gM_hi M (hi_Go F1)
    refine a_aload_n (i := 2) dL_law_730 rfl rfl ?_
    refine a_aload_n (i := 0) dL_law_731 rfl rfl ?_
    refine a_iload (i := 4) dL_law_732 rfl ?_
    refine a_iconst (v := 1) dL_law_734 (by decide) ?_
    refine a_iadd dL_law_735 ?_
    refine a_sldN dL_law_736 hs (nI_add _ 1) (by omega) hL ?_
    refine kgL_83 rfl dL_law_737 (Nat.le_of_ble_eq_true rfl) (isM_0 hM) (c_X12_go hM M1.1) ?_
    rintro v z ⟨q1, q2⟩
    obtain ⟨rfl, h3, h4, F2⟩ := q2 g
    have M2 := gM_Go M1 F2 h3 (rU2 y z M1.2.2.2.1 F2 h4)
    refine a_icmp_eq (tg := 1618) dL_law_740 (by decide) (fun c_740 => ?_) (fun c_740 => ?_)
    · exact a_loc _ rfl (ih _ ⟨T, W, (zYears T W 6 (q.2.1 (i + 1)).toNatClampNeg Z), Y, p, k, (if 0 < (q.2.1 (i + 1)) then (0, u.2) else u), im, f7, f8, t, t2, N, B, gC_lo C1 (lo_Go F2), M2, P' g⟩)
    · exact absurd rfl c_740
  · refine a_aload_n (i := 1) dL_law_720 rfl rfl ?_
    refine a_aload_n (i := 0) dL_law_721 rfl rfl ?_
    refine a_iload (i := 4) dL_law_722 rfl ?_
    refine a_iconst (v := 1) dL_law_724 (by decide) ?_
    refine a_iadd dL_law_725 ?_
    refine a_sldN dL_law_726 hs (nI_add _ 1) (by omega) hL ?_
    refine kgL_80 rfl dL_law_727 (Nat.le_of_ble_eq_true rfl) (isLH_0 hD) (c_X11_go hD C.1) ?_
    rintro v y ⟨q1, q2⟩
    obtain ⟨rfl, rfl⟩ := q1 g
    refine a_aload_n (i := 2) dL_law_730 rfl rfl ?_
    refine a_aload_n (i := 0) dL_law_731 rfl rfl ?_
    refine a_iload (i := 4) dL_law_732 rfl ?_
    refine a_iconst (v := 1) dL_law_734 (by decide) ?_
    refine a_iadd dL_law_735 ?_
    refine a_sldN dL_law_736 hs (nI_add _ 1) (by omega) hL ?_
    refine kgL_83 rfl dL_law_737 (Nat.le_of_ble_eq_true rfl) (isM_0 hM) (c_X12_go hM M.1) ?_
    rintro v z ⟨q1, q2⟩
    obtain ⟨rfl, F2⟩ := q1 g
    refine a_icmp_eq (tg := 1618) dL_law_740 (by decide) (fun c_740 => ?_) (fun c_740 => ?_)
    · exact a_loc _ rfl (ih _ ⟨T, W, Z, Y, p, k, u, im, f7, f8, t, t2, N, B, gC_lo C (lo_F F2), gM_F M F2, P⟩)
    · exact absurd rfl c_740
set_option maxHeartbeats 4000000 in
set_option maxRecDepth 100000 in
theorem lw_feed (hD : aDC D) (hM : D 12 = true) (hs : scr = some q) (hL : q.1 < 2147483648) (hi : i + 6 ≤ q.1) (J : gJ x) (ih : ∀ z, gJ z → aV l mL_law 13 D scr 1618 (lwV i) [] z Q) : aV l mL_law 13 D scr 220 (lwV i) [] x Q := by
  obtain ⟨T, W, Z, Y, p, k, u, im, f7, f8, t, t2, N, B, C, M, P⟩ := J
  obtain ⟨pW, pCo, pB, pS, pK, pR, pU, pI, pN, pBB⟩ := id P
  have hZ := C.1.2.2.2.1
  have ok := C.1.2.2.1
  by_cases g : N + 20 ≤ 700
  · refine a_aload_n (i := 1) dL_law_220 rfl rfl ?_
    refine a_aload_n (i := 0) dL_law_221 rfl rfl ?_
    refine a_iload (i := 4) dL_law_222 rfl ?_
    refine a_iconst (v := 1) dL_law_224 (by decide) ?_
    refine a_iadd dL_law_225 ?_
    refine a_sldN dL_law_226 hs (nI_add _ 1) (by omega) hL ?_
    refine a_aload_n (i := 0) dL_law_227 rfl rfl ?_
    refine a_iload (i := 4) dL_law_228 rfl ?_
    refine a_iconst (v := 2) dL_law_230 (by decide) ?_
    refine a_iadd dL_law_231 ?_
    refine a_sldN dL_law_232 hs (nI_add _ 2) (by omega) hL ?_
    refine a_aload_n (i := 0) dL_law_233 rfl rfl ?_
    refine a_iload (i := 4) dL_law_234 rfl ?_
    refine a_iconst (v := 3) dL_law_236 (by decide) ?_
    refine a_iadd dL_law_237 ?_
    refine a_sldN dL_law_238 hs (nI_add _ 3) (by omega) hL ?_
    refine a_aload_n (i := 0) dL_law_239 rfl rfl ?_
    refine a_iload (i := 4) dL_law_240 rfl ?_
    refine a_iconst (v := 4) dL_law_242 (by decide) ?_
    refine a_iadd dL_law_243 ?_
    refine a_sldN dL_law_244 hs (nI_add _ 4) (by omega) hL ?_
    refine a_aload_n (i := 0) dL_law_245 rfl rfl ?_
    refine a_iload (i := 4) dL_law_246 rfl ?_
    refine a_iconst (v := 5) dL_law_248 (by decide) ?_
    refine a_iadd dL_law_249 ?_
    refine a_sldN dL_law_250 hs (nI_add _ 5) (by omega) hL ?_
    refine kgL_21 rfl dL_law_251 (Nat.le_of_ble_eq_true rfl) (isLH_0 hD) (c_X11_feed hD C.2.1.2.1 pN) ?_
    rintro v y ⟨q1, q2⟩
    obtain ⟨rfl, h1, F1⟩ := q2 g
    have C1 : gC T W Z Y p k u im f7 f8 t t2 (N + 20) (fdB N B (q.2.1 (i + 1)) (q.2.1 (i + 2)) (q.2.1 (i + 3)) (q.2.1 (i + 4)) (q.2.1 (i + 5))) y := by
      have n := nb0
      have e : ∀ m, m ≠ bTp → m ≠ bTp + 2 → y.1 m = x.1 m := fun m h2 h3 => funext (fun j => F1.1 m j h3 (fun e => h2 e.1))
      exact ⟨cR_o (fun m h2 => e m (by omega) (by omega)) C.1, ⟨⟨C.2.1.1.1, C.2.1.1.2.1, by rw [e bRd (by omega) (by omega)]; exact C.2.1.1.2.2⟩, h1, by rw [e bRd (by omega) (by omega)]; exact C.2.1.2.2.1, by rw [e bRd (by omega) (by omega)]; exact C.2.1.2.2.2⟩, cS0_f C.2.2.1 (fun m h2 _ => e m (by omega) (by omega)), rU_o (fun m h2 => e m (by omega) (by omega)) C.2.2.2.1, cI0_f C.2.2.2.2 (by rw [e bLH (by omega) (by omega)]) (fun m h2 => e m (by omega) (by omega))⟩
    have M1 := gM_hi M (hi_Tp F1)
    refine a_aload_n (i := 2) dL_law_254 rfl rfl ?_
    refine a_aload_n (i := 0) dL_law_255 rfl rfl ?_
    refine a_iload (i := 4) dL_law_256 rfl ?_
    refine a_iconst (v := 1) dL_law_258 (by decide) ?_
    refine a_iadd dL_law_259 ?_
    refine a_sldN dL_law_260 hs (nI_add _ 1) (by omega) hL ?_
    refine a_aload_n (i := 0) dL_law_261 rfl rfl ?_
    refine a_iload (i := 4) dL_law_262 rfl ?_
    refine a_iconst (v := 2) dL_law_264 (by decide) ?_
    refine a_iadd dL_law_265 ?_
    refine a_sldN dL_law_266 hs (nI_add _ 2) (by omega) hL ?_
    refine a_aload_n (i := 0) dL_law_267 rfl rfl ?_
    refine a_iload (i := 4) dL_law_268 rfl ?_
    refine a_iconst (v := 3) dL_law_270 (by decide) ?_
    refine a_iadd dL_law_271 ?_
    refine a_sldN dL_law_272 hs (nI_add _ 3) (by omega) hL ?_
    refine a_aload_n (i := 0) dL_law_273 rfl rfl ?_
    refine a_iload (i := 4) dL_law_274 rfl ?_
    refine a_iconst (v := 4) dL_law_276 (by decide) ?_
    refine a_iadd dL_law_277 ?_
    refine a_sldN dL_law_278 hs (nI_add _ 4) (by omega) hL ?_
    refine a_aload_n (i := 0) dL_law_279 rfl rfl ?_
    refine a_iload (i := 4) dL_law_280 rfl ?_
    refine a_iconst (v := 5) dL_law_282 (by decide) ?_
    refine a_iadd dL_law_283 ?_
    refine a_sldN dL_law_284 hs (nI_add _ 5) (by omega) hL ?_
    refine kgL_25 rfl dL_law_285 (Nat.le_of_ble_eq_true rfl) (isM_0 hM) (c_X12_feed hM M1.2.1.1 pN) ?_
    rintro v z ⟨q1, q2⟩
    obtain ⟨rfl, h3, F2⟩ := q2 g
    have M2 : gM T W Z Y p k u im f7 f8 (N + 20) (fdB N B (q.2.1 (i + 1)) (q.2.1 (i + 2)) (q.2.1 (i + 3)) (q.2.1 (i + 4)) (q.2.1 (i + 5))) z := by
      have n := nb0
      obtain ⟨a1, a2, a3, a4, a5⟩ := M1
      exact ⟨mQ_o (fun m j h => F2.1 m j (by unfold mKq mIn at h; omega) (by unfold mKq mIn at h; omega)) (by rw [F2.2]) a1, ⟨h3, fun j hj => by rw [F2.1 _ _ (by omega) (by omega)]; exact a2.2.1 j hj, by rw [F2.1 _ _ (by omega) (by omega)]; exact a2.2.2.1, by rw [F2.1 _ _ (by omega) (by omega)]; exact a2.2.2.2⟩, mSe_f a3 (fun m j h => F2.1 _ _ (by omega) (by omega)), rUM_f a4 (fun m j h => F2.1 _ _ (by omega) (by omega)), mI0_f a5 (F2.1 _ _ (by omega) (by omega)) (fun m j h => F2.1 _ _ (by omega) (by omega)) (by rw [F2.2])⟩
    refine a_icmp_eq (tg := 1618) dL_law_288 (by decide) (fun c_288 => ?_) (fun c_288 => ?_)
    · exact a_loc _ rfl (ih _ ⟨T, W, Z, Y, p, k, u, im, f7, f8, t, t2, (N + 20), (fdB N B (q.2.1 (i + 1)) (q.2.1 (i + 2)) (q.2.1 (i + 3)) (q.2.1 (i + 4)) (q.2.1 (i + 5))), gC_lo C1 (lo_Tp F2), M2, ⟨pW, pCo, pB, pS, pK, pR, pU, pI, g, fun j _ => fdB_lt pBB j⟩⟩)
    · exact absurd rfl c_288
  · refine a_aload_n (i := 1) dL_law_220 rfl rfl ?_
    refine a_aload_n (i := 0) dL_law_221 rfl rfl ?_
    refine a_iload (i := 4) dL_law_222 rfl ?_
    refine a_iconst (v := 1) dL_law_224 (by decide) ?_
    refine a_iadd dL_law_225 ?_
    refine a_sldN dL_law_226 hs (nI_add _ 1) (by omega) hL ?_
    refine a_aload_n (i := 0) dL_law_227 rfl rfl ?_
    refine a_iload (i := 4) dL_law_228 rfl ?_
    refine a_iconst (v := 2) dL_law_230 (by decide) ?_
    refine a_iadd dL_law_231 ?_
    refine a_sldN dL_law_232 hs (nI_add _ 2) (by omega) hL ?_
    refine a_aload_n (i := 0) dL_law_233 rfl rfl ?_
    refine a_iload (i := 4) dL_law_234 rfl ?_
    refine a_iconst (v := 3) dL_law_236 (by decide) ?_
    refine a_iadd dL_law_237 ?_
    refine a_sldN dL_law_238 hs (nI_add _ 3) (by omega) hL ?_
    refine a_aload_n (i := 0) dL_law_239 rfl rfl ?_
    refine a_iload (i := 4) dL_law_240 rfl ?_
    refine a_iconst (v := 4) dL_law_242 (by decide) ?_
    refine a_iadd dL_law_243 ?_
    refine a_sldN dL_law_244 hs (nI_add _ 4) (by omega) hL ?_
    refine a_aload_n (i := 0) dL_law_245 rfl rfl ?_
    refine a_iload (i := 4) dL_law_246 rfl ?_
    refine a_iconst (v := 5) dL_law_248 (by decide) ?_
    refine a_iadd dL_law_249 ?_
    refine a_sldN dL_law_250 hs (nI_add _ 5) (by omega) hL ?_
    refine kgL_21 rfl dL_law_251 (Nat.le_of_ble_eq_true rfl) (isLH_0 hD) (c_X11_feed hD C.2.1.2.1 pN) ?_
    rintro v y ⟨q1, q2⟩
    obtain ⟨rfl, rfl⟩ := q1 g
    refine a_aload_n (i := 2) dL_law_254 rfl rfl ?_
    refine a_aload_n (i := 0) dL_law_255 rfl rfl ?_
    refine a_iload (i := 4) dL_law_256 rfl ?_
    refine a_iconst (v := 1) dL_law_258 (by decide) ?_
    refine a_iadd dL_law_259 ?_
    refine a_sldN dL_law_260 hs (nI_add _ 1) (by omega) hL ?_
    refine a_aload_n (i := 0) dL_law_261 rfl rfl ?_
    refine a_iload (i := 4) dL_law_262 rfl ?_
    refine a_iconst (v := 2) dL_law_264 (by decide) ?_
    refine a_iadd dL_law_265 ?_
    refine a_sldN dL_law_266 hs (nI_add _ 2) (by omega) hL ?_
    refine a_aload_n (i := 0) dL_law_267 rfl rfl ?_
    refine a_iload (i := 4) dL_law_268 rfl ?_
    refine a_iconst (v := 3) dL_law_270 (by decide) ?_
    refine a_iadd dL_law_271 ?_
    refine a_sldN dL_law_272 hs (nI_add _ 3) (by omega) hL ?_
    refine a_aload_n (i := 0) dL_law_273 rfl rfl ?_
    refine a_iload (i := 4) dL_law_274 rfl ?_
    refine a_iconst (v := 4) dL_law_276 (by decide) ?_
    refine a_iadd dL_law_277 ?_
    refine a_sldN dL_law_278 hs (nI_add _ 4) (by omega) hL ?_
    refine a_aload_n (i := 0) dL_law_279 rfl rfl ?_
    refine a_iload (i := 4) dL_law_280 rfl ?_
    refine a_iconst (v := 5) dL_law_282 (by decide) ?_
    refine a_iadd dL_law_283 ?_
    refine a_sldN dL_law_284 hs (nI_add _ 5) (by omega) hL ?_
    refine kgL_25 rfl dL_law_285 (Nat.le_of_ble_eq_true rfl) (isM_0 hM) (c_X12_feed hM M.2.1.1 pN) ?_
    rintro v z ⟨q1, q2⟩
    obtain ⟨rfl, rfl⟩ := q1 g
    refine a_icmp_eq (tg := 1618) dL_law_288 (by decide) (fun c_288 => ?_) (fun c_288 => ?_)
    · exact a_loc _ rfl (ih _ ⟨T, W, Z, Y, p, k, u, im, f7, f8, t, t2, N, B, gC_lo C (lo_F mF_0), gM_F M mF_0, P⟩)
    · exact absurd rfl c_288
end qBP
