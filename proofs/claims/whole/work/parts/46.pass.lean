/-! LastHouse$Years: weddings, wear, damp, pass -/
theorem isWe' {D : Nat → Bool} {t i : Nat} (hD : aDC D) (ht : aTdB t) (hi : i < 6) : aIs D (t + 14 + 106 + i) 9 0 := isWe hD ht hi
/-- a wedding -/
def zWed (T : zT) (i : Nat) (Z : zS) : zS :=
  if T.2.1 7 i = Z.1 0 0 then
    (if (Z.2 0 0).testBit (T.2.2 5 i) = false ∧ (Z.2 0 0).testBit (T.2.2 6 i) = false ∧ Z.2 3 (T.2.2 5 i) ≠ Z.2 3 (T.2.2 6 i) then zMarry Z (T.2.2 5 i) (T.2.2 6 i) else zRef Z)
  else Z
def zWeds (T : zT) (Z : zS) : zS := lp (zWed T) 0 (T.1 3) Z
set_option maxHeartbeats 4000000 in
set_option maxRecDepth 100000 in
theorem c_X10_holdWeddings {l : Launch} {d : Nat} {D : Nat → Bool} {T : zT} {Z : zS} {t b : Nat} {x : aS} (hD : aDC D) (hb : aStB b) (ht : aTdB t) (ok : zTok T) (hZ : zOk T Z) (hT : rT T x t) (hS : rS T Z x b) : aCt l mX10_holdWeddings (d + 3) D [.ref bYr, .ref t, .ref b] x (fun v y => v = none ∧ rS T (zWeds T Z) y b ∧ zOk T (zWeds T Z) ∧ aFy b x y) := by
  have L : ∀ (k i : Nat), i + k = T.1 3 → ∀ (Z : zS) (y : aS), zOk T Z → rS T Z y b → aFy b x y → aV l mX10_holdWeddings (d + 3) D none 2 [(0, .ref bYr), (1, .ref t), (2, .ref b), (3, .int (nI i))] [] y (fun v y => v = none ∧ rS T (lp (zWed T) i k Z) y b ∧ zOk T (lp (zWed T) i k Z) ∧ aFy b x y) := by
    intro k
    induction k with
    | zero =>
      intro i hi Z y hZ hS hF
      rw [Nat.add_zero] at hi
      have hTy := rT_same (aFy_T hb ht hF) ok hT
      have h12 : y.1 t 12 = nI i := by rw [hi]; exact hTy.2.2.2.1
      refine a_iload_n (i := 3) dX10_holdWeddings_2 rfl rfl ?_
      refine a_aload_n (i := 1) dX10_holdWeddings_3 rfl rfl ?_
      refine gX10_94 rfl dX10_holdWeddings_4 (isT_0 hD ht) ?_
      rw [h12]
      refine a_icmp_ge (tg := 63) dX10_holdWeddings_7 (by decide) (fun c_7 => ?_) (fun c_7 => ?_)
      · exact a_vret dX10_holdWeddings_63 (by exact ⟨rfl, hS, hZ, hF⟩)
      · exact absurd (Int32.le_refl _) c_7
    | succ k ih =>
      intro i hi Z y hZ hS hF
      have hTy := rT_same (aFy_T hb ht hF) ok hT
      have hi2 : i < T.1 3 := by omega
      have h6 := ok.2.2.2.1
      have hi6 : i < 6 := by omega
      have h8 := ok.2.1
      have h06 := ok.1
      have h12 : y.1 t 12 = nI (T.1 3) := hTy.2.2.2.1
      obtain ⟨e0, e1, e2⟩ := hTy.2.2.2.2.2.2.2.2.2.2.2.2.1 i hi2
      obtain ⟨o1, o2⟩ := ok.2.2.2.2.2.2.2.2.2 i hi2
      have ey : y.1 b 0 = Z.1 0 0 := hS.1 0 (by decide)
      have nx : ∀ (Z' : zS) (y' : aS), zWed T i Z = Z' → zOk T Z' → rS T Z' y' b → aFy b x y' → aV l mX10_holdWeddings (d + 3) D none 57 [(0, .ref bYr), (1, .ref t), (2, .ref b), (3, .int (nI i))] [] y' (fun v y => v = none ∧ rS T (lp (zWed T) i (k + 1) Z) y b ∧ zOk T (lp (zWed T) i (k + 1) Z) ∧ aFy b x y) := by
        intro Z' y' ez hz' hs' hf'
        show aV l mX10_holdWeddings (d + 3) D none 57 _ [] y' (fun v y => v = none ∧ rS T (lp (zWed T) (i + 1) k (zWed T i Z)) y b ∧ zOk T (lp (zWed T) (i + 1) k (zWed T i Z)) ∧ aFy b x y)
        rw [ez]
        refine a_iincK (i := 3) (u := 1) dX10_holdWeddings_57 rfl (by decide) (by decide) ?_
        refine a_goto (tg := 2) dX10_holdWeddings_60 (by decide) ?_
        rw [nI_1]; exact a_loc _ rfl (ih (i + 1) (by omega) Z' y' hz' hs' hf')
      by_cases hy : T.2.1 7 i = Z.1 0 0
      · have g1 := hZ.2.2 _ o1
        have g2 := hZ.2.2 _ o2
        have hc1 := c_X6_marry (l := l) (d := d) (D := D) hD hb (show T.2.2 5 i < 8 by omega) (show T.2.2 6 i < 8 by omega) (show Z.2 3 (T.2.2 5 i) < 6 by omega) (show Z.2 3 (T.2.2 6 i) < 6 by omega) (hS.2.2.2 _ o1).1 (hS.2.2.2 _ o2).1
        have hw : y.1 b 3 = nI (Z.2 0 0) := hS.2.1
        rw [hw] at hc1
        by_cases hm : (Z.2 0 0).testBit (T.2.2 5 i) = false ∧ (Z.2 0 0).testBit (T.2.2 6 i) = false ∧ Z.2 3 (T.2.2 5 i) ≠ Z.2 3 (T.2.2 6 i)
        · have ed : zWed T i Z = zMarry Z (T.2.2 5 i) (T.2.2 6 i) := by rw [zWed, if_pos hy, if_pos hm]
          have hc : nI (Z.2 0 0) &&& sCouple (T.2.2 5 i) (T.2.2 6 i) = 0 ∧ Z.2 3 (T.2.2 5 i) ≠ Z.2 3 (T.2.2 6 i) := ⟨(cp_zero _ hZ.1 _ (by omega) _ (by omega)).mpr ⟨hm.1, hm.2.1⟩, hm.2.2⟩
          rw [if_pos hc, if_pos hc] at hc1
          refine a_iload_n (i := 3) dX10_holdWeddings_2 rfl rfl ?_
          refine a_aload_n (i := 1) dX10_holdWeddings_3 rfl rfl ?_
          refine gX10_94 rfl dX10_holdWeddings_4 (isT_0 hD ht) ?_
          rw [h12]
          refine a_icmp_ge (tg := 63) dX10_holdWeddings_7 (by decide) (fun c_7 => ?_) (fun c_7 => ?_)
          · exact absurd c_7 (nI_ge hi2 (by omega))
          · refine a_aload_n (i := 1) dX10_holdWeddings_10 rfl rfl ?_
            refine gX10_97 rfl dX10_holdWeddings_11 (isT_0 hD ht) ?_
            refine a_iload_n (i := 3) dX10_holdWeddings_14 rfl rfl ?_
            refine a_awedN dX10_holdWeddings_15 (isT_14 hD ht) (by first | with_reducible exact rfl | with_reducible exact ix8 _ _ | with_reducible exact ix12 _ _ | exact rfl) (by exact hi6) (by decide) ?_
            refine a_astore (i := 4) dX10_holdWeddings_16 (by decide) ?_
            refine a_aload (i := 4) dX10_holdWeddings_18 rfl ?_
            refine gX10_101 rfl dX10_holdWeddings_20 (isWe hD ht hi6) ?_
            rw [e2]
            refine a_aload_n (i := 2) dX10_holdWeddings_23 rfl rfl ?_
            refine gX10_46 rfl dX10_holdWeddings_24 (isS_0 hD hb) ?_
            rw [ey]
            refine a_icmp_ne (tg := 57) dX10_holdWeddings_27 (by decide) (fun c_27 => ?_) (fun c_27 => ?_)
            · exact absurd hy c_27
            · refine a_aload_n (i := 2) dX10_holdWeddings_30 rfl rfl ?_
              refine a_aload (i := 4) dX10_holdWeddings_31 rfl ?_
              refine gX10_104 rfl dX10_holdWeddings_33 (isWe hD ht hi6) ?_
              rw [e0]
              refine a_aload (i := 4) dX10_holdWeddings_36 rfl ?_
              refine gX10_107 rfl dX10_holdWeddings_38 (isWe hD ht hi6) ?_
              rw [e1]
              refine kX10_110 rfl dX10_holdWeddings_41 (Nat.le_of_ble_eq_true rfl) (isS_0 hD hb) (hc1) ?_
              refine a_if_ne (tg := 57) dX10_holdWeddings_44 (by decide) (fun c_44 => ?_) (fun c_44 => ?_)
              · exact a_loc _ rfl (nx _ _ ed (zOk_marry ok hZ o1 o2) (rS_marry ok hZ hS o1 o2 hm.2.2) (aFy_t hF (aFy_marry hb)))
              · exact absurd c_44 (by decide)
        · have ed : zWed T i Z = zRef Z := by rw [zWed, if_pos hy, if_neg hm]
          have hc : ¬ (nI (Z.2 0 0) &&& sCouple (T.2.2 5 i) (T.2.2 6 i) = 0 ∧ Z.2 3 (T.2.2 5 i) ≠ Z.2 3 (T.2.2 6 i)) := fun h => hm ⟨((cp_zero _ hZ.1 _ (by omega) _ (by omega)).mp h.1).1, ((cp_zero _ hZ.1 _ (by omega) _ (by omega)).mp h.1).2, h.2⟩
          rw [if_neg hc, if_neg hc] at hc1
          refine a_iload_n (i := 3) dX10_holdWeddings_2 rfl rfl ?_
          refine a_aload_n (i := 1) dX10_holdWeddings_3 rfl rfl ?_
          refine gX10_94 rfl dX10_holdWeddings_4 (isT_0 hD ht) ?_
          rw [h12]
          refine a_icmp_ge (tg := 63) dX10_holdWeddings_7 (by decide) (fun c_7 => ?_) (fun c_7 => ?_)
          · exact absurd c_7 (nI_ge hi2 (by omega))
          · refine a_aload_n (i := 1) dX10_holdWeddings_10 rfl rfl ?_
            refine gX10_97 rfl dX10_holdWeddings_11 (isT_0 hD ht) ?_
            refine a_iload_n (i := 3) dX10_holdWeddings_14 rfl rfl ?_
            refine a_awedN dX10_holdWeddings_15 (isT_14 hD ht) (by first | with_reducible exact rfl | with_reducible exact ix8 _ _ | with_reducible exact ix12 _ _ | exact rfl) (by exact hi6) (by decide) ?_
            refine a_astore (i := 4) dX10_holdWeddings_16 (by decide) ?_
            refine a_aload (i := 4) dX10_holdWeddings_18 rfl ?_
            refine gX10_101 rfl dX10_holdWeddings_20 (isWe hD ht hi6) ?_
            rw [e2]
            refine a_aload_n (i := 2) dX10_holdWeddings_23 rfl rfl ?_
            refine gX10_46 rfl dX10_holdWeddings_24 (isS_0 hD hb) ?_
            rw [ey]
            refine a_icmp_ne (tg := 57) dX10_holdWeddings_27 (by decide) (fun c_27 => ?_) (fun c_27 => ?_)
            · exact absurd hy c_27
            · refine a_aload_n (i := 2) dX10_holdWeddings_30 rfl rfl ?_
              refine a_aload (i := 4) dX10_holdWeddings_31 rfl ?_
              refine gX10_104 rfl dX10_holdWeddings_33 (isWe hD ht hi6) ?_
              rw [e0]
              refine a_aload (i := 4) dX10_holdWeddings_36 rfl ?_
              refine gX10_107 rfl dX10_holdWeddings_38 (isWe hD ht hi6) ?_
              rw [e1]
              refine kX10_110 rfl dX10_holdWeddings_41 (Nat.le_of_ble_eq_true rfl) (isS_0 hD hb) (hc1) ?_
              refine a_if_ne (tg := 57) dX10_holdWeddings_44 (by decide) (fun c_44 => ?_) (fun c_44 => ?_)
              · exact absurd rfl c_44
              · refine a_aload_n (i := 2) dX10_holdWeddings_47 rfl rfl ?_
                refine a_dup dX10_holdWeddings_48 rfl ?_
                refine gX10_91 rfl dX10_holdWeddings_49 (isS_0 hD hb) ?_
                rw [hS.1 1 (by decide)]
                refine a_iconst (v := 1) dX10_holdWeddings_52 (by decide) ?_
                refine a_iadd dX10_holdWeddings_53 ?_
                refine pX10_91 rfl dX10_holdWeddings_54 (isS_0 hD hb) ?_
                exact a_loc _ rfl (nx _ _ ed (zOk_ui hZ) (rS_w0 (by decide) hS) (aFy_t hF (aFy_w rfl)))
      · have ed : zWed T i Z = Z := by rw [zWed, if_neg hy]
        refine a_iload_n (i := 3) dX10_holdWeddings_2 rfl rfl ?_
        refine a_aload_n (i := 1) dX10_holdWeddings_3 rfl rfl ?_
        refine gX10_94 rfl dX10_holdWeddings_4 (isT_0 hD ht) ?_
        rw [h12]
        refine a_icmp_ge (tg := 63) dX10_holdWeddings_7 (by decide) (fun c_7 => ?_) (fun c_7 => ?_)
        · exact absurd c_7 (nI_ge hi2 (by omega))
        · refine a_aload_n (i := 1) dX10_holdWeddings_10 rfl rfl ?_
          refine gX10_97 rfl dX10_holdWeddings_11 (isT_0 hD ht) ?_
          refine a_iload_n (i := 3) dX10_holdWeddings_14 rfl rfl ?_
          refine a_awedN dX10_holdWeddings_15 (isT_14 hD ht) (by first | with_reducible exact rfl | with_reducible exact ix8 _ _ | with_reducible exact ix12 _ _ | exact rfl) (by exact hi6) (by decide) ?_
          refine a_astore (i := 4) dX10_holdWeddings_16 (by decide) ?_
          refine a_aload (i := 4) dX10_holdWeddings_18 rfl ?_
          refine gX10_101 rfl dX10_holdWeddings_20 (isWe hD ht hi6) ?_
          rw [e2]
          refine a_aload_n (i := 2) dX10_holdWeddings_23 rfl rfl ?_
          refine gX10_46 rfl dX10_holdWeddings_24 (isS_0 hD hb) ?_
          rw [ey]
          refine a_icmp_ne (tg := 57) dX10_holdWeddings_27 (by decide) (fun c_27 => ?_) (fun c_27 => ?_)
          · exact a_loc _ rfl (nx _ _ ed hZ hS hF)
          · exact absurd c_27 hy
  refine a_met (by decide) (Nat.le_of_ble_eq_true rfl) (fun v y q => Or.inr (Or.inr (Or.inr ⟨rfl, q.1⟩))) ?_
  refine a_iconst (v := 0) dX10_holdWeddings_0 (by decide) ?_
  refine a_istore_n (i := 3) dX10_holdWeddings_1 rfl (by decide) ?_
  exact a_loc _ rfl (L _ 0 (Nat.zero_add _) Z x hZ hS aFy_r)
/-- what one bears -/
def zBears (T : zT) (W : Nat → zL) (way : Nat) (m : Nat) (Z : zS) : Int32 := if way = 4 then 0 else zCut (vWorth (W 1) (zNmM T Z m)) 999 10
def zMore (T : zT) (W : Nat → zL) (m : Nat) (Z : zS) : Int32 := zCut (vWorth (W 2) (zNmM T Z m)) 9 1
def zCorn (T : zT) (W : Nat → zL) (m : Nat) (Z : zS) : zS := zui (zui Z 4 m (jmin 999 (Z.1 4 m + 1))) 3 m (jmin 60 (Z.1 3 m + zMore T W m Z))
def zWear (T : zT) (W : Nat → zL) (way : Nat) (m : Nat) (Z : zS) : zS :=
  if zPinch T Z m = 0 then Z else if zPinch T Z m ≤ zBears T W way m Z then Z else zCorn T W m Z
theorem rS_corn {T : zT} {Z : zS} {x : aS} {b m : Nat} {v u : Int32} (hS : rS T Z x b) : rS T (zui (zui Z 4 m v) 3 m u) (aWr (aWr x (b + 12) m v) (b + 11) m u) b := by
  obtain ⟨q1, q2, q3, q4⟩ := hS
  refine ⟨fun j hj => ?_, ?_, fun g hg => ?_, fun k hk => ⟨?_, ?_, ?_⟩⟩
  · rw [aWr_n _ _ _ (by omega), aWr_n _ _ _ (by omega), q1 j hj]; simp [zui]
  · rw [aWr_n _ _ _ (by omega), aWr_n _ _ _ (by omega)]; exact q2
  · obtain ⟨a1, a2, a3⟩ := q3 g hg
    refine ⟨fun z hz => ⟨?_, ?_⟩, ?_, fun k hk => ⟨?_, ?_⟩⟩
    · rw [aWr_n _ _ _ (by omega), aWr_n _ _ _ (by omega), (a1 z hz).1]; simp [zui]
    · rw [aWr_n _ _ _ (by omega), aWr_n _ _ _ (by omega), (a1 z hz).2, zLsum_ui (by decide), zLsum_ui (by decide)]
    · rw [aWr_n _ _ _ (by omega), aWr_n _ _ _ (by omega)]; exact a2
    · rw [aWr_n _ _ _ (by omega), aWr_n _ _ _ (by omega)]; exact (a3 k hk).1
    · rw [aWr_n _ _ _ (by omega), aWr_n _ _ _ (by omega), (a3 k hk).2]; simp [zui]
  · rw [aWr_n _ _ _ (by omega), aWr_n _ _ _ (by omega)]; exact (q4 k hk).1
  · by_cases e : k = m
    · subst e; rw [aWr_s]; simp [zui]
    · rw [aWr_j _ _ _ e, aWr_n _ _ _ (by omega), (q4 k hk).2.1]; simp [zui, e]
  · rw [aWr_n _ _ _ (by omega)]
    by_cases e : k = m
    · subst e; rw [aWr_s]; simp [zui]
    · rw [aWr_j _ _ _ e, (q4 k hk).2.2]; simp [zui, e]
theorem aRw_1 (x : aS) (c : Nat) (row : Nat → Int64) : (aRw x c row).1 = x.1 := rfl
theorem aRw_rw (x : aS) (c : Nat) (r s : Nat → Int64) : aRw (aRw x c r) c s = aRw x c s := by
  unfold aRw
  congr 1
  funext a
  by_cases h : a = c <;> simp [h]
set_option maxHeartbeats 4000000 in
set_option maxRecDepth 100000 in
theorem c_X10_wear {l : Launch} {d : Nat} {D : Nat → Bool} {T : zT} {W : Nat → zL} {Z : zS} {t b m way : Nat} {x : aS} (hD : aDC D) (hb : aStB b) (ht : aTdB t) (ok : zTok T) (hZ : zOk T Z) (hT : rT T x t) (hW : rW W x t) (hS : rS T Z x b) (hm : m < T.1 1) (hway : way < 7) : aCt l mX10_wear (d + 3) D [.ref bYr, .ref t, .ref b, .int (nI m), .int (nI way)] x (fun v y => v = none ∧ rS T (zWear T W way m Z) y b ∧ zOk T (zWear T W way m Z) ∧ aFy b x y) := by
  have h8 := ok.2.1
  have h06 := ok.1
  have g1 := hZ.2.2 m hm
  obtain ⟨m0, m1, m2, m3, m4⟩ := hT.2.2.2.2.2.2.2.2.2.2.1 m hm
  have z8 := (ok.2.2.2.2.2.2.2.1 m hm).2
  obtain ⟨f1, f2, f3⟩ := hS.2.2.2 m hm
  have hp : aDI l mX6_pinchOf (d + 2) D [.ref b, .ref t, .int (nI m)] x (zPinch T Z m) x := by
    rw [← sPinch_z hT ok hZ hS hm]
    exact c_X6_pinchOf hD hb ht (by omega) (by omega) f1
  obtain ⟨X, hX⟩ : ∃ X, X = sNm x 0 (nI (T.2.2 1 m)) (sLast x b (Z.2 3 m) (T.2.2 1 m)) (zPinch T Z m) (x.1 (b + 12) m) (x.1 (b + 7) (Z.2 3 m)) (x.1 b 0) := ⟨_, rfl⟩
  have hX1 : ∀ n, n ≠ bYr + 1 → X.1 n = x.1 n := fun n hn => by rw [hX]; exact sNm_n hn
  have hX2 : X.2 = x.2 := by rw [hX]; rfl
  have hnm : ∀ j, j < 7 → X.1 (bYr + 1) j = zNmM T Z m j := by
    rw [hX]
    refine sNm_at rfl rfl ?_ rfl ?_ ?_ ?_
    · rw [sLast_z hS g1 z8]; rfl
    · rw [f3]; rfl
    · rw [(hS.2.2.1 _ g1).2.1]; rfl
    · rw [hS.1 0 (by decide)]; rfl
  have hnc := c_X10_nameMan (l := l) (d := d + 1) (D := D) (p := zPinch T Z m) hD hb ht (show m < 8 by omega) m3 z8 f1 (show Z.2 3 m < 6 by omega)
  rw [← hX] at hnc
  obtain ⟨v1, v2, v3⟩ := hW 1 (by decide)
  obtain ⟨w1, w2, w3⟩ := hW 2 (by decide)
  have hs1 : X.1 (t + 131) 1 = nI (W 1).1 := by rw [hX1 _ (yt_ne ht (by decide))]; exact v1
  have hs2 : X.1 (t + 132) 1 = nI (W 2).1 := by rw [hX1 _ (yt_ne ht (by decide))]; exact w1
  have hv1 : ∀ row, wWorth (aRw X (bYr + 2) row) (t + 131) (W 1).1 = vWorth (W 1) (zNmM T Z m) := fun row => vWorth_of (x := aRw X (bYr + 2) row) (fun j hj => by rw [aRw_1, hX1 _ (by rw [Nat.add_assoc]; exact yt_ne ht (by decide)), hX1 _ (by rw [Nat.add_assoc]; exact yt_ne ht (by decide))]; exact v3 j hj) hnm
  have hv2 : ∀ row, wWorth (aRw X (bYr + 2) row) (t + 132) (W 2).1 = vWorth (W 2) (zNmM T Z m) := fun row => vWorth_of (x := aRw X (bYr + 2) row) (fun j hj => by rw [aRw_1, hX1 _ (by rw [Nat.add_assoc]; exact yt_ne ht (by decide)), hX1 _ (by rw [Nat.add_assoc]; exact yt_ne ht (by decide))]; exact w3 j hj) hnm
  have hXs : ∀ row, aSq x (aRw X (bYr + 2) row) := fun row => by rw [hX]; exact aSq_nm
  have sR : ∀ row, rS T Z (aRw X (bYr + 2) row) b := fun row => rS_same (aSq_S hb (hXs row)) hS
  -- the corn
  have C : ∀ row, ¬ zPinch T Z m = 0 → ¬ zPinch T Z m ≤ zBears T W way m Z → aV l mX10_wear (d + 3) D none 65 [(0, .ref bYr), (1, .ref t), (2, .ref b), (3, .int (nI m))] [] (aRw X (bYr + 2) row) (fun v y => v = none ∧ rS T (zWear T W way m Z) y b ∧ zOk T (zWear T W way m Z) ∧ aFy b x y) := by
    intro row c1 c2
    have ed : zWear T W way m Z = zCorn T W m Z := by rw [zWear, if_neg c1, if_neg c2]
    rw [ed]
    have hwc := c_X2_worth (l := l) (d := d + 1) (D := D) (x := aRw X (bYr + 2) row) hD (isW_2 hD ht) (isW10_2 hD ht) (isW20_2 hD ht) hs2 w2
    rw [hv2 row] at hwc
    refine a_aload_n (i := 1) dX10_wear_65 rfl rfl ?_
    refine gX10_131 rfl dX10_wear_66 (isT_0 hD ht) ?_
    refine a_aload_n (i := 0) dX10_wear_69 rfl rfl ?_
    refine gX10_9 rfl dX10_wear_70 (isYr_0 hD) ?_
    refine a_aload_n (i := 0) dX10_wear_73 rfl rfl ?_
    refine gX10_15 rfl dX10_wear_74 (isYr_0 hD) ?_
    refine kgX10_125 rfl dX10_wear_77 (Nat.le_of_ble_eq_true rfl) (isW_2 hD ht) (hwc) ?_
    rintro v y ⟨rfl, row2, rfl⟩
    rw [aRw_rw]
    refine a_bipush (v := 9) dX10_wear_80 (by decide) ?_
    refine a_iconst (v := 1) dX10_wear_82 (by decide) ?_
    refine kX10_73 rfl dX10_wear_83 (Nat.le_of_ble_eq_true rfl) (c_X10_cut) ?_
    refine a_istore (i := 7) dX10_wear_86 (by decide) ?_
    refine a_aload_n (i := 2) dX10_wear_88 rfl rfl ?_
    refine gX10_134 rfl dX10_wear_89 (isS_0 hD hb) ?_
    refine a_iload_n (i := 3) dX10_wear_92 rfl rfl ?_
    refine a_sipush (v := 999) dX10_wear_93 (by decide) ?_
    refine a_aload_n (i := 2) dX10_wear_96 rfl rfl ?_
    refine gX10_134 rfl dX10_wear_97 (isS_0 hD hb) ?_
    refine a_iload_n (i := 3) dX10_wear_100 rfl rfl ?_
    refine a_ialdN dX10_wear_101 (isS_12 hD hb) (by first | with_reducible exact rfl | with_reducible exact ix8 _ _ | with_reducible exact ix12 _ _ | exact rfl) (by omega) (by decide) ?_
    rw [((sR row2).2.2.2 m hm).2.2]
    refine a_iconst (v := 1) dX10_wear_102 (by decide) ?_
    refine a_iadd dX10_wear_103 ?_
    refine kX10_137 rfl dX10_wear_104 (Nat.le_of_ble_eq_true rfl) ?_
    refine a_iastN dX10_wear_107 (isS_12 hD hb) (by first | with_reducible exact rfl | with_reducible exact ix8 _ _ | with_reducible exact ix12 _ _ | exact rfl) (by omega) (by decide) ?_
    refine a_aload_n (i := 2) dX10_wear_108 rfl rfl ?_
    refine gX10_143 rfl dX10_wear_109 (isS_0 hD hb) ?_
    refine a_iload_n (i := 3) dX10_wear_112 rfl rfl ?_
    refine a_bipush (v := 60) dX10_wear_113 (by decide) ?_
    refine a_aload_n (i := 2) dX10_wear_115 rfl rfl ?_
    refine gX10_143 rfl dX10_wear_116 (isS_0 hD hb) ?_
    refine a_iload_n (i := 3) dX10_wear_119 rfl rfl ?_
    refine a_ialdN dX10_wear_120 (isS_11 hD hb) (by first | with_reducible exact rfl | with_reducible exact ix8 _ _ | with_reducible exact ix12 _ _ | exact rfl) (by omega) (by decide) ?_
    rw [aWr_n _ _ _ (by omega), ((sR row2).2.2.2 m hm).2.1]
    refine a_iload (i := 7) dX10_wear_121 rfl ?_
    refine a_iadd dX10_wear_123 ?_
    refine kX10_137 rfl dX10_wear_124 (Nat.le_of_ble_eq_true rfl) ?_
    refine a_iastN dX10_wear_127 (isS_11 hD hb) (by first | with_reducible exact rfl | with_reducible exact ix8 _ _ | with_reducible exact ix12 _ _ | exact rfl) (by omega) (by decide) ?_
    exact a_vret dX10_wear_128 (by exact ⟨rfl, rS_corn (sR row2), zOk_ui (zOk_ui hZ), aFy_t (aFy_sq (hXs row2)) (aFy_t (aFy_w (bd hb (by decide))) (aFy_w (bd hb (by decide))))⟩)
  -- behind what one bears
  have B : ∀ row, ¬ zPinch T Z m = 0 → aV l mX10_wear (d + 3) D none 56 [(0, .ref bYr), (1, .ref t), (2, .ref b), (3, .int (nI m)), (5, .int (zPinch T Z m))] [.int (zBears T W way m Z)] (aRw X (bYr + 2) row) (fun v y => v = none ∧ rS T (zWear T W way m Z) y b ∧ zOk T (zWear T W way m Z) ∧ aFy b x y) := by
    intro row c1
    refine a_istore (i := 6) dX10_wear_56 (by decide) ?_
    refine a_iload (i := 5) dX10_wear_58 rfl ?_
    refine a_iload (i := 6) dX10_wear_60 rfl ?_
    refine a_icmp_le (tg := 128) dX10_wear_62 (by decide) (fun c_62 => ?_) (fun c_62 => ?_)
    · have ed : zWear T W way m Z = Z := by rw [zWear, if_neg c1, if_pos c_62]
      rw [ed]
      exact a_vret dX10_wear_128 (by exact ⟨rfl, sR row, hZ, aFy_sq (hXs row)⟩)
    · exact a_loc _ rfl (C row c1 c_62)
  refine a_met (by decide) (Nat.le_of_ble_eq_true rfl) (fun v y q => Or.inr (Or.inr (Or.inr ⟨rfl, q.1⟩))) ?_
  have hX0 : aRw X (bYr + 2) (X.2 (bYr + 2)) = X := aRw_self X _
  have hwb := c_X2_worth (l := l) (d := d + 1) (D := D) (x := X) hD (isW_1 hD ht) (isW10_1 hD ht) (isW20_1 hD ht) hs1 v2
  rw [show wWorth X (t + 131) (W 1).1 = vWorth (W 1) (zNmM T Z m) from by have := hv1 (X.2 (bYr + 2)); rwa [hX0] at this] at hwb
  refine a_aload_n (i := 2) dX10_wear_0 rfl rfl ?_
  refine a_aload_n (i := 1) dX10_wear_1 rfl rfl ?_
  refine a_iload_n (i := 3) dX10_wear_2 rfl rfl ?_
  refine kX10_114 rfl dX10_wear_3 (Nat.le_of_ble_eq_true rfl) (isS_0 hD hb) (hp) ?_
  refine a_istore (i := 5) dX10_wear_6 (by decide) ?_
  refine a_iload (i := 5) dX10_wear_8 rfl ?_
  refine a_if_ne (tg := 14) dX10_wear_10 (by decide) (fun c_10 => ?_) (fun c_10 => ?_)
  · refine a_aload_n (i := 0) dX10_wear_14 rfl rfl ?_
    refine a_aload_n (i := 1) dX10_wear_15 rfl rfl ?_
    refine a_aload_n (i := 2) dX10_wear_16 rfl rfl ?_
    refine a_iload_n (i := 3) dX10_wear_17 rfl rfl ?_
    refine a_iload (i := 5) dX10_wear_18 rfl ?_
    refine kX10_118 rfl dX10_wear_20 (Nat.le_of_ble_eq_true rfl) (isYr_0 hD) (hnc) ?_
    refine a_iload (i := 4) dX10_wear_23 rfl ?_
    refine a_iconst (v := 4) dX10_wear_25 (by decide) ?_
    refine a_icmp_ne (tg := 33) dX10_wear_26 (by decide) (fun c_26 => ?_) (fun c_26 => ?_)
    · have w4 : ¬ way = 4 := fun h => c_26 (by rw [h]; rfl)
      refine a_aload_n (i := 1) dX10_wear_33 rfl rfl ?_
      refine gX10_121 rfl dX10_wear_34 (isT_0 hD ht) ?_
      refine a_aload_n (i := 0) dX10_wear_37 rfl rfl ?_
      refine gX10_9 rfl dX10_wear_38 (isYr_0 hD) ?_
      refine a_aload_n (i := 0) dX10_wear_41 rfl rfl ?_
      refine gX10_15 rfl dX10_wear_42 (isYr_0 hD) ?_
      refine kgX10_125 rfl dX10_wear_45 (Nat.le_of_ble_eq_true rfl) (isW_1 hD ht) (hwb) ?_
      rintro v y ⟨rfl, row, rfl⟩
      refine a_sipush (v := 999) dX10_wear_48 (by decide) ?_
      refine a_bipush (v := 10) dX10_wear_51 (by decide) ?_
      refine kX10_73 rfl dX10_wear_53 (Nat.le_of_ble_eq_true rfl) (c_X10_cut) ?_
      first | (have := B (X.2 (bYr + 2)) c_10; rw [hX0, zBears, if_pos w4] at this; exact a_loc _ rfl this) | (have := B row c_10; rw [zBears, if_neg w4] at this; exact a_loc _ rfl this)
    · have w4 : way = 4 := (nI_eq (by omega) (by decide)).mp c_26
      refine a_iconst (v := 0) dX10_wear_29 (by decide) ?_
      refine a_goto (tg := 56) dX10_wear_30 (by decide) ?_
      first | (have := B (X.2 (bYr + 2)) c_10; rw [hX0, zBears, if_pos w4] at this; exact a_loc _ rfl this) | (have := B row c_10; rw [zBears, if_neg w4] at this; exact a_loc _ rfl this)
  · have ed : zWear T W way m Z = Z := by rw [zWear, if_pos c_10]
    rw [ed]
    exact a_vret dX10_wear_13 (by exact ⟨rfl, hS, hZ, aFy_r⟩)
