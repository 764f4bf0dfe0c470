/-! LastHouseModel: pinches, number1, isDamp -/
theorem zCut_nn {v : Int64} {most o : Int32} (hm : 0 ≤ most) (ho : 0 ≤ o) : 0 ≤ zCut v most o := by
  by_cases hv : v = wErr
  · rw [zCut, if_pos hv]; exact ho
  · rw [zCut_b hm hv, zBound]
    by_cases a : v < 0
    · rw [if_pos a]; decide
    · rw [if_neg a]
      by_cases b : most.toInt64 < v
      · rw [if_pos b]; exact hm
      · rw [if_neg b]
        have h1 := Int64.le_iff_toInt_le.mp (l_not_lt.mp b)
        have h0 := Int64.le_iff_toInt_le.mp (l_not_lt.mp a)
        rw [Int32.toInt_toInt64] at h1
        have h2 := Int32.toInt_lt most
        have h3 : (0 : Int64).toInt = 0 := by decide
        rw [h3] at h0
        rw [Int32.le_iff_toInt_le, Int64.toInt_toInt32]
        rw [show ((0 : Int32)).toInt = 0 by decide, Int.bmod_eq_of_le (by omega) (by omega)]
        exact h0
theorem jmin_c {c : Int32} (h : c ≤ 999) : jmin 999 (c + 1) = if 999 ≤ c then 999 else c + 1 := by
  unfold jmin
  have h1 := Int32.le_iff_toInt_le.mp h
  have h0 := Int32.le_toInt c
  have e9 : ((999 : Int32)).toInt = 999 := by decide
  rw [e9] at h1
  have ec : (c + 1).toInt = c.toInt + 1 := by
    rw [Int32.toInt_add, show ((1 : Int32)).toInt = 1 by decide]
    exact Int.bmod_eq_of_le (by omega) (by omega)
  by_cases a : 999 ≤ c
  · have a1 := Int32.le_iff_toInt_le.mp a
    rw [e9] at a1
    rw [if_pos a, if_neg]
    intro g
    have := Int32.lt_iff_toInt_lt.mp g
    rw [ec, e9] at this
    omega
  · rw [if_neg a]
    by_cases b : c + 1 < 999
    · rw [if_pos b]
    · rw [if_neg b]
      have a1 := Int32.lt_iff_toInt_lt.mp (Int32.not_le.mp a)
      have b1 := Int32.le_iff_toInt_le.mp (Int32.not_lt.mp b)
      rw [ec, e9] at b1
      rw [e9] at a1
      exact Int32.toInt_inj.mp (by rw [ec, e9]; omega)
theorem rM_corn {i m : Nat} {T : zT} {Z : zS} {x : aS} {v u : Int32} (hS : rM T Z x i) : rM T (zui (zui Z 4 m v) 3 m u) (aWr (aWr x (bM + 66) (8 * i + m) v) (bM + 65) (8 * i + m) u) i := by
  obtain ⟨q1, q2, q3, q4⟩ := hS
  refine ⟨?_, ?_, fun g hg => ⟨fun z hz => ?_, ?_, fun k hk => ⟨?_, ?_⟩⟩, fun k hk => ⟨?_, ?_, ?_, ?_⟩⟩
  · rw [aWr_n _ _ _ (by omega), aWr_n _ _ _ (by omega), q1]; simp [zui]
  · rw [aWr_n _ _ _ (by omega), aWr_n _ _ _ (by omega), q2]; simp [zui]
  · rw [aWr_n _ _ _ (by omega), aWr_n _ _ _ (by omega), (q3 g hg).1 z hz]; simp [zui]
  · rw [aWr_n _ _ _ (by omega), aWr_n _ _ _ (by omega)]; exact (q3 g hg).2.1
  · rw [aWr_n _ _ _ (by omega), aWr_n _ _ _ (by omega)]; exact ((q3 g hg).2.2 k hk).1
  · rw [aWr_n _ _ _ (by omega), aWr_n _ _ _ (by omega), ((q3 g hg).2.2 k hk).2]; simp [zui]
  · rw [aWr_n _ _ _ (by omega), aWr_n _ _ _ (by omega)]; exact (q4 k hk).1
  · by_cases e : k = m
    · subst e; rw [aWr_s]; simp [zui]
    · rw [aWr_j _ _ _ (by omega), aWr_n _ _ _ (by omega), (q4 k hk).2.1]; simp [zui, e]
  · rw [aWr_n _ _ _ (by omega)]
    by_cases e : k = m
    · subst e; rw [aWr_s]; simp [zui]
    · rw [aWr_j _ _ _ (by omega), (q4 k hk).2.2.1]; simp [zui, e]
  · rw [aWr_n _ _ _ (by omega), aWr_n _ _ _ (by omega)]; exact (q4 k hk).2.2.2
theorem zBears_nn {T : zT} {W : Nat → zL} {way m : Nat} {Z : zS} : 0 ≤ zBears T W way m Z := by
  unfold zBears
  split
  · decide
  · exact zCut_nn (by decide) (by decide)
set_option maxHeartbeats 4000000 in
set_option maxRecDepth 100000 in
theorem c_X12_pinches {l : Launch} {d : Nat} {D : Nat → Bool} {T : zT} {W : Nat → zL} {Z : zS} {i m way : Nat} {x : aS} (hM : D 12 = true) (hi : i < 2) (ok : zTok T) (hZ : zOk T Z) (hT : rTM T x) (hW : rWM W x) (hS : rM T Z x i) (hm : m < T.1 1) (hco : Z.1 4 m ≤ 999) (hw : x.1 bM 74 = bI (decide (way = 4))) : ∃ y, aDV l mX12_pinches (d + 5) D [.ref bM, .int (nI i), .int (nI m)] x y ∧ rM T (zWear T W way m Z) y i ∧ zOk T (zWear T W way m Z) ∧ aFj i x y := by
  have h8 := ok.2.1
  have h6 := ok.1
  have o1 := hZ.2.2 m hm
  have hld := c_X12_layMan (l := l) (d := d) (D := D) hM hi ok hZ hT hS hm
  obtain ⟨X, hX⟩ : ∃ X, X = mNm x (zNmM T Z m 0).toInt64 (zNmM T Z m 1).toInt64 (zNmM T Z m 2).toInt64 (zNmM T Z m 3).toInt64 (zNmM T Z m 4).toInt64 (zNmM T Z m 5).toInt64 (zNmM T Z m 6).toInt64 := ⟨_, rfl⟩
  have hX1 : X.1 = x.1 := by rw [hX]; rfl
  have hnm : ∀ j, j < 7 → X.2 (bM + 57) j = (zNmM T Z m j).toInt64 := by rw [hX]; exact mNm_at rfl rfl rfl rfl rfl rfl rfl
  have hXj : aFj i x X := by rw [hX]; exact aFj_nm
  rw [← hX] at hld
  have hSX : rM T Z X i := rM_1 hX1 hS
  have hTX : rTM T X := rTM_i hXj.1 hT
  obtain ⟨f1, f2, f3, f4⟩ := hSX.2.2.2 m hm
  have hp : aDI l mX12_pinchOf (d + 4) D [.ref bM, .int (nI i), .int (nI m)] X (zPinch T Z m) X := by
    have := c_X12_pinchOf (l := l) (d := d + 1) (D := D) (x := X) hM hi (show m < 8 by omega) (show Z.2 3 m < 6 by omega) f1 (hSX.2.2.1 _ o1).2.1 (hZ.2.1 _ o1).1
    rwa [mPinch_z ok hZ hTX hSX hm] at this
  obtain ⟨Y, hbd, hby⟩ := c_boundZ (l := l) (d := d + 1) (D := D) (W := W) (nm := zNmM T Z m) (q := 1) (w := 10) (most := 999) (x := X) hM (by decide) (rWM_i hXj.1 hW) hnm (by decide)
  -- behind what one bears, at memory V that holds all
  have G : ∀ V : aS, rM T Z V i → aFj i x V → V.2 (bM + 57) = X.2 (bM + 57) → rWM W V → ¬ zPinch T Z m ≤ zBears T W way m Z → ∃ y, aV l mX12_pinches (d + 5) D none 48 [(0, .ref bM), (3, .int (nI (8 * i + m)))] [] V (fun v z => v = none ∧ z = y) ∧ rM T (zWear T W way m Z) y i ∧ zOk T (zWear T W way m Z) ∧ aFj i x y := by
    intro V hSV hFV hV2 hWV hgt
    have hne : ¬ zPinch T Z m = 0 := fun e => hgt (by rw [e]; exact zBears_nn)
    have ed : zWear T W way m Z = zCorn T W m Z := by rw [zWear, if_neg hne, if_neg hgt]
    obtain ⟨U, hbd2, hby2⟩ := c_boundZ (l := l) (d := d + 1) (D := D) (W := W) (nm := zNmM T Z m) (q := 2) (w := 1) (most := 9) (x := V) hM (by decide) hWV (fun j hj => by rw [hV2]; exact hnm j hj) (by decide)
    have hSU : rM T Z U i := rM_by hby2 hSV
    obtain ⟨u1, u2, u3, u4⟩ := hSU.2.2.2 m hm
    have hFU : aFj i x U := aFj_t hFV (aFj_by hby2)
    refine ⟨aWr (aWr U (bM + 66) (8 * i + m) (jmin 999 (Z.1 4 m + 1))) (bM + 65) (8 * i + m) (jmin 60 (Z.1 3 m + zMore T W m Z)), ?_, ?_, ?_, ?_⟩
    · have J : ∀ v : Int32, v = jmin 999 (Z.1 4 m + 1) → aV l mX12_pinches (d + 5) D none 89 [(0, .ref bM), (3, .int (nI (8 * i + m))), (5, .int (zMore T W m Z))] [.int v, .int (nI (8 * i + m)), .ref (bM + 66)] U (fun v z => v = none ∧ z = aWr (aWr U (bM + 66) (8 * i + m) (jmin 999 (Z.1 4 m + 1))) (bM + 65) (8 * i + m) (jmin 60 (Z.1 3 m + zMore T W m Z))) := by
        intro v hv
        subst hv
        refine a_iastN dX12_pinches_89 (isM_66 hM) (by with_reducible exact rfl) (by omega) (by decide) ?_
        refine a_aload_n (i := 0) dX12_pinches_90 rfl rfl ?_
        refine gX12_121 rfl dX12_pinches_91 (isM_0 hM) ?_
        refine a_iload_n (i := 3) dX12_pinches_94 rfl rfl ?_
        refine a_aload_n (i := 0) dX12_pinches_95 rfl rfl ?_
        refine gX12_121 rfl dX12_pinches_96 (isM_0 hM) ?_
        refine a_iload_n (i := 3) dX12_pinches_99 rfl rfl ?_
        refine a_ialdN dX12_pinches_100 (isM_65 hM) (by first | with_reducible exact rfl | with_reducible exact ix8 _ _ | with_reducible exact ix12 _ _ | exact rfl) (by omega) (by decide) ?_
        rw [aWr_n _ _ _ (by omega), u2]
        refine a_iload (i := 5) dX12_pinches_101 rfl ?_
        refine a_iadd dX12_pinches_103 ?_
        refine a_bipush (v := 60) dX12_pinches_104 (by decide) ?_
        refine a_icmp_ge (tg := 121) dX12_pinches_106 (by decide) (fun c_106 => ?_) (fun c_106 => ?_)
        · have e6 : jmin 60 (Z.1 3 m + zMore T W m Z) = 60 := if_neg (Int32.not_lt.mpr c_106)
          refine a_bipush (v := 60) dX12_pinches_121 (by decide) ?_
          refine a_iastN dX12_pinches_123 (isM_65 hM) (by first | with_reducible exact rfl | with_reducible exact ix8 _ _ | with_reducible exact ix12 _ _ | exact rfl) (by omega) (by decide) ?_
          exact a_vret dX12_pinches_124 (by rw [e6]; exact ⟨rfl, rfl⟩)
        · have e6 : jmin 60 (Z.1 3 m + zMore T W m Z) = Z.1 3 m + zMore T W m Z := if_pos (Int32.not_le.mp c_106)
          refine a_aload_n (i := 0) dX12_pinches_109 rfl rfl ?_
          refine gX12_121 rfl dX12_pinches_110 (isM_0 hM) ?_
          refine a_iload_n (i := 3) dX12_pinches_113 rfl rfl ?_
          refine a_ialdN dX12_pinches_114 (isM_65 hM) (by first | with_reducible exact rfl | with_reducible exact ix8 _ _ | with_reducible exact ix12 _ _ | exact rfl) (by omega) (by decide) ?_
          rw [aWr_n _ _ _ (by omega), u2]
          refine a_iload (i := 5) dX12_pinches_115 rfl ?_
          refine a_iadd dX12_pinches_117 ?_
          refine a_goto (tg := 123) dX12_pinches_118 (by decide) ?_
          refine a_iastN dX12_pinches_123 (isM_65 hM) (by first | with_reducible exact rfl | with_reducible exact ix8 _ _ | with_reducible exact ix12 _ _ | exact rfl) (by omega) (by decide) ?_
          exact a_vret dX12_pinches_124 (by rw [e6]; exact ⟨rfl, rfl⟩)
      refine a_aload_n (i := 0) dX12_pinches_48 rfl rfl ?_
      refine a_iconst (v := 2) dX12_pinches_49 (by decide) ?_
      refine a_iconst (v := 1) dX12_pinches_50 (by decide) ?_
      refine a_bipush (v := 9) dX12_pinches_51 (by decide) ?_
      refine kX12_456 rfl dX12_pinches_53 (Nat.le_of_ble_eq_true rfl) (isM_0 hM) (hbd2) ?_
      refine a_istore (i := 5) dX12_pinches_56 (by decide) ?_
      refine a_aload_n (i := 0) dX12_pinches_58 rfl rfl ?_
      refine gX12_124 rfl dX12_pinches_59 (isM_0 hM) ?_
      refine a_iload_n (i := 3) dX12_pinches_62 rfl rfl ?_
      refine a_aload_n (i := 0) dX12_pinches_63 rfl rfl ?_
      refine gX12_124 rfl dX12_pinches_64 (isM_0 hM) ?_
      refine a_iload_n (i := 3) dX12_pinches_67 rfl rfl ?_
      refine a_ialdN dX12_pinches_68 (isM_66 hM) (by first | with_reducible exact rfl | with_reducible exact ix8 _ _ | with_reducible exact ix12 _ _ | exact rfl) (by omega) (by decide) ?_
      rw [u3]
      refine a_sipush (v := 999) dX12_pinches_69 (by decide) ?_
      refine a_icmp_ge (tg := 86) dX12_pinches_72 (by decide) (fun c_72 => ?_) (fun c_72 => ?_)
      · have e9 : 999 = jmin 999 (Z.1 4 m + 1) := by rw [jmin_c hco, if_pos c_72]
        refine a_sipush (v := 999) dX12_pinches_86 (by decide) ?_
        exact a_loc _ rfl (J _ e9)
      · have e9 : Z.1 4 m + 1 = jmin 999 (Z.1 4 m + 1) := by rw [jmin_c hco, if_neg c_72]
        refine a_aload_n (i := 0) dX12_pinches_75 rfl rfl ?_
        refine gX12_124 rfl dX12_pinches_76 (isM_0 hM) ?_
        refine a_iload_n (i := 3) dX12_pinches_79 rfl rfl ?_
        refine a_ialdN dX12_pinches_80 (isM_66 hM) (by first | with_reducible exact rfl | with_reducible exact ix8 _ _ | with_reducible exact ix12 _ _ | exact rfl) (by omega) (by decide) ?_
        rw [u3]
        refine a_iconst (v := 1) dX12_pinches_81 (by decide) ?_
        refine a_iadd dX12_pinches_82 ?_
        refine a_goto (tg := 89) dX12_pinches_83 (by decide) ?_
        exact a_loc _ rfl (J _ e9)
    · rw [ed]; exact rM_corn hSU
    · rw [ed]; exact hZ
    · exact aFj_t hFU (aFj_t (aFj_w (by unfold mIn; omega)) (aFj_w (by unfold mIn; omega)))
  have hle : ∀ V : aS, rM T Z V i → aFj i x V → zPinch T Z m ≤ zBears T W way m Z → rM T (zWear T W way m Z) V i ∧ zOk T (zWear T W way m Z) ∧ aFj i x V := by
    intro V h1 h2 h3
    have ed : zWear T W way m Z = Z := by
      unfold zWear
      split
      · rfl
      · first | rfl | rw [if_pos h3]
    rw [ed]
    exact ⟨h1, hZ, h2⟩
  have hw74 : X.1 bM 74 = bI (decide (way = 4)) := by rw [hX1]; exact hw
  by_cases w4 : way = 4
  · have hb0 : zBears T W way m Z = 0 := by rw [zBears, if_pos w4]
    rw [decide_eq_true w4] at hw74
    by_cases hgt : zPinch T Z m ≤ zBears T W way m Z
    · refine ⟨X, ?_, hle X hSX hXj hgt⟩
      rw [hb0] at hgt
      refine a_metV (by decide) (Nat.le_of_ble_eq_true rfl) rfl ?_
      refine a_bipush (v := 8) dX12_pinches_0 (by decide) ?_
      refine a_iload_n (i := 1) dX12_pinches_2 rfl rfl ?_
      refine a_imul dX12_pinches_3 ?_
      refine a_iload_n (i := 2) dX12_pinches_4 rfl rfl ?_
      refine a_iadd dX12_pinches_5 ?_
      rw [il8]
      refine a_istore_n (i := 3) dX12_pinches_6 rfl (by decide) ?_
      refine a_aload_n (i := 0) dX12_pinches_7 rfl rfl ?_
      refine a_iload_n (i := 1) dX12_pinches_8 rfl rfl ?_
      refine a_iload_n (i := 2) dX12_pinches_9 rfl rfl ?_
      refine kX12_463 rfl dX12_pinches_10 (Nat.le_of_ble_eq_true rfl) (isM_0 hM) (hld) ?_
      refine a_aload_n (i := 0) dX12_pinches_13 rfl rfl ?_
      refine a_iload_n (i := 1) dX12_pinches_14 rfl rfl ?_
      refine a_iload_n (i := 2) dX12_pinches_15 rfl rfl ?_
      refine kX12_443 rfl dX12_pinches_16 (Nat.le_of_ble_eq_true rfl) (isM_0 hM) (hp) ?_
      refine a_istore (i := 4) dX12_pinches_19 (by decide) ?_
      refine a_iload (i := 4) dX12_pinches_21 rfl ?_
      refine a_aload_n (i := 0) dX12_pinches_23 rfl rfl ?_
      refine gX12_423 rfl dX12_pinches_24 (isM_0 hM) ?_
      rw [hw74]
      refine a_if_eq (tg := 34) dX12_pinches_27 (by decide) (fun c_27 => ?_) (fun c_27 => ?_)
      · exact absurd c_27 (by decide)
      · refine a_iconst (v := 0) dX12_pinches_30 (by decide) ?_
        refine a_goto (tg := 44) dX12_pinches_31 (by decide) ?_
        refine a_icmp_gt (tg := 48) dX12_pinches_44 (by decide) (fun c_44 => ?_) (fun c_44 => ?_)
        · exact absurd hgt (Int32.not_le.mpr c_44)
        · exact a_vret dX12_pinches_47 (by exact ⟨rfl, rfl⟩)
    · obtain ⟨y, g1, g2⟩ := G X hSX hXj rfl (rWM_i hXj.1 hW) hgt
      refine ⟨y, ?_, g2⟩
      rw [hb0] at hgt
      refine a_metV (by decide) (Nat.le_of_ble_eq_true rfl) rfl ?_
      refine a_bipush (v := 8) dX12_pinches_0 (by decide) ?_
      refine a_iload_n (i := 1) dX12_pinches_2 rfl rfl ?_
      refine a_imul dX12_pinches_3 ?_
      refine a_iload_n (i := 2) dX12_pinches_4 rfl rfl ?_
      refine a_iadd dX12_pinches_5 ?_
      rw [il8]
      refine a_istore_n (i := 3) dX12_pinches_6 rfl (by decide) ?_
      refine a_aload_n (i := 0) dX12_pinches_7 rfl rfl ?_
      refine a_iload_n (i := 1) dX12_pinches_8 rfl rfl ?_
      refine a_iload_n (i := 2) dX12_pinches_9 rfl rfl ?_
      refine kX12_463 rfl dX12_pinches_10 (Nat.le_of_ble_eq_true rfl) (isM_0 hM) (hld) ?_
      refine a_aload_n (i := 0) dX12_pinches_13 rfl rfl ?_
      refine a_iload_n (i := 1) dX12_pinches_14 rfl rfl ?_
      refine a_iload_n (i := 2) dX12_pinches_15 rfl rfl ?_
      refine kX12_443 rfl dX12_pinches_16 (Nat.le_of_ble_eq_true rfl) (isM_0 hM) (hp) ?_
      refine a_istore (i := 4) dX12_pinches_19 (by decide) ?_
      refine a_iload (i := 4) dX12_pinches_21 rfl ?_
      refine a_aload_n (i := 0) dX12_pinches_23 rfl rfl ?_
      refine gX12_423 rfl dX12_pinches_24 (isM_0 hM) ?_
      rw [hw74]
      refine a_if_eq (tg := 34) dX12_pinches_27 (by decide) (fun c_27 => ?_) (fun c_27 => ?_)
      · exact absurd c_27 (by decide)
      · refine a_iconst (v := 0) dX12_pinches_30 (by decide) ?_
        refine a_goto (tg := 44) dX12_pinches_31 (by decide) ?_
        refine a_icmp_gt (tg := 48) dX12_pinches_44 (by decide) (fun c_44 => ?_) (fun c_44 => ?_)
        · exact a_loc _ rfl g1
        · exact absurd (Int32.not_lt.mp c_44) hgt
  · have hb0 : zBears T W way m Z = zCut (vWorth (W 1) (zNmM T Z m)) 999 10 := by rw [zBears, if_neg w4]
    rw [decide_eq_false w4] at hw74
    have hSY : rM T Z Y i := rM_by hby hSX
    have hFY : aFj i x Y := aFj_t hXj (aFj_by hby)
    by_cases hgt : zPinch T Z m ≤ zBears T W way m Z
    · refine ⟨Y, ?_, hle Y hSY hFY hgt⟩
      rw [hb0] at hgt
      refine a_metV (by decide) (Nat.le_of_ble_eq_true rfl) rfl ?_
      refine a_bipush (v := 8) dX12_pinches_0 (by decide) ?_
      refine a_iload_n (i := 1) dX12_pinches_2 rfl rfl ?_
      refine a_imul dX12_pinches_3 ?_
      refine a_iload_n (i := 2) dX12_pinches_4 rfl rfl ?_
      refine a_iadd dX12_pinches_5 ?_
      rw [il8]
      refine a_istore_n (i := 3) dX12_pinches_6 rfl (by decide) ?_
      refine a_aload_n (i := 0) dX12_pinches_7 rfl rfl ?_
      refine a_iload_n (i := 1) dX12_pinches_8 rfl rfl ?_
      refine a_iload_n (i := 2) dX12_pinches_9 rfl rfl ?_
      refine kX12_463 rfl dX12_pinches_10 (Nat.le_of_ble_eq_true rfl) (isM_0 hM) (hld) ?_
      refine a_aload_n (i := 0) dX12_pinches_13 rfl rfl ?_
      refine a_iload_n (i := 1) dX12_pinches_14 rfl rfl ?_
      refine a_iload_n (i := 2) dX12_pinches_15 rfl rfl ?_
      refine kX12_443 rfl dX12_pinches_16 (Nat.le_of_ble_eq_true rfl) (isM_0 hM) (hp) ?_
      refine a_istore (i := 4) dX12_pinches_19 (by decide) ?_
      refine a_iload (i := 4) dX12_pinches_21 rfl ?_
      refine a_aload_n (i := 0) dX12_pinches_23 rfl rfl ?_
      refine gX12_423 rfl dX12_pinches_24 (isM_0 hM) ?_
      rw [hw74]
      refine a_if_eq (tg := 34) dX12_pinches_27 (by decide) (fun c_27 => ?_) (fun c_27 => ?_)
      · refine a_aload_n (i := 0) dX12_pinches_34 rfl rfl ?_
        refine a_iconst (v := 1) dX12_pinches_35 (by decide) ?_
        refine a_bipush (v := 10) dX12_pinches_36 (by decide) ?_
        refine a_sipush (v := 999) dX12_pinches_38 (by decide) ?_
        refine kX12_456 rfl dX12_pinches_41 (Nat.le_of_ble_eq_true rfl) (isM_0 hM) (hbd) ?_
        refine a_icmp_gt (tg := 48) dX12_pinches_44 (by decide) (fun c_44 => ?_) (fun c_44 => ?_)
        · exact absurd hgt (Int32.not_le.mpr c_44)
        · exact a_vret dX12_pinches_47 (by exact ⟨rfl, rfl⟩)
      · exact absurd rfl c_27
    · obtain ⟨y, g1, g2⟩ := G Y hSY hFY (hby.2.2 _ (by omega)) (rWM_i hFY.1 hW) hgt
      refine ⟨y, ?_, g2⟩
      rw [hb0] at hgt
      refine a_metV (by decide) (Nat.le_of_ble_eq_true rfl) rfl ?_
      refine a_bipush (v := 8) dX12_pinches_0 (by decide) ?_
      refine a_iload_n (i := 1) dX12_pinches_2 rfl rfl ?_
      refine a_imul dX12_pinches_3 ?_
      refine a_iload_n (i := 2) dX12_pinches_4 rfl rfl ?_
      refine a_iadd dX12_pinches_5 ?_
      rw [il8]
      refine a_istore_n (i := 3) dX12_pinches_6 rfl (by decide) ?_
      refine a_aload_n (i := 0) dX12_pinches_7 rfl rfl ?_
      refine a_iload_n (i := 1) dX12_pinches_8 rfl rfl ?_
      refine a_iload_n (i := 2) dX12_pinches_9 rfl rfl ?_
      refine kX12_463 rfl dX12_pinches_10 (Nat.le_of_ble_eq_true rfl) (isM_0 hM) (hld) ?_
      refine a_aload_n (i := 0) dX12_pinches_13 rfl rfl ?_
      refine a_iload_n (i := 1) dX12_pinches_14 rfl rfl ?_
      refine a_iload_n (i := 2) dX12_pinches_15 rfl rfl ?_
      refine kX12_443 rfl dX12_pinches_16 (Nat.le_of_ble_eq_true rfl) (isM_0 hM) (hp) ?_
      refine a_istore (i := 4) dX12_pinches_19 (by decide) ?_
      refine a_iload (i := 4) dX12_pinches_21 rfl ?_
      refine a_aload_n (i := 0) dX12_pinches_23 rfl rfl ?_
      refine gX12_423 rfl dX12_pinches_24 (isM_0 hM) ?_
      rw [hw74]
      refine a_if_eq (tg := 34) dX12_pinches_27 (by decide) (fun c_27 => ?_) (fun c_27 => ?_)
      · refine a_aload_n (i := 0) dX12_pinches_34 rfl rfl ?_
        refine a_iconst (v := 1) dX12_pinches_35 (by decide) ?_
        refine a_bipush (v := 10) dX12_pinches_36 (by decide) ?_
        refine a_sipush (v := 999) dX12_pinches_38 (by decide) ?_
        refine kX12_456 rfl dX12_pinches_41 (Nat.le_of_ble_eq_true rfl) (isM_0 hM) (hbd) ?_
        refine a_icmp_gt (tg := 48) dX12_pinches_44 (by decide) (fun c_44 => ?_) (fun c_44 => ?_)
        · exact a_loc _ rfl g1
        · exact absurd (Int32.not_lt.mp c_44) hgt
      · exact absurd rfl c_27
