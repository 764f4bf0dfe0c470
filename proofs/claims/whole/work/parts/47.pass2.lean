/-! LastHouse$Years: damp, pass -/
def zNum (Z : zS) : Int32 := Z.1 0 2 * 1103515245 + 12345 &&& 2147483647
def zDamp (T : zT) (way : Nat) (Z : zS) : Bool × zS :=
  if way = 0 ∨ T.1 5 = 0 then (false, Z) else if T.1 5 = 100 then (true, Z)
  else if way = 6 then (decide (zNum Z / 65536 - zNum Z / 65536 / 100 * 100 < nI (T.1 5)), zui Z 0 2 (zNum Z)) else (decide (50 ≤ T.1 5), Z)
theorem zOk_damp {T : zT} {way : Nat} {Z : zS} (hZ : zOk T Z) : zOk T (zDamp T way Z).2 := by
  unfold zDamp
  split
  · exact hZ
  · split
    · exact hZ
    · split
      · exact hZ
      · exact hZ
set_option maxHeartbeats 4000000 in
set_option maxRecDepth 100000 in
theorem c_X10_isDamp {l : Launch} {d : Nat} {D : Nat → Bool} {T : zT} {Z : zS} {t b way : Nat} {x : aS} (hD : aDC D) (hb : aStB b) (ht : aTdB t) (ok : zTok T) (hT : rT T x t) (hS : rS T Z x b) (hway : way < 7) : aCt l mX10_isDamp (d + 1) D [.ref bYr, .ref t, .ref b, .int (nI way)] x (fun v y => v = some (.int (if (zDamp T way Z).1 then 1 else 0)) ∧ rS T (zDamp T way Z).2 y b ∧ aFy b x y) := by
  have hd : x.1 t 16 = nI (T.1 5) := hT.2.2.2.2.2.1
  have h100 := ok.2.2.2.2.2.1
  have hn : x.1 b 2 = Z.1 0 2 := hS.1 2 (by decide)
  refine a_met (by decide) (Nat.le_of_ble_eq_true rfl) (fun v y q => Or.inr (Or.inl ⟨rfl, _, q.1, by split <;> simp⟩)) ?_
  have e0 : (way = 0 ∨ T.1 5 = 0) → zDamp T way Z = (false, Z) := fun h => by rw [zDamp, if_pos h]
  have e1 : ¬ (way = 0 ∨ T.1 5 = 0) → T.1 5 = 100 → zDamp T way Z = (true, Z) := fun h g => by rw [zDamp, if_neg h, if_pos g]
  have e2 : ¬ (way = 0 ∨ T.1 5 = 0) → ¬ T.1 5 = 100 → way = 6 → zDamp T way Z = (decide (zNum Z / 65536 - zNum Z / 65536 / 100 * 100 < nI (T.1 5)), zui Z 0 2 (zNum Z)) := fun h g k => by rw [zDamp, if_neg h, if_neg g, if_pos k]
  have e3 : ¬ (way = 0 ∨ T.1 5 = 0) → ¬ T.1 5 = 100 → ¬ way = 6 → zDamp T way Z = (decide (50 ≤ T.1 5), Z) := fun h g k => by rw [zDamp, if_neg h, if_neg g, if_neg k]
  have ws : sDrawn x b = zNum Z := by unfold sDrawn zNum; rw [hn]
  have hdr := c_X6_draw (l := l) (d := d) (D := D) (x := x) hD hb
  rw [ws] at hdr
  have hd2 : (aWr x b 2 (zNum Z)).1 t 16 = nI (T.1 5) := by rw [aWr_n _ _ _ (tb_ne1 ht hb)]; exact hd
  refine a_iload_n (i := 3) dX10_isDamp_0 rfl rfl ?_
  refine a_if_eq (tg := 11) dX10_isDamp_1 (by decide) (fun c_1 => ?_) (fun c_1 => ?_)
  · have w0 : way = 0 := (nI_eq (by omega) (by decide)).mp c_1
    rw [e0 (Or.inl w0)]
    refine a_iconst (v := 0) dX10_isDamp_11 (by decide) ?_
    exact a_iret dX10_isDamp_12 (by exact ⟨rfl, hS, aFy_r⟩)
  · have w0 : ¬ way = 0 := fun h => c_1 (by rw [h]; rfl)
    refine a_aload_n (i := 1) dX10_isDamp_4 rfl rfl ?_
    refine gX10_146 rfl dX10_isDamp_5 (isT_0 hD ht) ?_
    rw [hd]
    refine a_if_ne (tg := 13) dX10_isDamp_8 (by decide) (fun c_8 => ?_) (fun c_8 => ?_)
    · have d0 : ¬ (way = 0 ∨ T.1 5 = 0) := fun h => h.elim w0 (fun g => c_8 (by rw [g]; rfl))
      refine a_aload_n (i := 1) dX10_isDamp_13 rfl rfl ?_
      refine gX10_146 rfl dX10_isDamp_14 (isT_0 hD ht) ?_
      rw [hd]
      refine a_bipush (v := 100) dX10_isDamp_17 (by decide) ?_
      refine a_icmp_ne (tg := 24) dX10_isDamp_19 (by decide) (fun c_19 => ?_) (fun c_19 => ?_)
      · have d1 : ¬ T.1 5 = 100 := fun g => c_19 (by rw [g]; rfl)
        refine a_iload_n (i := 3) dX10_isDamp_24 rfl rfl ?_
        refine a_bipush (v := 6) dX10_isDamp_25 (by decide) ?_
        refine a_icmp_ne (tg := 52) dX10_isDamp_27 (by decide) (fun c_27 => ?_) (fun c_27 => ?_)
        · rw [e3 d0 d1 (fun g => c_27 (by rw [g]; rfl))]
          refine a_aload_n (i := 1) dX10_isDamp_52 rfl rfl ?_
          refine gX10_146 rfl dX10_isDamp_53 (isT_0 hD ht) ?_
          rw [hd]
          refine a_bipush (v := 50) dX10_isDamp_56 (by decide) ?_
          refine a_icmp_lt (tg := 65) dX10_isDamp_58 (by decide) (fun c_58 => ?_) (fun c_58 => ?_)
          · have q : decide (50 ≤ T.1 5) = false := decide_eq_false (fun g => absurd c_58 (nI_nlt g (by omega)))
            refine a_iconst (v := 0) dX10_isDamp_65 (by decide) ?_
            exact a_iret dX10_isDamp_66 (by first | exact ⟨by simp only [q]; rfl, hS, aFy_r⟩ | exact ⟨by simp only [q]; rfl, rS_w0 (by decide) hS, aFy_w rfl⟩)
          · have q : decide (50 ≤ T.1 5) = true := decide_eq_true (by rcases Nat.lt_or_ge (T.1 5) 50 with g | g; exact absurd (nI_lt g (by decide)) c_58; exact g)
            refine a_iconst (v := 1) dX10_isDamp_61 (by decide) ?_
            refine a_goto (tg := 66) dX10_isDamp_62 (by decide) ?_
            exact a_iret dX10_isDamp_66 (by first | exact ⟨by simp only [q]; rfl, hS, aFy_r⟩ | exact ⟨by simp only [q]; rfl, rS_w0 (by decide) hS, aFy_w rfl⟩)
        · rw [e2 d0 d1 ((nI_eq (by omega) (by decide)).mp c_27)]
          refine a_aload_n (i := 2) dX10_isDamp_30 rfl rfl ?_
          refine kX10_149 rfl dX10_isDamp_31 (Nat.le_of_ble_eq_true rfl) (isS_0 hD hb) (hdr) ?_
          refine a_bipush (v := 100) dX10_isDamp_34 (by decide) ?_
          refine a_irem dX10_isDamp_36 (by decide) ?_
          refine a_aload_n (i := 1) dX10_isDamp_37 rfl rfl ?_
          refine gX10_146 rfl dX10_isDamp_38 (isT_0 hD ht) ?_
          rw [hd2]
          refine a_icmp_ge (tg := 48) dX10_isDamp_41 (by decide) (fun c_41 => ?_) (fun c_41 => ?_)
          · have q : decide (zNum Z / 65536 - zNum Z / 65536 / 100 * 100 < nI (T.1 5)) = false := decide_eq_false (Int32.not_lt.mpr c_41)
            refine a_iconst (v := 0) dX10_isDamp_48 (by decide) ?_
            refine a_goto (tg := 66) dX10_isDamp_49 (by decide) ?_
            exact a_iret dX10_isDamp_66 (by first | exact ⟨by simp only [q]; rfl, hS, aFy_r⟩ | exact ⟨by simp only [q]; rfl, rS_w0 (by decide) hS, aFy_w rfl⟩)
          · have q : decide (zNum Z / 65536 - zNum Z / 65536 / 100 * 100 < nI (T.1 5)) = true := decide_eq_true (Int32.not_le.mp c_41)
            refine a_iconst (v := 1) dX10_isDamp_44 (by decide) ?_
            refine a_goto (tg := 66) dX10_isDamp_45 (by decide) ?_
            exact a_iret dX10_isDamp_66 (by first | exact ⟨by simp only [q]; rfl, hS, aFy_r⟩ | exact ⟨by simp only [q]; rfl, rS_w0 (by decide) hS, aFy_w rfl⟩)
      · rw [e1 d0 ((nI_eq (by omega) (by decide)).mp c_19)]
        refine a_iconst (v := 1) dX10_isDamp_22 (by decide) ?_
        exact a_iret dX10_isDamp_23 (by exact ⟨rfl, hS, aFy_r⟩)
    · have d0 : T.1 5 = 0 := (nI_eq (by omega) (by decide)).mp c_8
      rw [e0 (Or.inr d0)]
      refine a_iconst (v := 0) dX10_isDamp_11 (by decide) ?_
      exact a_iret dX10_isDamp_12 (by exact ⟨rfl, hS, aFy_r⟩)
def zStripIn (T : zT) (y : Int32) : Bool := (List.range (T.1 4)).any (fun i => decide (T.2.1 8 i = y))
theorem tStrips_z {T : zT} {x : aS} {t : Nat} {y : Int32} (hT : rT T x t) : tStrips x t (T.1 4) y = zStripIn T y := by
  unfold tStrips zStripIn
  rw [Bool.eq_iff_iff, ← any_range, ← any_range]
  constructor
  · rintro ⟨i, hi, h⟩
    exact ⟨i, hi, by rw [← hT.2.2.2.2.2.2.2.2.2.2.2.2.2 i hi]; exact h⟩
  · rintro ⟨i, hi, h⟩
    exact ⟨i, hi, by rw [hT.2.2.2.2.2.2.2.2.2.2.2.2.2 i hi]; exact h⟩
def zY5 (Z : zS) : zS := zui Z 0 0 (Z.1 0 0 + 1)
def zY4 (T : zT) (Z : zS) : zS := zY5 (if zStripIn T (Z.1 0 0) then zBareAll T Z else Z)
def zY3 (T : zT) (way : Nat) (Z : zS) : zS := zY4 T (if (zDamp T way Z).1 then zSwell T (zDamp T way Z).2 else (zDamp T way Z).2)
def zY2 (T : zT) (W : Nat → zL) (way : Nat) (Z : zS) : zS := zY3 T way (lp (zWear T W way) 0 (T.1 1) Z)
/-- a year -/
def zYear (T : zT) (W : Nat → zL) (way : Nat) (Z : zS) : zS := zY2 T W way (if way = 3 then (if way = 1 then Z else zDeeds T W Z) else zWeds T (if way = 1 then Z else zDeeds T W Z))
set_option maxHeartbeats 4000000 in
set_option maxRecDepth 100000 in
theorem c_X10_pass {l : Launch} {d : Nat} {D : Nat → Bool} {T : zT} {W : Nat → zL} {Z : zS} {t b way : Nat} {x : aS} (hD : aDC D) (hb : aStB b) (ht : aTdB t) (ok : zTok T) (hZ : zOk T Z) (hT : rT T x t) (hW : rW W x t) (hS : rS T Z x b) (hway : way < 7) : aCt l mX10_pass (d + 4) D [.ref bYr, .ref t, .ref b, .int (nI way)] x (fun v y => v = none ∧ rS T (zYear T W way Z) y b ∧ zOk T (zYear T W way Z) ∧ aFy b x y) := by
  have rt : ∀ y, aFy b x y → rT T y t := fun y h => rT_same (aFy_T hb ht h) ok hT
  have rw' : ∀ y, aFy b x y → rW W y t := fun y h => rW_same (aFy_T hb ht h) hW
  have P80 : ∀ (Z : zS) (y : aS), zOk T Z → rS T Z y b → aFy b x y → aV l mX10_pass (d + 4) D none 80 [(0, .ref bYr), (1, .ref t), (2, .ref b), (3, .int (nI way))] [] y (fun v y => v = none ∧ rS T (zY5 Z) y b ∧ zOk T (zY5 Z) ∧ aFy b x y) := by
    intro Z y hZ hS hF
    refine a_aload_n (i := 2) dX10_pass_80 rfl rfl ?_
    refine a_dup dX10_pass_81 rfl ?_
    refine gX10_46 rfl dX10_pass_82 (isS_0 hD hb) ?_
    rw [hS.1 0 (by decide)]
    refine a_iconst (v := 1) dX10_pass_85 (by decide) ?_
    refine a_iadd dX10_pass_86 ?_
    refine pX10_46 rfl dX10_pass_87 (isS_0 hD hb) ?_
    exact a_vret dX10_pass_90 (by exact ⟨rfl, rS_w0 (by decide) hS, zOk_ui hZ, aFy_t hF (aFy_w rfl)⟩)
  have P64 : ∀ (Z : zS) (y : aS), zOk T Z → rS T Z y b → aFy b x y → aV l mX10_pass (d + 4) D none 64 [(0, .ref bYr), (1, .ref t), (2, .ref b), (3, .int (nI way))] [] y (fun v y => v = none ∧ rS T (zY4 T Z) y b ∧ zOk T (zY4 T Z) ∧ aFy b x y) := by
    intro Z y hZ hS hF
    have hc := c_X8_stripsIn (l := l) (d := d + 3) (D := D) (y := y.1 b 0) hD ht (rt y hF).2.2.2.2.1 ok.2.2.2.2.1
    rw [tStrips_z (rt y hF), hS.1 0 (by decide)] at hc
    unfold zY4
    refine a_aload_n (i := 1) dX10_pass_64 rfl rfl ?_
    refine a_aload_n (i := 2) dX10_pass_65 rfl rfl ?_
    refine gX10_46 rfl dX10_pass_66 (isS_0 hD hb) ?_
    rw [hS.1 0 (by decide)]
    refine kX10_49 rfl dX10_pass_69 (Nat.le_of_ble_eq_true rfl) (isT_0 hD ht) (hc) ?_
    refine a_if_eq (tg := 80) dX10_pass_72 (by decide) (fun c_72 => ?_) (fun c_72 => ?_)
    · have q : ¬ zStripIn T (Z.1 0 0) = true := fun h => by rw [if_pos h] at c_72; exact absurd c_72 (by decide)
      rw [if_neg q]
      first | exact a_loc _ rfl (P80 _ _ hZ hS hF) | exact a_loc _ rfl (P80 _ _ (zOk_bareAll hZ) (rS_bareAll ht hb ok (rt y hF) hS) (aFy_t hF (aFy_bareAll hb)))
    · have q : zStripIn T (Z.1 0 0) = true := by by_cases h : zStripIn T (Z.1 0 0) = true; exact h; rw [if_neg h] at c_72; exact absurd rfl c_72
      rw [if_pos q]
      refine a_aload_n (i := 2) dX10_pass_75 rfl rfl ?_
      refine a_aload_n (i := 1) dX10_pass_76 rfl rfl ?_
      refine kX10_53 rfl dX10_pass_77 (Nat.le_of_ble_eq_true rfl) (isS_0 hD hb) (c_X6_bareAll hD hb ht (rt y hF).1 ok.1) ?_
      first | exact a_loc _ rfl (P80 _ _ hZ hS hF) | exact a_loc _ rfl (P80 _ _ (zOk_bareAll hZ) (rS_bareAll ht hb ok (rt y hF) hS) (aFy_t hF (aFy_bareAll hb)))
  have P49 : ∀ (Z : zS) (y : aS), zOk T Z → rS T Z y b → aFy b x y → aV l mX10_pass (d + 4) D none 49 [(0, .ref bYr), (1, .ref t), (2, .ref b), (3, .int (nI way))] [] y (fun v y => v = none ∧ rS T (zY3 T way Z) y b ∧ zOk T (zY3 T way Z) ∧ aFy b x y) := by
    intro Z y hZ hS hF
    unfold zY3
    refine a_aload_n (i := 0) dX10_pass_49 rfl rfl ?_
    refine a_aload_n (i := 1) dX10_pass_50 rfl rfl ?_
    refine a_aload_n (i := 2) dX10_pass_51 rfl rfl ?_
    refine a_iload_n (i := 3) dX10_pass_52 rfl rfl ?_
    refine kgX10_36 rfl dX10_pass_53 (Nat.le_of_ble_eq_true rfl) (isYr_0 hD) (c_X10_isDamp hD hb ht ok (rt y hF) hS hway) ?_
    rintro v y1 ⟨rfl, hS1, hF1⟩
    have hFx := aFy_t hF hF1
    refine a_if_eq (tg := 64) dX10_pass_56 (by decide) (fun c_56 => ?_) (fun c_56 => ?_)
    · have q : ¬ (zDamp T way Z).1 = true := fun h => by rw [if_pos h] at c_56; exact absurd c_56 (by decide)
      rw [if_neg q]
      first | exact a_loc _ rfl (P64 _ _ (zOk_damp hZ) hS1 hFx) | exact a_loc _ rfl (P64 _ _ (zOk_swell (zOk_damp hZ)) (rS_swell hS1) (aFy_t hFx (aFy_swell hb)))
    · have q : (zDamp T way Z).1 = true := by by_cases h : (zDamp T way Z).1 = true; exact h; rw [if_neg h] at c_56; exact absurd rfl c_56
      rw [if_pos q]
      refine a_aload_n (i := 2) dX10_pass_59 rfl rfl ?_
      refine a_aload_n (i := 1) dX10_pass_60 rfl rfl ?_
      refine kX10_40 rfl dX10_pass_61 (Nat.le_of_ble_eq_true rfl) (isS_0 hD hb) (c_X6_swell hD hb ht (rt y1 hFx).1 ok.1) ?_
      first | exact a_loc _ rfl (P64 _ _ (zOk_damp hZ) hS1 hFx) | exact a_loc _ rfl (P64 _ _ (zOk_swell (zOk_damp hZ)) (rS_swell hS1) (aFy_t hFx (aFy_swell hb)))
  have P25 : ∀ (k i : Nat), i + k = T.1 1 → ∀ (Z : zS) (y : aS), zOk T Z → rS T Z y b → aFy b x y → aV l mX10_pass (d + 4) D none 25 [(0, .ref bYr), (1, .ref t), (2, .ref b), (3, .int (nI way)), (4, .int (nI i))] [] y (fun v y => v = none ∧ rS T (zY3 T way (lp (zWear T W way) i k Z)) y b ∧ zOk T (zY3 T way (lp (zWear T W way) i k Z)) ∧ aFy b x y) := by
    intro k
    induction k with
    | zero =>
      intro i hi Z y hZ hS hF
      rw [Nat.add_zero] at hi
      have h4 : y.1 t 4 = nI i := by rw [hi]; exact (rt y hF).2.1
      refine a_iload (i := 4) dX10_pass_25 rfl ?_
      refine a_aload_n (i := 1) dX10_pass_27 rfl rfl ?_
      refine gX10_26 rfl dX10_pass_28 (isT_0 hD ht) ?_
      rw [h4]
      refine a_icmp_ge (tg := 49) dX10_pass_31 (by decide) (fun c_31 => ?_) (fun c_31 => ?_)
      · exact a_loc _ rfl (P49 _ _ hZ hS hF)
      · exact absurd (Int32.le_refl _) c_31
    | succ k ih =>
      intro i hi Z y hZ hS hF
      have h4 : y.1 t 4 = nI (T.1 1) := (rt y hF).2.1
      have h8 := ok.2.1
      refine a_iload (i := 4) dX10_pass_25 rfl ?_
      refine a_aload_n (i := 1) dX10_pass_27 rfl rfl ?_
      refine gX10_26 rfl dX10_pass_28 (isT_0 hD ht) ?_
      rw [h4]
      refine a_icmp_ge (tg := 49) dX10_pass_31 (by decide) (fun c_31 => ?_) (fun c_31 => ?_)
      · exact absurd c_31 (nI_ge (show i < T.1 1 by omega) (by omega))
      · refine a_aload_n (i := 0) dX10_pass_34 rfl rfl ?_
        refine a_aload_n (i := 1) dX10_pass_35 rfl rfl ?_
        refine a_aload_n (i := 2) dX10_pass_36 rfl rfl ?_
        refine a_iload (i := 4) dX10_pass_37 rfl ?_
        refine a_iload_n (i := 3) dX10_pass_39 rfl rfl ?_
        refine kgX10_32 rfl dX10_pass_40 (Nat.le_of_ble_eq_true rfl) (isYr_0 hD) (c_X10_wear hD hb ht ok hZ (rt y hF) (rw' y hF) hS (show i < T.1 1 by omega) hway) ?_
        rintro v y1 ⟨rfl, hS1, hZ1, hF1⟩
        refine a_iincK (i := 4) (u := 1) dX10_pass_43 rfl (by decide) (by decide) ?_
        refine a_goto (tg := 25) dX10_pass_46 (by decide) ?_
        rw [nI_1]; exact a_loc _ rfl (ih (i + 1) (by omega) _ _ hZ1 hS1 (aFy_t hF hF1))
  have P22 : ∀ (Z : zS) (y : aS), zOk T Z → rS T Z y b → aFy b x y → aV l mX10_pass (d + 4) D none 22 [(0, .ref bYr), (1, .ref t), (2, .ref b), (3, .int (nI way))] [] y (fun v y => v = none ∧ rS T (zY2 T W way Z) y b ∧ zOk T (zY2 T W way Z) ∧ aFy b x y) := by
    intro Z y hZ hS hF
    refine a_iconst (v := 0) dX10_pass_22 (by decide) ?_
    refine a_istore (i := 4) dX10_pass_23 (by decide) ?_
    exact a_loc _ rfl (P25 _ 0 (Nat.zero_add _) Z y hZ hS hF)
  have P11 : ∀ (Z : zS) (y : aS), zOk T Z → rS T Z y b → aFy b x y → aV l mX10_pass (d + 4) D none 11 [(0, .ref bYr), (1, .ref t), (2, .ref b), (3, .int (nI way))] [] y (fun v y => v = none ∧ rS T (zY2 T W way (if way = 3 then Z else zWeds T Z)) y b ∧ zOk T (zY2 T W way (if way = 3 then Z else zWeds T Z)) ∧ aFy b x y) := by
    intro Z y hZ hS hF
    refine a_iload_n (i := 3) dX10_pass_11 rfl rfl ?_
    refine a_iconst (v := 3) dX10_pass_12 (by decide) ?_
    refine a_icmp_eq (tg := 22) dX10_pass_13 (by decide) (fun c_13 => ?_) (fun c_13 => ?_)
    · rw [if_pos ((nI_eq (by omega) (by decide)).mp c_13 : way = 3)]
      exact a_loc _ rfl (P22 _ _ hZ hS hF)
    · rw [if_neg (fun g => c_13 (by rw [g]; rfl) : ¬ way = 3)]
      refine a_aload_n (i := 0) dX10_pass_16 rfl rfl ?_
      refine a_aload_n (i := 1) dX10_pass_17 rfl rfl ?_
      refine a_aload_n (i := 2) dX10_pass_18 rfl rfl ?_
      refine kgX10_23 rfl dX10_pass_19 (Nat.le_of_ble_eq_true rfl) (by exact isYr_0 hD) (c_X10_holdWeddings hD hb ht ok hZ (rt y hF) hS) ?_
      rintro v y1 ⟨rfl, hS1, hZ1, hF1⟩
      exact a_loc _ rfl (P22 _ _ hZ1 hS1 (aFy_t hF hF1))
  refine a_met (by decide) (Nat.le_of_ble_eq_true rfl) (fun v y q => Or.inr (Or.inr (Or.inr ⟨rfl, q.1⟩))) ?_
  unfold zYear
  refine a_iload_n (i := 3) dX10_pass_0 rfl rfl ?_
  refine a_iconst (v := 1) dX10_pass_1 (by decide) ?_
  refine a_icmp_eq (tg := 11) dX10_pass_2 (by decide) (fun c_2 => ?_) (fun c_2 => ?_)
  · rw [if_pos ((nI_eq (by omega) (by decide)).mp c_2 : way = 1)]
    exact a_loc _ rfl (P11 _ _ hZ hS aFy_r)
  · rw [if_neg (fun g => c_2 (by rw [g]; rfl) : ¬ way = 1)]
    refine a_aload_n (i := 0) dX10_pass_5 rfl rfl ?_
    refine a_aload_n (i := 1) dX10_pass_6 rfl rfl ?_
    refine a_aload_n (i := 2) dX10_pass_7 rfl rfl ?_
    refine kgX10_19 rfl dX10_pass_8 (Nat.le_of_ble_eq_true rfl) (isYr_0 hD) (c_X10_doDeeds hD hb ht ok hZ hT hW hS) ?_
    rintro v y1 ⟨rfl, hS1, hZ1, hF1⟩
    exact a_loc _ rfl (P11 _ _ hZ1 hS1 hF1)
