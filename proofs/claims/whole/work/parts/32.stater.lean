/-! LastHouse$State: marry, begin, copyFrom; LastHouse$Told: stripsIn, clear; LastHouse$Law: clear, append -/
def sCouple (m1 m2 : Nat) : Int32 := (1 <<< (nI m1 &&& 31)) ||| (1 <<< (nI m2 &&& 31))
def sJoin (x : aS) (b k1 k2 : Nat) : aS := lp (fun z y => aWr y (b + 5) (k1 * 8 + z) ((sLast y b k1 z + sLast y b k2 z) / 2)) 0 8 x
def sMarry (x : aS) (b m1 m2 k1 k2 : Nat) : aS := aWr (aWr (sDrop (sJoin x b k1 k2) b k1) (b + 10) m2 (nI k1)) b 3 (x.1 b 3 ||| sCouple m1 m2)
theorem sJoin_n {x : aS} {b k1 k2 n : Nat} (h : n ≠ b + 5) : (sJoin x b k1 k2).1 n = x.1 n := by
  unfold sJoin
  rw [lp_keep (fun i y => aWr_n y _ _ h)]
set_option maxHeartbeats 4000000 in
set_option maxRecDepth 100000 in
theorem c_X6_marry {l : Launch} {d : Nat} {D : Nat → Bool} {b m1 m2 k1 k2 : Nat} {x : aS} (hD : aDC D) (hb : aStB b) (h1 : m1 < 8) (h2 : m2 < 8) (g1 : k1 < 6) (g2 : k2 < 6) (e1 : x.1 (b + 10) m1 = nI k1) (e2 : x.1 (b + 10) m2 = nI k2) : aDI l mX6_marry (d + 2) D [.ref b, .int (nI m1), .int (nI m2)] x (if x.1 b 3 &&& sCouple m1 m2 = 0 ∧ k1 ≠ k2 then 1 else 0) (if x.1 b 3 &&& sCouple m1 m2 = 0 ∧ k1 ≠ k2 then sMarry x b m1 m2 k1 k2 else x) := by
  have L : aV l mX6_marry (d + 2) D none 45 [(0, .ref b), (1, .int (nI m1)), (2, .int (nI m2)), (3, .int (nI k1)), (4, .int (nI k2)), (5, .int (sCouple m1 m2)), (6, .int (nI 0))] [] x (fun v z => v = some (.int 1) ∧ z = sMarry x b m1 m2 k1 k2) := by
    refine lp_rule (P := fun i y => aV l mX6_marry (d + 2) D none 45 [(0, .ref b), (1, .int (nI m1)), (2, .int (nI m2)), (3, .int (nI k1)), (4, .int (nI k2)), (5, .int (sCouple m1 m2)), (6, .int (nI i))] [] y _) (fun z y => aWr y (b + 5) (k1 * 8 + z) ((sLast y b k1 z + sLast y b k2 z) / 2)) ?_ 8 0 x rfl ?_
    · intro i y hi ih
      refine a_iload (i := 6) dX6_marry_45 rfl ?_
      refine a_bipush (v := 8) dX6_marry_47 (by decide) ?_
      refine a_icmp_ge (tg := 79) dX6_marry_49 (by decide) (fun c_49 => ?_) (fun c_49 => ?_)
      · exact absurd c_49 (nI_ge hi (by decide))
      · refine a_aload_n (i := 0) dX6_marry_52 rfl rfl ?_
        refine gX6_9 rfl dX6_marry_53 (isS_0 hD hb) ?_
        refine a_iload_n (i := 3) dX6_marry_56 rfl rfl ?_
        refine a_bipush (v := 8) dX6_marry_57 (by decide) ?_
        refine a_imul dX6_marry_59 ?_
        refine a_iload (i := 6) dX6_marry_60 rfl ?_
        refine a_iadd dX6_marry_62 ?_
        refine a_aload_n (i := 0) dX6_marry_63 rfl rfl ?_
        refine a_iload_n (i := 3) dX6_marry_64 rfl rfl ?_
        refine a_iload (i := 4) dX6_marry_65 rfl ?_
        refine a_iload (i := 6) dX6_marry_67 rfl ?_
        refine kX6_87 rfl dX6_marry_69 (Nat.le_of_ble_eq_true rfl) (isS_0 hD hb) (c_X6_halfWay hD hb g1 g2 hi) ?_
        refine a_iastN dX6_marry_72 (isS_5 hD hb) (by first | with_reducible exact rfl | with_reducible exact ix8 _ _ | with_reducible exact ix12 _ _ | exact rfl) (by omega) (by decide) ?_
        refine a_iincK (i := 6) (u := 1) dX6_marry_73 rfl (by decide) (by decide) ?_
        refine a_goto (tg := 45) dX6_marry_76 (by decide) ?_
        rw [nI_1]; exact a_loc _ rfl ih
    · refine a_iload (i := 6) dX6_marry_45 rfl ?_
      refine a_bipush (v := 8) dX6_marry_47 (by decide) ?_
      refine a_icmp_ge (tg := 79) dX6_marry_49 (by decide) (fun c_49 => ?_) (fun c_49 => ?_)
      · refine a_aload_n (i := 0) dX6_marry_79 rfl rfl ?_
        refine a_iload_n (i := 3) dX6_marry_80 rfl rfl ?_
        refine kX6_83 rfl dX6_marry_81 (Nat.le_of_ble_eq_true rfl) (isS_0 hD hb) (c_X6_dropLayers hD hb g1) ?_
        refine a_aload_n (i := 0) dX6_marry_84 rfl rfl ?_
        refine gX6_27 rfl dX6_marry_85 (isS_0 hD hb) ?_
        refine a_iload_n (i := 2) dX6_marry_88 rfl rfl ?_
        refine a_iload_n (i := 3) dX6_marry_89 rfl rfl ?_
        refine a_iastN dX6_marry_90 (isS_10 hD hb) (by first | with_reducible exact rfl | with_reducible exact ix8 _ _ | with_reducible exact ix12 _ _ | exact rfl) (by omega) (by decide) ?_
        refine a_aload_n (i := 0) dX6_marry_91 rfl rfl ?_
        refine a_dup dX6_marry_92 rfl ?_
        refine gX6_51 rfl dX6_marry_93 (isS_0 hD hb) ?_
        rw [aWr_n _ _ _ (by omega), sDrop_n (by omega) (by omega), show (lp (fun z y => aWr y (b + 5) (k1 * 8 + z) ((sLast y b k1 z + sLast y b k2 z) / 2)) 0 8 x) = sJoin x b k1 k2 from rfl, sJoin_n (by omega)]
        refine a_iload (i := 5) dX6_marry_96 rfl ?_
        refine a_ior dX6_marry_98 ?_
        refine pX6_51 rfl dX6_marry_99 (isS_0 hD hb) ?_
        refine a_iconst (v := 1) dX6_marry_102 (by decide) ?_
        exact a_iret dX6_marry_103 (by exact ⟨rfl, rfl⟩)
      · exact absurd (Int32.le_refl _) c_49
  refine a_metZ (by decide) (Nat.le_of_ble_eq_true rfl) rfl (by split <;> simp) ?_
  refine a_aload_n (i := 0) dX6_marry_0 rfl rfl ?_
  refine gX6_27 rfl dX6_marry_1 (isS_0 hD hb) ?_
  refine a_iload_n (i := 1) dX6_marry_4 rfl rfl ?_
  refine a_ialdN dX6_marry_5 (isS_10 hD hb) (by first | with_reducible exact rfl | with_reducible exact ix8 _ _ | with_reducible exact ix12 _ _ | exact rfl) (by omega) (by decide) ?_
  rw [e1]
  refine a_istore_n (i := 3) dX6_marry_6 rfl (by decide) ?_
  refine a_aload_n (i := 0) dX6_marry_7 rfl rfl ?_
  refine gX6_27 rfl dX6_marry_8 (isS_0 hD hb) ?_
  refine a_iload_n (i := 2) dX6_marry_11 rfl rfl ?_
  refine a_ialdN dX6_marry_12 (isS_10 hD hb) (by first | with_reducible exact rfl | with_reducible exact ix8 _ _ | with_reducible exact ix12 _ _ | exact rfl) (by omega) (by decide) ?_
  rw [e2]
  refine a_istore (i := 4) dX6_marry_13 (by decide) ?_
  refine a_iconst (v := 1) dX6_marry_15 (by decide) ?_
  refine a_iload_n (i := 1) dX6_marry_16 rfl rfl ?_
  refine a_ishl dX6_marry_17 ?_
  refine a_iconst (v := 1) dX6_marry_18 (by decide) ?_
  refine a_iload_n (i := 2) dX6_marry_19 rfl rfl ?_
  refine a_ishl dX6_marry_20 ?_
  refine a_ior dX6_marry_21 ?_
  refine a_istore (i := 5) dX6_marry_22 (by decide) ?_
  refine a_aload_n (i := 0) dX6_marry_24 rfl rfl ?_
  refine gX6_51 rfl dX6_marry_25 (isS_0 hD hb) ?_
  refine a_iload (i := 5) dX6_marry_28 rfl ?_
  refine a_iand dX6_marry_30 ?_
  refine a_if_ne (tg := 40) dX6_marry_31 (by decide) (fun c_31 => ?_) (fun c_31 => ?_)
  · refine a_iconst (v := 0) dX6_marry_40 (by decide) ?_
    exact a_iret dX6_marry_41 (by first | (rw [if_neg (fun h => c_31 h.1), if_neg (fun h => c_31 h.1)]; exact ⟨rfl, rfl⟩) | (rw [if_neg (fun h => h.2 ((nI_eq (by omega) (by omega)).mp c_37)), if_neg (fun h => h.2 ((nI_eq (by omega) (by omega)).mp c_37))]; exact ⟨rfl, rfl⟩))
  · refine a_iload_n (i := 3) dX6_marry_34 rfl rfl ?_
    refine a_iload (i := 4) dX6_marry_35 rfl ?_
    refine a_icmp_ne (tg := 42) dX6_marry_37 (by decide) (fun c_37 => ?_) (fun c_37 => ?_)
    · refine a_iconst (v := 0) dX6_marry_42 (by decide) ?_
      refine a_istore (i := 6) dX6_marry_43 (by decide) ?_
      have hok : x.1 b 3 &&& sCouple m1 m2 = 0 ∧ k1 ≠ k2 := ⟨c_31, fun h => c_37 (by rw [h])⟩
      rw [if_pos hok, if_pos hok]
      exact a_loc _ rfl L
    · refine a_iconst (v := 0) dX6_marry_40 (by decide) ?_
      exact a_iret dX6_marry_41 (by first | (rw [if_neg (fun h => c_31 h.1), if_neg (fun h => c_31 h.1)]; exact ⟨rfl, rfl⟩) | (rw [if_neg (fun h => h.2 ((nI_eq (by omega) (by omega)).mp c_37)), if_neg (fun h => h.2 ((nI_eq (by omega) (by omega)).mp c_37))]; exact ⟨rfl, rfl⟩))
def sBegin1 (t b : Nat) (m : Nat) (y : aS) : aS := aWr (aWr (aWr y (b + 10) m (y.1 (t + 7) m)) (b + 11) m (y.1 (t + 10) m)) (b + 12) m 0
def sBegin0 (x : aS) (t b : Nat) : aS := aWr (aWr (aWr (aWr x b 0 0) b 1 0) b 2 (x.1 t 17)) b 3 0
def sBegin (x : aS) (t b N F : Nat) : aS := lp (sBegin1 t b) 0 F (sBareAll (sBegin0 x t b) t b N)
theorem sBegin1_n {t b m n : Nat} {y : aS} (h0 : n ≠ b + 10) (h1 : n ≠ b + 11) (h2 : n ≠ b + 12) : (sBegin1 t b m y).1 n = y.1 n := by
  unfold sBegin1
  rw [aWr_n _ _ _ h2, aWr_n _ _ _ h1, aWr_n _ _ _ h0]
theorem tb_ne1 {t b : Nat} (ht : aTdB t) (hb : aStB b) : t ≠ b := by
  rcases ht with rfl | rfl <;> rcases hb with rfl | rfl | rfl <;> omega
theorem sBegin0_t {x : aS} {t b : Nat} (ht : aTdB t) (hb : aStB b) : (sBegin0 x t b).1 t = x.1 t := by
  unfold sBegin0
  rw [aWr_n _ _ _ (tb_ne1 ht hb), aWr_n _ _ _ (tb_ne1 ht hb), aWr_n _ _ _ (tb_ne1 ht hb), aWr_n _ _ _ (tb_ne1 ht hb)]
set_option maxHeartbeats 4000000 in
set_option maxRecDepth 100000 in
theorem c_X6_begin {l : Launch} {d : Nat} {D : Nat → Bool} {t b N F : Nat} {x : aS} (hD : aDC D) (hb : aStB b) (ht : aTdB t) (hN : x.1 t 1 = nI N) (hN6 : N ≤ 6) (hF : x.1 t 4 = nI F) (hF8 : F ≤ 8) : aDV l mX6_begin (d + 3) D [.ref b, .ref t] x (sBegin x t b N F) := by
  refine a_metV (by decide) (Nat.le_of_ble_eq_true rfl) rfl ?_
  refine a_aload_n (i := 0) dX6_begin_0 rfl rfl ?_
  refine a_iconst (v := 0) dX6_begin_1 (by decide) ?_
  refine pX6_36 rfl dX6_begin_2 (isS_0 hD hb) ?_
  refine a_aload_n (i := 0) dX6_begin_5 rfl rfl ?_
  refine a_iconst (v := 0) dX6_begin_6 (by decide) ?_
  refine pX6_40 rfl dX6_begin_7 (isS_0 hD hb) ?_
  refine a_aload_n (i := 0) dX6_begin_10 rfl rfl ?_
  refine a_aload_n (i := 1) dX6_begin_11 rfl rfl ?_
  refine gX6_43 rfl dX6_begin_12 (isT_0 hD ht) ?_
  rw [aWr_n _ _ _ (tb_ne1 ht hb), aWr_n _ _ _ (tb_ne1 ht hb)]
  refine pX6_48 rfl dX6_begin_15 (isS_0 hD hb) ?_
  refine a_aload_n (i := 0) dX6_begin_18 rfl rfl ?_
  refine a_iconst (v := 0) dX6_begin_19 (by decide) ?_
  refine pX6_51 rfl dX6_begin_20 (isS_0 hD hb) ?_
  refine a_aload_n (i := 0) dX6_begin_23 rfl rfl ?_
  refine a_aload_n (i := 1) dX6_begin_24 rfl rfl ?_
  refine kX6_54 rfl dX6_begin_25 (Nat.le_of_ble_eq_true rfl) (isS_0 hD hb) (c_X6_bareAll (x := sBegin0 x t b) hD hb ht (by rw [sBegin0_t ht hb]; exact hN) hN6) ?_
  refine a_iconst (v := 0) dX6_begin_28 (by decide) ?_
  refine a_istore_n (i := 2) dX6_begin_29 rfl (by decide) ?_
  refine a_loc [(0, .ref b), (1, .ref t), (2, .int (nI 0))] rfl ?_
  have hF1 : (sBareAll (sBegin0 x t b) t b N).1 t 4 = nI F := by
    rw [sBareAll_n (tb_ne0 ht hb (by decide)) (tb_ne0 ht hb (by decide)) (tb_ne0 ht hb (by decide)), sBegin0_t ht hb]
    exact hF
  refine lp_inv (P := fun i y => aV l mX6_begin (d + 3) D none 30 [(0, .ref b), (1, .ref t), (2, .int (nI i))] [] y _) (fun _ y => y.1 t 4 = nI F) (sBegin1 t b) ?_ ?_ F 0 _ (Nat.zero_add F) hF1 ?_
  · intro i y hi hy
    rw [sBegin1_n (tb_ne0 ht hb (by decide)) (tb_ne0 ht hb (by decide)) (tb_ne0 ht hb (by decide))]
    exact hy
  · intro i y hi hy ih
    refine a_iload_n (i := 2) dX6_begin_30 rfl rfl ?_
    refine a_aload_n (i := 1) dX6_begin_31 rfl rfl ?_
    refine gX6_58 rfl dX6_begin_32 (isT_0 hD ht) ?_
    rw [hy]
    refine a_icmp_ge (tg := 75) dX6_begin_35 (by decide) (fun c_35 => ?_) (fun c_35 => ?_)
    · exact absurd c_35 (nI_ge hi (by omega))
    · refine a_aload_n (i := 0) dX6_begin_38 rfl rfl ?_
      refine gX6_27 rfl dX6_begin_39 (isS_0 hD hb) ?_
      refine a_iload_n (i := 2) dX6_begin_42 rfl rfl ?_
      refine a_aload_n (i := 1) dX6_begin_43 rfl rfl ?_
      refine gX6_61 rfl dX6_begin_44 (isT_0 hD ht) ?_
      refine a_iload_n (i := 2) dX6_begin_47 rfl rfl ?_
      refine a_ialdN dX6_begin_48 (isT_7 hD ht) (by first | with_reducible exact rfl | with_reducible exact ix8 _ _ | with_reducible exact ix12 _ _ | exact rfl) (by omega) (by decide) ?_
      refine a_iastN dX6_begin_49 (isS_10 hD hb) (by first | with_reducible exact rfl | with_reducible exact ix8 _ _ | with_reducible exact ix12 _ _ | exact rfl) (by omega) (by decide) ?_
      refine a_aload_n (i := 0) dX6_begin_50 rfl rfl ?_
      refine gX6_30 rfl dX6_begin_51 (isS_0 hD hb) ?_
      refine a_iload_n (i := 2) dX6_begin_54 rfl rfl ?_
      refine a_aload_n (i := 1) dX6_begin_55 rfl rfl ?_
      refine gX6_64 rfl dX6_begin_56 (isT_0 hD ht) ?_
      refine a_iload_n (i := 2) dX6_begin_59 rfl rfl ?_
      refine a_ialdN dX6_begin_60 (isT_10 hD ht) (by first | with_reducible exact rfl | with_reducible exact ix8 _ _ | with_reducible exact ix12 _ _ | exact rfl) (by omega) (by decide) ?_
      rw [aWr_n _ _ _ (tb_ne ht hb (by decide) (by decide))]
      refine a_iastN dX6_begin_61 (isS_11 hD hb) (by first | with_reducible exact rfl | with_reducible exact ix8 _ _ | with_reducible exact ix12 _ _ | exact rfl) (by omega) (by decide) ?_
      refine a_aload_n (i := 0) dX6_begin_62 rfl rfl ?_
      refine gX6_33 rfl dX6_begin_63 (isS_0 hD hb) ?_
      refine a_iload_n (i := 2) dX6_begin_66 rfl rfl ?_
      refine a_iconst (v := 0) dX6_begin_67 (by decide) ?_
      refine a_iastN dX6_begin_68 (isS_12 hD hb) (by first | with_reducible exact rfl | with_reducible exact ix8 _ _ | with_reducible exact ix12 _ _ | exact rfl) (by omega) (by decide) ?_
      refine a_iincK (i := 2) (u := 1) dX6_begin_69 rfl (by decide) (by decide) ?_
      refine a_goto (tg := 30) dX6_begin_72 (by decide) ?_
      rw [nI_1]; exact a_loc _ rfl ih
  · intro hy
    refine a_iload_n (i := 2) dX6_begin_30 rfl rfl ?_
    refine a_aload_n (i := 1) dX6_begin_31 rfl rfl ?_
    refine gX6_58 rfl dX6_begin_32 (isT_0 hD ht) ?_
    rw [hy]
    refine a_icmp_ge (tg := 75) dX6_begin_35 (by decide) (fun c_35 => ?_) (fun c_35 => ?_)
    · exact a_vret dX6_begin_75 (by exact ⟨rfl, rfl⟩)
    · exact absurd (Int32.le_refl _) c_35
def sCpy1 (b o k len : Nat) (x : aS) : aS := aWw x (b + k) (va_cpy (x.1 (o + k)) (x.1 (b + k)) 0 0 len)
def sCopy (x : aS) (b o : Nat) : aS :=
  sCpy1 b o 12 8 (sCpy1 b o 11 8 (sCpy1 b o 10 8 (sCpy1 b o 9 72 (sCpy1 b o 8 72 (sCpy1 b o 7 6 (sCpy1 b o 6 48 (sCpy1 b o 5 48
    (aWr (aWr (aWr (aWr x b 0 (x.1 o 0)) b 1 (x.1 o 1)) b 2 (x.1 o 2)) b 3 (x.1 o 3)))))))))
set_option maxHeartbeats 4000000 in
set_option maxRecDepth 100000 in
theorem c_X6_copyFrom {l : Launch} {d : Nat} {D : Nat → Bool} {b o : Nat} {x : aS} (hD : aDC D) (hb : aStB b) (ho : aStB o) (hne : o ≠ b) : aDV l mX6_copyFrom (d + 1) D [.ref b, .ref o] x (sCopy x b o) := by
  refine a_metV (by decide) (Nat.le_of_ble_eq_true rfl) rfl ?_
  refine a_aload_n (i := 0) dX6_copyFrom_0 rfl rfl ?_
  refine a_aload_n (i := 1) dX6_copyFrom_1 rfl rfl ?_
  refine gX6_36 rfl dX6_copyFrom_2 (isS_0 hD ho) ?_
  refine pX6_36 rfl dX6_copyFrom_5 (isS_0 hD hb) ?_
  refine a_aload_n (i := 0) dX6_copyFrom_8 rfl rfl ?_
  refine a_aload_n (i := 1) dX6_copyFrom_9 rfl rfl ?_
  refine gX6_40 rfl dX6_copyFrom_10 (isS_0 hD ho) ?_
  rw [aWr_n _ _ _ hne]
  refine pX6_40 rfl dX6_copyFrom_13 (isS_0 hD hb) ?_
  refine a_aload_n (i := 0) dX6_copyFrom_16 rfl rfl ?_
  refine a_aload_n (i := 1) dX6_copyFrom_17 rfl rfl ?_
  refine gX6_48 rfl dX6_copyFrom_18 (isS_0 hD ho) ?_
  rw [aWr_n _ _ _ hne, aWr_n _ _ _ hne]
  refine pX6_48 rfl dX6_copyFrom_21 (isS_0 hD hb) ?_
  refine a_aload_n (i := 0) dX6_copyFrom_24 rfl rfl ?_
  refine a_aload_n (i := 1) dX6_copyFrom_25 rfl rfl ?_
  refine gX6_51 rfl dX6_copyFrom_26 (isS_0 hD ho) ?_
  rw [aWr_n _ _ _ hne, aWr_n _ _ _ hne, aWr_n _ _ _ hne]
  refine pX6_51 rfl dX6_copyFrom_29 (isS_0 hD hb) ?_
  refine a_aload_n (i := 1) dX6_copyFrom_32 rfl rfl ?_
  refine gX6_9 rfl dX6_copyFrom_33 (isS_0 hD ho) ?_
  refine a_iconst (v := 0) dX6_copyFrom_36 (by decide) ?_
  refine a_aload_n (i := 0) dX6_copyFrom_37 rfl rfl ?_
  refine gX6_9 rfl dX6_copyFrom_38 (isS_0 hD hb) ?_
  refine a_iconst (v := 0) dX6_copyFrom_41 (by decide) ?_
  refine a_aload_n (i := 0) dX6_copyFrom_42 rfl rfl ?_
  refine gX6_9 rfl dX6_copyFrom_43 (isS_0 hD hb) ?_
  refine a_alen dX6_copyFrom_46 (isS_5 hD hb) (by decide) ?_
  refine kX6_67 rfl dX6_copyFrom_47 (Nat.le_of_ble_eq_true rfl) (isS_5 hD ho) (isS_5 hD hb) (by decide) (by decide) (by decide) (by decide) (by decide) ?_
  refine a_aload_n (i := 1) dX6_copyFrom_50 rfl rfl ?_
  refine gX6_15 rfl dX6_copyFrom_51 (isS_0 hD ho) ?_
  refine a_iconst (v := 0) dX6_copyFrom_54 (by decide) ?_
  refine a_aload_n (i := 0) dX6_copyFrom_55 rfl rfl ?_
  refine gX6_15 rfl dX6_copyFrom_56 (isS_0 hD hb) ?_
  refine a_iconst (v := 0) dX6_copyFrom_59 (by decide) ?_
  refine a_aload_n (i := 0) dX6_copyFrom_60 rfl rfl ?_
  refine gX6_15 rfl dX6_copyFrom_61 (isS_0 hD hb) ?_
  refine a_alen dX6_copyFrom_64 (isS_6 hD hb) (by decide) ?_
  refine kX6_67 rfl dX6_copyFrom_65 (Nat.le_of_ble_eq_true rfl) (isS_6 hD ho) (isS_6 hD hb) (by decide) (by decide) (by decide) (by decide) (by decide) ?_
  refine a_aload_n (i := 1) dX6_copyFrom_68 rfl rfl ?_
  refine gX6_18 rfl dX6_copyFrom_69 (isS_0 hD ho) ?_
  refine a_iconst (v := 0) dX6_copyFrom_72 (by decide) ?_
  refine a_aload_n (i := 0) dX6_copyFrom_73 rfl rfl ?_
  refine gX6_18 rfl dX6_copyFrom_74 (isS_0 hD hb) ?_
  refine a_iconst (v := 0) dX6_copyFrom_77 (by decide) ?_
  refine a_aload_n (i := 0) dX6_copyFrom_78 rfl rfl ?_
  refine gX6_18 rfl dX6_copyFrom_79 (isS_0 hD hb) ?_
  refine a_alen dX6_copyFrom_82 (isS_7 hD hb) (by decide) ?_
  refine kX6_67 rfl dX6_copyFrom_83 (Nat.le_of_ble_eq_true rfl) (isS_7 hD ho) (isS_7 hD hb) (by decide) (by decide) (by decide) (by decide) (by decide) ?_
  refine a_aload_n (i := 1) dX6_copyFrom_86 rfl rfl ?_
  refine gX6_21 rfl dX6_copyFrom_87 (isS_0 hD ho) ?_
  refine a_iconst (v := 0) dX6_copyFrom_90 (by decide) ?_
  refine a_aload_n (i := 0) dX6_copyFrom_91 rfl rfl ?_
  refine gX6_21 rfl dX6_copyFrom_92 (isS_0 hD hb) ?_
  refine a_iconst (v := 0) dX6_copyFrom_95 (by decide) ?_
  refine a_aload_n (i := 0) dX6_copyFrom_96 rfl rfl ?_
  refine gX6_21 rfl dX6_copyFrom_97 (isS_0 hD hb) ?_
  refine a_alen dX6_copyFrom_100 (isS_8 hD hb) (by decide) ?_
  refine kX6_67 rfl dX6_copyFrom_101 (Nat.le_of_ble_eq_true rfl) (isS_8 hD ho) (isS_8 hD hb) (by decide) (by decide) (by decide) (by decide) (by decide) ?_
  refine a_aload_n (i := 1) dX6_copyFrom_104 rfl rfl ?_
  refine gX6_24 rfl dX6_copyFrom_105 (isS_0 hD ho) ?_
  refine a_iconst (v := 0) dX6_copyFrom_108 (by decide) ?_
  refine a_aload_n (i := 0) dX6_copyFrom_109 rfl rfl ?_
  refine gX6_24 rfl dX6_copyFrom_110 (isS_0 hD hb) ?_
  refine a_iconst (v := 0) dX6_copyFrom_113 (by decide) ?_
  refine a_aload_n (i := 0) dX6_copyFrom_114 rfl rfl ?_
  refine gX6_24 rfl dX6_copyFrom_115 (isS_0 hD hb) ?_
  refine a_alen dX6_copyFrom_118 (isS_9 hD hb) (by decide) ?_
  refine kX6_67 rfl dX6_copyFrom_119 (Nat.le_of_ble_eq_true rfl) (isS_9 hD ho) (isS_9 hD hb) (by decide) (by decide) (by decide) (by decide) (by decide) ?_
  refine a_aload_n (i := 1) dX6_copyFrom_122 rfl rfl ?_
  refine gX6_27 rfl dX6_copyFrom_123 (isS_0 hD ho) ?_
  refine a_iconst (v := 0) dX6_copyFrom_126 (by decide) ?_
  refine a_aload_n (i := 0) dX6_copyFrom_127 rfl rfl ?_
  refine gX6_27 rfl dX6_copyFrom_128 (isS_0 hD hb) ?_
  refine a_iconst (v := 0) dX6_copyFrom_131 (by decide) ?_
  refine a_aload_n (i := 0) dX6_copyFrom_132 rfl rfl ?_
  refine gX6_27 rfl dX6_copyFrom_133 (isS_0 hD hb) ?_
  refine a_alen dX6_copyFrom_136 (isS_10 hD hb) (by decide) ?_
  refine kX6_67 rfl dX6_copyFrom_137 (Nat.le_of_ble_eq_true rfl) (isS_10 hD ho) (isS_10 hD hb) (by decide) (by decide) (by decide) (by decide) (by decide) ?_
  refine a_aload_n (i := 1) dX6_copyFrom_140 rfl rfl ?_
  refine gX6_30 rfl dX6_copyFrom_141 (isS_0 hD ho) ?_
  refine a_iconst (v := 0) dX6_copyFrom_144 (by decide) ?_
  refine a_aload_n (i := 0) dX6_copyFrom_145 rfl rfl ?_
  refine gX6_30 rfl dX6_copyFrom_146 (isS_0 hD hb) ?_
  refine a_iconst (v := 0) dX6_copyFrom_149 (by decide) ?_
  refine a_aload_n (i := 0) dX6_copyFrom_150 rfl rfl ?_
  refine gX6_30 rfl dX6_copyFrom_151 (isS_0 hD hb) ?_
  refine a_alen dX6_copyFrom_154 (isS_11 hD hb) (by decide) ?_
  refine kX6_67 rfl dX6_copyFrom_155 (Nat.le_of_ble_eq_true rfl) (isS_11 hD ho) (isS_11 hD hb) (by decide) (by decide) (by decide) (by decide) (by decide) ?_
  refine a_aload_n (i := 1) dX6_copyFrom_158 rfl rfl ?_
  refine gX6_33 rfl dX6_copyFrom_159 (isS_0 hD ho) ?_
  refine a_iconst (v := 0) dX6_copyFrom_162 (by decide) ?_
  refine a_aload_n (i := 0) dX6_copyFrom_163 rfl rfl ?_
  refine gX6_33 rfl dX6_copyFrom_164 (isS_0 hD hb) ?_
  refine a_iconst (v := 0) dX6_copyFrom_167 (by decide) ?_
  refine a_aload_n (i := 0) dX6_copyFrom_168 rfl rfl ?_
  refine gX6_33 rfl dX6_copyFrom_169 (isS_0 hD hb) ?_
  refine a_alen dX6_copyFrom_172 (isS_12 hD hb) (by decide) ?_
  refine kX6_67 rfl dX6_copyFrom_173 (Nat.le_of_ble_eq_true rfl) (isS_12 hD ho) (isS_12 hD hb) (by decide) (by decide) (by decide) (by decide) (by decide) ?_
  exact a_vret dX6_copyFrom_176 (by exact ⟨rfl, rfl⟩)
def tStrips (x : aS) (t S : Nat) (y : Int32) : Bool := (List.range S).any (fun i => decide (x.1 (t + 16) i = y))
theorem any_range (S : Nat) (p : Nat → Bool) : (∃ i, i < S ∧ p i = true) ↔ (List.range S).any p = true := by
  simp [List.any_eq_true]
set_option maxHeartbeats 4000000 in
set_option maxRecDepth 100000 in
theorem c_X8_stripsIn {l : Launch} {d : Nat} {D : Nat → Bool} {t S : Nat} {y : Int32} {x : aS} (hD : aDC D) (ht : aTdB t) (hS : x.1 t 14 = nI S) (hS4 : S ≤ 4) : aDI l mX8_stripsIn d D [.ref t, .int y] x (if tStrips x t S y then 1 else 0) x := by
  refine a_metZ (by decide) (Nat.le_of_ble_eq_true rfl) rfl (by split <;> simp) ?_
  refine a_iconst (v := 0) dX8_stripsIn_0 (by decide) ?_
  refine a_istore_n (i := 2) dX8_stripsIn_1 rfl (by decide) ?_
  refine a_loc [(0, .ref t), (1, .int y), (2, .int (nI 0))] rfl ?_
  refine dn_rule (P := fun i => (∀ j, j < i → ¬ x.1 (t + 16) j = y) → aV l mX8_stripsIn d D none 2 [(0, .ref t), (1, .int y), (2, .int (nI i))] [] x _) ?_ ?_ S 0 (Nat.zero_add S) (fun j h => absurd h (Nat.not_lt_zero j))
  · intro hI
    refine a_iload_n (i := 2) dX8_stripsIn_2 rfl rfl ?_
    refine a_aload_n (i := 0) dX8_stripsIn_3 rfl rfl ?_
    refine gX8_79 rfl dX8_stripsIn_4 (isT_0 hD ht) ?_
    rw [hS]
    refine a_icmp_ge (tg := 28) dX8_stripsIn_7 (by decide) (fun c_7 => ?_) (fun c_7 => ?_)
    · refine a_iconst (v := 0) dX8_stripsIn_28 (by decide) ?_
      exact a_iret dX8_stripsIn_29 (by rw [tStrips, if_neg (fun h => by obtain ⟨j, hj, e⟩ := (any_range S _).mpr h; exact hI j hj (by simpa using e))]; exact ⟨rfl, rfl⟩)
    · exact absurd (Int32.le_refl _) c_7
  · intro i hi ih hI
    refine a_iload_n (i := 2) dX8_stripsIn_2 rfl rfl ?_
    refine a_aload_n (i := 0) dX8_stripsIn_3 rfl rfl ?_
    refine gX8_79 rfl dX8_stripsIn_4 (isT_0 hD ht) ?_
    rw [hS]
    refine a_icmp_ge (tg := 28) dX8_stripsIn_7 (by decide) (fun c_7 => ?_) (fun c_7 => ?_)
    · exact absurd c_7 (nI_ge hi (by omega))
    · refine a_aload_n (i := 0) dX8_stripsIn_10 rfl rfl ?_
      refine gX8_45 rfl dX8_stripsIn_11 (isT_0 hD ht) ?_
      refine a_iload_n (i := 2) dX8_stripsIn_14 rfl rfl ?_
      refine a_ialdN dX8_stripsIn_15 (isT_16 hD ht) (by first | with_reducible exact rfl | with_reducible exact ix8 _ _ | with_reducible exact ix12 _ _ | exact rfl) (by omega) (by decide) ?_
      refine a_iload_n (i := 1) dX8_stripsIn_16 rfl rfl ?_
      refine a_icmp_ne (tg := 22) dX8_stripsIn_17 (by decide) (fun c_17 => ?_) (fun c_17 => ?_)
      · refine a_iincK (i := 2) (u := 1) dX8_stripsIn_22 rfl (by decide) (by decide) ?_
        refine a_goto (tg := 2) dX8_stripsIn_25 (by decide) ?_
        rw [nI_1]; exact a_loc _ rfl (ih (lt_s hI c_17))
      · refine a_iconst (v := 1) dX8_stripsIn_20 (by decide) ?_
        exact a_iret dX8_stripsIn_21 (by rw [tStrips, if_pos ((any_range S _).mp ⟨i, hi, by simpa using c_17⟩)]; exact ⟨rfl, rfl⟩)
/-! LastHouse$Law at the cell n, its rows behind it at n + 10, n + 20 -/
def wClear (x : aS) (n : Nat) : aS := aWr (aWr x n 0 0) n 1 0
set_option maxHeartbeats 4000000 in
set_option maxRecDepth 100000 in
theorem c_X2_clear {l : Launch} {d : Nat} {D : Nat → Bool} {n : Nat} {x : aS} (hn : aIs D n 2 0) : aDV l mX2_clear d D [.ref n] x (wClear x n) := by
  refine a_metV (by decide) (Nat.le_of_ble_eq_true rfl) rfl ?_
  refine a_aload_n (i := 0) dX2_clear_0 rfl rfl ?_
  refine a_iconst (v := 0) dX2_clear_1 (by decide) ?_
  refine pX2_18 rfl dX2_clear_2 (hn) (by first | exact Or.inl rfl | exact Or.inr rfl | assumption) ?_
  refine a_aload_n (i := 0) dX2_clear_5 rfl rfl ?_
  refine a_iconst (v := 0) dX2_clear_6 (by decide) ?_
  refine pX2_22 rfl dX2_clear_7 (hn) ?_
  exact a_vret dX2_clear_10 (by exact ⟨rfl, rfl⟩)
def tClear (x : aS) (t : Nat) : aS := wClear (wClear (wClear (aWr (aWr (aWr (aWr (aWr (aWr (aWr (aWr (aWr x t 0 0) t 1 0) t 4 0) t 10 0) t 12 0) t 14 0) t 16 0) t 17 0) t 18 0) (t + 130)) (t + 131)) (t + 132)
set_option maxHeartbeats 4000000 in
set_option maxRecDepth 100000 in
theorem c_X8_clear {l : Launch} {d : Nat} {D : Nat → Bool} {t : Nat} {x : aS} (hD : aDC D) (ht : aTdB t) : aDV l mX8_clear (d + 1) D [.ref t] x (tClear x t) := by
  refine a_metV (by decide) (Nat.le_of_ble_eq_true rfl) rfl ?_
  refine a_aload_n (i := 0) dX8_clear_0 rfl rfl ?_
  refine a_iconst (v := 0) dX8_clear_1 (by decide) ?_
  refine pX8_63 rfl dX8_clear_2 (isT_0 hD ht) ?_
  refine a_aload_n (i := 0) dX8_clear_5 rfl rfl ?_
  refine a_iconst (v := 0) dX8_clear_6 (by decide) ?_
  refine pX8_67 rfl dX8_clear_7 (isT_0 hD ht) ?_
  refine a_aload_n (i := 0) dX8_clear_10 rfl rfl ?_
  refine a_iconst (v := 0) dX8_clear_11 (by decide) ?_
  refine pX8_70 rfl dX8_clear_12 (isT_0 hD ht) ?_
  refine a_aload_n (i := 0) dX8_clear_15 rfl rfl ?_
  refine a_iconst (v := 0) dX8_clear_16 (by decide) ?_
  refine pX8_73 rfl dX8_clear_17 (isT_0 hD ht) ?_
  refine a_aload_n (i := 0) dX8_clear_20 rfl rfl ?_
  refine a_iconst (v := 0) dX8_clear_21 (by decide) ?_
  refine pX8_76 rfl dX8_clear_22 (isT_0 hD ht) ?_
  refine a_aload_n (i := 0) dX8_clear_25 rfl rfl ?_
  refine a_iconst (v := 0) dX8_clear_26 (by decide) ?_
  refine pX8_79 rfl dX8_clear_27 (isT_0 hD ht) ?_
  refine a_aload_n (i := 0) dX8_clear_30 rfl rfl ?_
  refine a_iconst (v := 0) dX8_clear_31 (by decide) ?_
  refine pX8_82 rfl dX8_clear_32 (isT_0 hD ht) ?_
  refine a_aload_n (i := 0) dX8_clear_35 rfl rfl ?_
  refine a_iconst (v := 0) dX8_clear_36 (by decide) ?_
  refine pX8_85 rfl dX8_clear_37 (isT_0 hD ht) ?_
  refine a_aload_n (i := 0) dX8_clear_40 rfl rfl ?_
  refine a_iconst (v := 0) dX8_clear_41 (by decide) ?_
  refine pX8_88 rfl dX8_clear_42 (isT_0 hD ht) ?_
  refine a_aload_n (i := 0) dX8_clear_45 rfl rfl ?_
  refine gX8_51 rfl dX8_clear_46 (isT_0 hD ht) ?_
  refine kX8_91 rfl dX8_clear_49 (Nat.le_of_ble_eq_true rfl) (isW_0 hD ht) (c_X2_clear (isW_0 hD ht)) ?_
  refine a_aload_n (i := 0) dX8_clear_52 rfl rfl ?_
  refine gX8_55 rfl dX8_clear_53 (isT_0 hD ht) ?_
  refine kX8_91 rfl dX8_clear_56 (Nat.le_of_ble_eq_true rfl) (isW_1 hD ht) (c_X2_clear (isW_1 hD ht)) ?_
  refine a_aload_n (i := 0) dX8_clear_59 rfl rfl ?_
  refine gX8_58 rfl dX8_clear_60 (isT_0 hD ht) ?_
  refine kX8_91 rfl dX8_clear_63 (Nat.le_of_ble_eq_true rfl) (isW_2 hD ht) (c_X2_clear (isW_2 hD ht)) ?_
  exact a_vret dX8_clear_66 (by exact ⟨rfl, rfl⟩)
def wApp (x : aS) (n s : Nat) (a u : Int32) : aS := aWr (aWr (aWr x (n + 10) s a) (n + 20) s u) n 1 (nI (s + 1))
set_option maxHeartbeats 4000000 in
set_option maxRecDepth 100000 in
theorem c_X2_append {l : Launch} {d : Nat} {D : Nat → Bool} {n s : Nat} {a u : Int32} {x : aS} (hn : aIs D n 2 0) (h1 : aIs D (n + 10) 14 64) (h2 : aIs D (n + 20) 14 64) (hs : x.1 n 1 = nI s) (hs64 : s < 64) : aDV l mX2_append d D [.ref n, .int a, .int u] x (wApp x n s a u) := by
  refine a_metV (by decide) (Nat.le_of_ble_eq_true rfl) rfl ?_
  refine a_aload_n (i := 0) dX2_append_0 rfl rfl ?_
  refine gX2_22 rfl dX2_append_1 (hn) ?_
  rw [hs]
  refine a_bipush (v := 64) dX2_append_4 (by decide) ?_
  refine a_icmp_ge (tg := 39) dX2_append_6 (by decide) (fun c_6 => ?_) (fun c_6 => ?_)
  · exact absurd c_6 (nI_ge hs64 (by decide))
  · refine a_aload_n (i := 0) dX2_append_9 rfl rfl ?_
    refine gX2_9 rfl dX2_append_10 (hn) ?_
    refine a_aload_n (i := 0) dX2_append_13 rfl rfl ?_
    refine gX2_22 rfl dX2_append_14 (hn) ?_
    rw [hs]
    refine a_iload_n (i := 1) dX2_append_17 rfl rfl ?_
    refine a_iastN dX2_append_18 (by exact h1) (by first | with_reducible exact rfl | with_reducible exact ix8 _ _ | with_reducible exact ix12 _ _ | exact rfl) (by omega) (by decide) ?_
    refine a_aload_n (i := 0) dX2_append_19 rfl rfl ?_
    refine gX2_15 rfl dX2_append_20 (hn) ?_
    refine a_aload_n (i := 0) dX2_append_23 rfl rfl ?_
    refine gX2_22 rfl dX2_append_24 (hn) ?_
    rw [aWr_n _ _ _ (by omega), hs]
    refine a_iload_n (i := 2) dX2_append_27 rfl rfl ?_
    refine a_iastN dX2_append_28 (by exact h2) (by first | with_reducible exact rfl | with_reducible exact ix8 _ _ | with_reducible exact ix12 _ _ | exact rfl) (by omega) (by decide) ?_
    refine a_aload_n (i := 0) dX2_append_29 rfl rfl ?_
    refine a_dup dX2_append_30 rfl ?_
    refine gX2_22 rfl dX2_append_31 (hn) ?_
    rw [aWr_n _ _ _ (by omega), aWr_n _ _ _ (by omega), hs]
    refine a_iconst (v := 1) dX2_append_34 (by decide) ?_
    refine a_iadd dX2_append_35 ?_
    rw [nI_1]
    refine pX2_22 rfl dX2_append_36 (hn) ?_
    exact a_vret dX2_append_39 (by exact ⟨rfl, rfl⟩)
