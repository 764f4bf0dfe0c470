/-! LastHouse$Years: names, laws -/
def aSq (x y : aS) : Prop := (∀ n, n ≠ bYr + 1 → y.1 n = x.1 n) ∧ (∀ n, n ≠ bYr + 2 → y.2 n = x.2 n)
theorem yb_ne {b j k : Nat} (hb : aStB b) (hj : j < 256) : b + j ≠ bYr + k := by
  unfold bYr
  rcases hb with rfl | rfl | rfl <;> omega
theorem yb_ne0 {b k : Nat} (hb : aStB b) : b ≠ bYr + k := by
  unfold bYr
  rcases hb with rfl | rfl | rfl <;> omega
theorem yt_ne {t j k : Nat} (ht : aTdB t) (hj : j < 256) : t + j ≠ bYr + k := by
  unfold bYr
  rcases ht with rfl | rfl <;> omega
theorem yd_ne {t i k : Nat} (ht : aTdB t) (hi : i < 14) : t + 12 + 88 + i ≠ bYr + k := by
  unfold bYr
  rcases ht with rfl | rfl <;> omega
theorem sLast_w {x : aS} {n j b h z : Nat} {v : Int32} (h5 : b + 5 ≠ n) (h6 : b + 6 ≠ n) : sLast (aWr x n j v) b h z = sLast x b h z := by
  unfold sLast
  rw [aWr_n _ _ _ h5, aWr_n _ _ _ h6]
def sNm (x : aS) (a0 a1 a2 a3 a4 a5 a6 : Int32) : aS := aWr (aWr (aWr (aWr (aWr (aWr (aWr x (bYr + 1) 0 a0) (bYr + 1) 1 a1) (bYr + 1) 2 a2) (bYr + 1) 3 a3) (bYr + 1) 4 a4) (bYr + 1) 5 a5) (bYr + 1) 6 a6
theorem sNm_n {x : aS} {a0 a1 a2 a3 a4 a5 a6 : Int32} {n : Nat} (h : n ≠ bYr + 1) : (sNm x a0 a1 a2 a3 a4 a5 a6).1 n = x.1 n := by
  unfold sNm
  rw [aWr_n _ _ _ h, aWr_n _ _ _ h, aWr_n _ _ _ h, aWr_n _ _ _ h, aWr_n _ _ _ h, aWr_n _ _ _ h, aWr_n _ _ _ h]
set_option maxHeartbeats 4000000 in
set_option maxRecDepth 100000 in
theorem c_X10_nameMan {l : Launch} {d : Nat} {D : Nat → Bool} {t b m z k : Nat} {p : Int32} {x : aS} (hD : aDC D) (hb : aStB b) (ht : aTdB t) (hm : m < 8) (hz1 : x.1 (t + 9) m = nI z) (hz : z < 8) (hk1 : x.1 (b + 10) m = nI k) (hk : k < 6) : aDV l mX10_nameMan (d + 1) D [.ref bYr, .ref t, .ref b, .int (nI m), .int p] x (sNm x 0 (nI z) (sLast x b k z) p (x.1 (b + 12) m) (x.1 (b + 7) k) (x.1 b 0)) := by
  have n5 : ∀ k, b + 5 ≠ bYr + k := fun k => yb_ne hb (by decide)
  have n6 : ∀ k, b + 6 ≠ bYr + k := fun k => yb_ne hb (by decide)
  have n7 : ∀ k, b + 7 ≠ bYr + k := fun k => yb_ne hb (by decide)
  have n10 : ∀ k, b + 10 ≠ bYr + k := fun k => yb_ne hb (by decide)
  have n12 : ∀ k, b + 12 ≠ bYr + k := fun k => yb_ne hb (by decide)
  have n0 : ∀ k, b ≠ bYr + k := fun k => yb_ne0 hb
  refine a_metV (by decide) (Nat.le_of_ble_eq_true rfl) rfl ?_
  refine a_aload_n (i := 1) dX10_nameMan_0 rfl rfl ?_
  refine gX10_162 rfl dX10_nameMan_1 (isT_0 hD ht) ?_
  refine a_iload_n (i := 3) dX10_nameMan_4 rfl rfl ?_
  refine a_ialdN dX10_nameMan_5 (isT_9 hD ht) (by first | with_reducible exact rfl | with_reducible exact ix8 _ _ | with_reducible exact ix12 _ _ | exact rfl) (by omega) (by decide) ?_
  rw [hz1]
  refine a_istore (i := 5) dX10_nameMan_6 (by decide) ?_
  refine a_aload_n (i := 0) dX10_nameMan_8 rfl rfl ?_
  refine gX10_9 rfl dX10_nameMan_9 (isYr_0 hD) ?_
  refine a_iconst (v := 0) dX10_nameMan_12 (by decide) ?_
  refine a_iconst (v := 0) dX10_nameMan_13 (by decide) ?_
  refine a_iastN dX10_nameMan_14 (isYr_1 hD) (by first | exact (show (0 : Int32) = nI 0 from rfl) | with_reducible exact rfl | with_reducible exact ix8 _ _ | with_reducible exact ix12 _ _ | exact rfl) (by omega) (by decide) ?_
  refine a_aload_n (i := 0) dX10_nameMan_15 rfl rfl ?_
  refine gX10_9 rfl dX10_nameMan_16 (isYr_0 hD) ?_
  refine a_iconst (v := 1) dX10_nameMan_19 (by decide) ?_
  refine a_iload (i := 5) dX10_nameMan_20 rfl ?_
  refine a_iastN dX10_nameMan_22 (isYr_1 hD) (by first | exact (show (1 : Int32) = nI 1 from rfl) | with_reducible exact rfl | with_reducible exact ix8 _ _ | with_reducible exact ix12 _ _ | exact rfl) (by omega) (by decide) ?_
  refine a_aload_n (i := 0) dX10_nameMan_23 rfl rfl ?_
  refine gX10_9 rfl dX10_nameMan_24 (isYr_0 hD) ?_
  refine a_iconst (v := 2) dX10_nameMan_27 (by decide) ?_
  refine a_aload_n (i := 2) dX10_nameMan_28 rfl rfl ?_
  refine a_aload_n (i := 2) dX10_nameMan_29 rfl rfl ?_
  refine gX10_165 rfl dX10_nameMan_30 (isS_0 hD hb) ?_
  refine a_iload_n (i := 3) dX10_nameMan_33 rfl rfl ?_
  refine a_ialdN dX10_nameMan_34 (isS_10 hD hb) (by first | with_reducible exact rfl | with_reducible exact ix8 _ _ | with_reducible exact ix12 _ _ | exact rfl) (by omega) (by decide) ?_
  rw [aWr_n _ _ _ (n10 _), aWr_n _ _ _ (n10 _), hk1]
  refine a_iload (i := 5) dX10_nameMan_35 rfl ?_
  refine kX10_153 rfl dX10_nameMan_37 (Nat.le_of_ble_eq_true rfl) (isS_0 hD hb) (c_X6_lastAt hD hb hk hz) ?_
  rw [sLast_w (n5 _) (n6 _), sLast_w (n5 _) (n6 _)]
  refine a_iastN dX10_nameMan_40 (isYr_1 hD) (by first | exact (show (2 : Int32) = nI 2 from rfl) | with_reducible exact rfl | with_reducible exact ix8 _ _ | with_reducible exact ix12 _ _ | exact rfl) (by omega) (by decide) ?_
  refine a_aload_n (i := 0) dX10_nameMan_41 rfl rfl ?_
  refine gX10_9 rfl dX10_nameMan_42 (isYr_0 hD) ?_
  refine a_iconst (v := 3) dX10_nameMan_45 (by decide) ?_
  refine a_iload (i := 4) dX10_nameMan_46 rfl ?_
  refine a_iastN dX10_nameMan_48 (isYr_1 hD) (by first | exact (show (3 : Int32) = nI 3 from rfl) | with_reducible exact rfl | with_reducible exact ix8 _ _ | with_reducible exact ix12 _ _ | exact rfl) (by omega) (by decide) ?_
  refine a_aload_n (i := 0) dX10_nameMan_49 rfl rfl ?_
  refine gX10_9 rfl dX10_nameMan_50 (isYr_0 hD) ?_
  refine a_iconst (v := 4) dX10_nameMan_53 (by decide) ?_
  refine a_aload_n (i := 2) dX10_nameMan_54 rfl rfl ?_
  refine gX10_134 rfl dX10_nameMan_55 (isS_0 hD hb) ?_
  refine a_iload_n (i := 3) dX10_nameMan_58 rfl rfl ?_
  refine a_ialdN dX10_nameMan_59 (isS_12 hD hb) (by first | with_reducible exact rfl | with_reducible exact ix8 _ _ | with_reducible exact ix12 _ _ | exact rfl) (by omega) (by decide) ?_
  rw [aWr_n _ _ _ (n12 _), aWr_n _ _ _ (n12 _), aWr_n _ _ _ (n12 _), aWr_n _ _ _ (n12 _)]
  refine a_iastN dX10_nameMan_60 (isYr_1 hD) (by first | exact (show (4 : Int32) = nI 4 from rfl) | with_reducible exact rfl | with_reducible exact ix8 _ _ | with_reducible exact ix12 _ _ | exact rfl) (by omega) (by decide) ?_
  refine a_aload_n (i := 0) dX10_nameMan_61 rfl rfl ?_
  refine gX10_9 rfl dX10_nameMan_62 (isYr_0 hD) ?_
  refine a_iconst (v := 5) dX10_nameMan_65 (by decide) ?_
  refine a_aload_n (i := 2) dX10_nameMan_66 rfl rfl ?_
  refine gX10_156 rfl dX10_nameMan_67 (isS_0 hD hb) ?_
  refine a_aload_n (i := 2) dX10_nameMan_70 rfl rfl ?_
  refine gX10_165 rfl dX10_nameMan_71 (isS_0 hD hb) ?_
  refine a_iload_n (i := 3) dX10_nameMan_74 rfl rfl ?_
  refine a_ialdN dX10_nameMan_75 (isS_10 hD hb) (by first | with_reducible exact rfl | with_reducible exact ix8 _ _ | with_reducible exact ix12 _ _ | exact rfl) (by omega) (by decide) ?_
  rw [aWr_n _ _ _ (n10 _), aWr_n _ _ _ (n10 _), aWr_n _ _ _ (n10 _), aWr_n _ _ _ (n10 _), aWr_n _ _ _ (n10 _), hk1]
  refine a_ialdN dX10_nameMan_76 (isS_7 hD hb) (by first | with_reducible exact rfl | with_reducible exact ix8 _ _ | with_reducible exact ix12 _ _ | exact rfl) (by omega) (by decide) ?_
  rw [aWr_n _ _ _ (n7 _), aWr_n _ _ _ (n7 _), aWr_n _ _ _ (n7 _), aWr_n _ _ _ (n7 _), aWr_n _ _ _ (n7 _)]
  refine a_iastN dX10_nameMan_77 (isYr_1 hD) (by first | exact (show (5 : Int32) = nI 5 from rfl) | with_reducible exact rfl | with_reducible exact ix8 _ _ | with_reducible exact ix12 _ _ | exact rfl) (by omega) (by decide) ?_
  refine a_aload_n (i := 0) dX10_nameMan_78 rfl rfl ?_
  refine gX10_9 rfl dX10_nameMan_79 (isYr_0 hD) ?_
  refine a_bipush (v := 6) dX10_nameMan_82 (by decide) ?_
  refine a_aload_n (i := 2) dX10_nameMan_84 rfl rfl ?_
  refine gX10_46 rfl dX10_nameMan_85 (isS_0 hD hb) ?_
  rw [aWr_n _ _ _ (n0 _), aWr_n _ _ _ (n0 _), aWr_n _ _ _ (n0 _), aWr_n _ _ _ (n0 _), aWr_n _ _ _ (n0 _), aWr_n _ _ _ (n0 _)]
  refine a_iastN dX10_nameMan_88 (isYr_1 hD) (by first | exact (show (6 : Int32) = nI 6 from rfl) | with_reducible exact rfl | with_reducible exact ix8 _ _ | with_reducible exact ix12 _ _ | exact rfl) (by omega) (by decide) ?_
  exact a_vret dX10_nameMan_89 (by exact ⟨rfl, rfl⟩)
/-- the class's laws at t -/
def rW (W : Nat → zL) (x : aS) (t : Nat) : Prop := ∀ q, q < 3 → x.1 (t + (130 + q)) 1 = nI (W q).1 ∧ (W q).1 ≤ 64 ∧ ∀ i, i < (W q).1 → x.1 (t + (130 + q) + 10) i = (W q).2.1 i ∧ x.1 (t + (130 + q) + 20) i = (W q).2.2 i
theorem rW_same {W : Nat → zL} {x y : aS} {t : Nat} (h : ∀ k, k < 256 → y.1 (t + k) = x.1 (t + k)) (hW : rW W x t) : rW W y t := by
  intro q hq
  obtain ⟨h1, h2, h3⟩ := hW q hq
  refine ⟨by rw [h _ (by omega)]; exact h1, h2, fun i hi => ?_⟩
  have e1 : y.1 (t + (130 + q) + 10) = x.1 (t + (130 + q) + 10) := by
    have := h (130 + q + 10) (by omega)
    rwa [← Nat.add_assoc] at this
  have e2 : y.1 (t + (130 + q) + 20) = x.1 (t + (130 + q) + 20) := by
    have := h (130 + q + 20) (by omega)
    rwa [← Nat.add_assoc] at this
  rw [e1, e2]
  exact h3 i hi
theorem rS_same {T : zT} {Z : zS} {x y : aS} {b : Nat} (h : ∀ k, k < 256 → y.1 (b + k) = x.1 (b + k)) (hS : rS T Z x b) : rS T Z y b := by
  have h0 := h 0 (by decide)
  rw [Nat.add_zero] at h0
  obtain ⟨q1, q2, q3, q4⟩ := hS
  refine ⟨fun i hi => by rw [h0]; exact q1 i hi, by rw [h0]; exact q2, fun g hg => ?_, fun m hm => ?_⟩
  · rw [h 5 (by decide), h 6 (by decide), h 7 (by decide), h 8 (by decide), h 9 (by decide)]
    exact q3 g hg
  · rw [h 10 (by decide), h 11 (by decide), h 12 (by decide)]
    exact q4 m hm
def zNmM (T : zT) (Z : zS) (m : Nat) : Nat → Int32 := fun j => if j = 0 then 0 else if j = 1 then nI (T.2.2 1 m) else if j = 2 then zLast Z (Z.2 3 m) (T.2.2 1 m) else if j = 3 then zPinch T Z m else if j = 4 then Z.1 4 m else if j = 5 then nI (Z.2 1 (Z.2 3 m)) else Z.1 0 0
def zNmD (T : zT) (Z : zS) (i : Nat) : Nat → Int32 := fun j => if j = 0 then T.2.1 5 i else if j = 1 then nI (T.2.2 3 i) else if j = 2 then zLast Z (T.2.2 2 i) (T.2.2 3 i) else if j = 3 then 0 else if j = 4 then 0 else if j = 5 then nI (Z.2 1 (T.2.2 2 i)) else Z.1 0 0
theorem sNm_at {x : aS} {f : Nat → Int32} {a0 a1 a2 a3 a4 a5 a6 : Int32} (h0 : a0 = f 0) (h1 : a1 = f 1) (h2 : a2 = f 2) (h3 : a3 = f 3) (h4 : a4 = f 4) (h5 : a5 = f 5) (h6 : a6 = f 6) : ∀ j, j < 7 → (sNm x a0 a1 a2 a3 a4 a5 a6).1 (bYr + 1) j = f j := by
  intro j hj
  have : j = 0 ∨ j = 1 ∨ j = 2 ∨ j = 3 ∨ j = 4 ∨ j = 5 ∨ j = 6 := by omega
  unfold sNm
  rcases this with rfl | rfl | rfl | rfl | rfl | rfl | rfl
  · rw [aWr_j _ _ _ (by decide), aWr_j _ _ _ (by decide), aWr_j _ _ _ (by decide), aWr_j _ _ _ (by decide), aWr_j _ _ _ (by decide), aWr_j _ _ _ (by decide), aWr_s, h0]
  · rw [aWr_j _ _ _ (by decide), aWr_j _ _ _ (by decide), aWr_j _ _ _ (by decide), aWr_j _ _ _ (by decide), aWr_j _ _ _ (by decide), aWr_s, h1]
  · rw [aWr_j _ _ _ (by decide), aWr_j _ _ _ (by decide), aWr_j _ _ _ (by decide), aWr_j _ _ _ (by decide), aWr_s, h2]
  · rw [aWr_j _ _ _ (by decide), aWr_j _ _ _ (by decide), aWr_j _ _ _ (by decide), aWr_s, h3]
  · rw [aWr_j _ _ _ (by decide), aWr_j _ _ _ (by decide), aWr_s, h4]
  · rw [aWr_j _ _ _ (by decide), aWr_s, h5]
  · rw [aWr_s, h6]
theorem aSq_nm {x : aS} {a0 a1 a2 a3 a4 a5 a6 : Int32} {row : Nat → Int64} : aSq x (aRw (sNm x a0 a1 a2 a3 a4 a5 a6) (bYr + 2) row) := by
  refine ⟨fun n hn => sNm_n hn, fun n hn => ?_⟩
  show (if n = bYr + 2 then row else (sNm x a0 a1 a2 a3 a4 a5 a6).2 n) = x.2 n
  rw [if_neg hn]
  rfl
set_option maxHeartbeats 4000000 in
set_option maxRecDepth 100000 in
theorem c_X10_thickOf {l : Launch} {d : Nat} {D : Nat → Bool} {T : zT} {W : Nat → zL} {Z : zS} {t b i : Nat} {x : aS} (hD : aDC D) (hb : aStB b) (ht : aTdB t) (ok : zTok T) (hZ : zOk T Z) (hT : rT T x t) (hW : rW W x t) (hS : rS T Z x b) (hi : i < T.1 2) : aCt l mX10_thickOf (d + 2) D [.ref bYr, .ref t, .ref b, .int (nI i)] x (fun v y => v = some (.long (vWorth (W 0) (zNmD T Z i))) ∧ aSq x y) := by
  have n5 : ∀ k, b + 5 ≠ bYr + k := fun k => yb_ne hb (by decide)
  have n6 : ∀ k, b + 6 ≠ bYr + k := fun k => yb_ne hb (by decide)
  have n7 : ∀ k, b + 7 ≠ bYr + k := fun k => yb_ne hb (by decide)
  have n0 : ∀ k, b ≠ bYr + k := fun k => yb_ne0 hb
  have hi14 : i < 14 := by have := ok.2.2.1; omega
  have nd : ∀ k, t + 12 + 88 + i ≠ bYr + k := fun k => yd_ne ht hi14
  obtain ⟨e0, e1, e2, -, -⟩ := hT.2.2.2.2.2.2.2.2.2.2.2.1 i hi
  obtain ⟨o1, o2, -⟩ := ok.2.2.2.2.2.2.2.2.1 i hi
  have o6 : T.2.2 2 i < 6 := by have := ok.1; omega
  obtain ⟨w1, w2, w3⟩ := hW 0 (by decide)
  have hs1 : (sNm x (T.2.1 5 i) (nI (T.2.2 3 i)) (sLast x b (T.2.2 2 i) (T.2.2 3 i)) 0 0 (x.1 (b + 7) (T.2.2 2 i)) (x.1 b 0)).1 (t + 130) 1 = nI (W 0).1 := by
    rw [sNm_n (yt_ne ht (by decide))]
    exact w1
  have hval : wWorth (sNm x (T.2.1 5 i) (nI (T.2.2 3 i)) (sLast x b (T.2.2 2 i) (T.2.2 3 i)) 0 0 (x.1 (b + 7) (T.2.2 2 i)) (x.1 b 0)) (t + 130) (W 0).1 = vWorth (W 0) (zNmD T Z i) := by
    refine vWorth_of (fun j hj => ?_) (sNm_at rfl rfl ?_ rfl rfl ?_ ?_)
    · rw [sNm_n (by rw [Nat.add_assoc]; exact yt_ne ht (by decide)), sNm_n (by rw [Nat.add_assoc]; exact yt_ne ht (by decide))]
      exact w3 j hj
    · rw [sLast_z hS o1 o2]; rfl
    · rw [(hS.2.2.1 _ o1).2.1]; rfl
    · rw [hS.1 0 (by decide)]; rfl
  refine a_met (by decide) (Nat.le_of_ble_eq_true rfl) (fun v y q => Or.inr (Or.inr (Or.inl ⟨rfl, _, q.1⟩))) ?_
  refine a_aload_n (i := 1) dX10_thickOf_0 rfl rfl ?_
  refine gX10_59 rfl dX10_thickOf_1 (isT_0 hD ht) ?_
  refine a_iload_n (i := 3) dX10_thickOf_4 rfl rfl ?_
  refine a_adeedN dX10_thickOf_5 (isT_12 hD ht) (by first | with_reducible exact rfl | with_reducible exact ix8 _ _ | with_reducible exact ix12 _ _ | exact rfl) (by omega) (by decide) ?_
  refine a_astore (i := 4) dX10_thickOf_6 (by decide) ?_
  refine a_aload_n (i := 0) dX10_thickOf_8 rfl rfl ?_
  refine gX10_9 rfl dX10_thickOf_9 (isYr_0 hD) ?_
  refine a_iconst (v := 0) dX10_thickOf_12 (by decide) ?_
  refine a_aload (i := 4) dX10_thickOf_13 rfl ?_
  refine gX10_70 rfl dX10_thickOf_15 (isDe hD ht hi14) ?_
  rw [e2]
  refine a_iastN dX10_thickOf_18 (isYr_1 hD) (by first | exact (show (0 : Int32) = nI 0 from rfl) | with_reducible exact rfl | with_reducible exact ix8 _ _ | with_reducible exact ix12 _ _ | exact rfl) (by omega) (by decide) ?_
  refine a_aload_n (i := 0) dX10_thickOf_19 rfl rfl ?_
  refine gX10_9 rfl dX10_thickOf_20 (isYr_0 hD) ?_
  refine a_iconst (v := 1) dX10_thickOf_23 (by decide) ?_
  refine a_aload (i := 4) dX10_thickOf_24 rfl ?_
  refine gX10_80 rfl dX10_thickOf_26 (isDe hD ht hi14) ?_
  rw [aWr_n _ _ _ (nd _), e1]
  refine a_iastN dX10_thickOf_29 (isYr_1 hD) (by first | exact (show (1 : Int32) = nI 1 from rfl) | with_reducible exact rfl | with_reducible exact ix8 _ _ | with_reducible exact ix12 _ _ | exact rfl) (by omega) (by decide) ?_
  refine a_aload_n (i := 0) dX10_thickOf_30 rfl rfl ?_
  refine gX10_9 rfl dX10_thickOf_31 (isYr_0 hD) ?_
  refine a_iconst (v := 2) dX10_thickOf_34 (by decide) ?_
  refine a_aload_n (i := 2) dX10_thickOf_35 rfl rfl ?_
  refine a_aload (i := 4) dX10_thickOf_36 rfl ?_
  refine gX10_77 rfl dX10_thickOf_38 (isDe hD ht hi14) ?_
  rw [aWr_n _ _ _ (nd _), aWr_n _ _ _ (nd _), e0]
  refine a_aload (i := 4) dX10_thickOf_41 rfl ?_
  refine gX10_80 rfl dX10_thickOf_43 (isDe hD ht hi14) ?_
  rw [aWr_n _ _ _ (nd _), aWr_n _ _ _ (nd _), e1]
  refine kX10_153 rfl dX10_thickOf_46 (Nat.le_of_ble_eq_true rfl) (isS_0 hD hb) (c_X6_lastAt hD hb o6 o2) ?_
  rw [sLast_w (n5 _) (n6 _), sLast_w (n5 _) (n6 _)]
  refine a_iastN dX10_thickOf_49 (isYr_1 hD) (by first | exact (show (2 : Int32) = nI 2 from rfl) | with_reducible exact rfl | with_reducible exact ix8 _ _ | with_reducible exact ix12 _ _ | exact rfl) (by omega) (by decide) ?_
  refine a_aload_n (i := 0) dX10_thickOf_50 rfl rfl ?_
  refine gX10_9 rfl dX10_thickOf_51 (isYr_0 hD) ?_
  refine a_iconst (v := 3) dX10_thickOf_54 (by decide) ?_
  refine a_iconst (v := 0) dX10_thickOf_55 (by decide) ?_
  refine a_iastN dX10_thickOf_56 (isYr_1 hD) (by first | exact (show (3 : Int32) = nI 3 from rfl) | with_reducible exact rfl | with_reducible exact ix8 _ _ | with_reducible exact ix12 _ _ | exact rfl) (by omega) (by decide) ?_
  refine a_aload_n (i := 0) dX10_thickOf_57 rfl rfl ?_
  refine gX10_9 rfl dX10_thickOf_58 (isYr_0 hD) ?_
  refine a_iconst (v := 4) dX10_thickOf_61 (by decide) ?_
  refine a_iconst (v := 0) dX10_thickOf_62 (by decide) ?_
  refine a_iastN dX10_thickOf_63 (isYr_1 hD) (by first | exact (show (4 : Int32) = nI 4 from rfl) | with_reducible exact rfl | with_reducible exact ix8 _ _ | with_reducible exact ix12 _ _ | exact rfl) (by omega) (by decide) ?_
  refine a_aload_n (i := 0) dX10_thickOf_64 rfl rfl ?_
  refine gX10_9 rfl dX10_thickOf_65 (isYr_0 hD) ?_
  refine a_iconst (v := 5) dX10_thickOf_68 (by decide) ?_
  refine a_aload_n (i := 2) dX10_thickOf_69 rfl rfl ?_
  refine gX10_156 rfl dX10_thickOf_70 (isS_0 hD hb) ?_
  refine a_aload (i := 4) dX10_thickOf_73 rfl ?_
  refine gX10_77 rfl dX10_thickOf_75 (isDe hD ht hi14) ?_
  rw [aWr_n _ _ _ (nd _), aWr_n _ _ _ (nd _), aWr_n _ _ _ (nd _), aWr_n _ _ _ (nd _), aWr_n _ _ _ (nd _), e0]
  refine a_ialdN dX10_thickOf_78 (isS_7 hD hb) (by first | with_reducible exact rfl | with_reducible exact ix8 _ _ | with_reducible exact ix12 _ _ | exact rfl) (by omega) (by decide) ?_
  rw [aWr_n _ _ _ (n7 _), aWr_n _ _ _ (n7 _), aWr_n _ _ _ (n7 _), aWr_n _ _ _ (n7 _), aWr_n _ _ _ (n7 _)]
  refine a_iastN dX10_thickOf_79 (isYr_1 hD) (by first | exact (show (5 : Int32) = nI 5 from rfl) | with_reducible exact rfl | with_reducible exact ix8 _ _ | with_reducible exact ix12 _ _ | exact rfl) (by omega) (by decide) ?_
  refine a_aload_n (i := 0) dX10_thickOf_80 rfl rfl ?_
  refine gX10_9 rfl dX10_thickOf_81 (isYr_0 hD) ?_
  refine a_bipush (v := 6) dX10_thickOf_84 (by decide) ?_
  refine a_aload_n (i := 2) dX10_thickOf_86 rfl rfl ?_
  refine gX10_46 rfl dX10_thickOf_87 (isS_0 hD hb) ?_
  rw [aWr_n _ _ _ (n0 _), aWr_n _ _ _ (n0 _), aWr_n _ _ _ (n0 _), aWr_n _ _ _ (n0 _), aWr_n _ _ _ (n0 _), aWr_n _ _ _ (n0 _)]
  refine a_iastN dX10_thickOf_90 (isYr_1 hD) (by first | exact (show (6 : Int32) = nI 6 from rfl) | with_reducible exact rfl | with_reducible exact ix8 _ _ | with_reducible exact ix12 _ _ | exact rfl) (by omega) (by decide) ?_
  refine a_aload_n (i := 1) dX10_thickOf_91 rfl rfl ?_
  refine gX10_159 rfl dX10_thickOf_92 (isT_0 hD ht) ?_
  refine a_aload_n (i := 0) dX10_thickOf_95 rfl rfl ?_
  refine gX10_9 rfl dX10_thickOf_96 (isYr_0 hD) ?_
  refine a_aload_n (i := 0) dX10_thickOf_99 rfl rfl ?_
  refine gX10_15 rfl dX10_thickOf_100 (isYr_0 hD) ?_
  refine kgX10_125 rfl dX10_thickOf_103 (Nat.le_of_ble_eq_true rfl) (isW_0 hD ht) (c_X2_worth hD (isW_0 hD ht) (isW10_0 hD ht) (isW20_0 hD ht) hs1 w2) ?_
  rintro v y ⟨rfl, row, rfl⟩
  exact a_lret dX10_thickOf_106 (by exact ⟨by rw [← hval]; rfl, aSq_nm⟩)
def zCut (v : Int64) (most other : Int32) : Int32 := if v = wErr then other else (if (if v < most.toInt64 then v else most.toInt64) < 0 then 0 else (if v < most.toInt64 then v else most.toInt64)).toInt32
set_option maxHeartbeats 4000000 in
set_option maxRecDepth 100000 in
theorem c_X10_cut {l : Launch} {d : Nat} {D : Nat → Bool} {v : Int64} {a o : Int32} {x : aS} : aDI l mX10_cut (d + 1) D [.long v, .int a, .int o] x (zCut v a o) x := by
  refine a_metI (by decide) (Nat.le_of_ble_eq_true rfl) rfl ?_
  refine a_lload_n (i := 0) dX10_cut_0 rfl rfl ?_
  refine a_ldc2 (v := (-9223372036854775808)) dX10_cut_1 (oX10_167 rfl) ?_
  refine a_lcmp dX10_cut_4 ?_
  refine a_if_ne (tg := 10) dX10_cut_5 (by decide) (fun c_5 => ?_) (fun c_5 => ?_)
  · have e : ¬ v = wErr := fun h => c_5 ((lg_cmp_eq _ _).mpr h)
    refine a_lconst (v := 0) dX10_cut_10 (by decide) ?_
    refine a_iload_n (i := 2) dX10_cut_11 rfl rfl ?_
    refine a_i2l dX10_cut_12 ?_
    refine a_lload_n (i := 0) dX10_cut_13 rfl rfl ?_
    refine kX10_169 rfl dX10_cut_14 (Nat.le_of_ble_eq_true rfl) ?_
    refine kX10_172 rfl dX10_cut_17 (Nat.le_of_ble_eq_true rfl) ?_
    refine a_l2i dX10_cut_20 ?_
    exact a_iret dX10_cut_21 (by rw [zCut, if_neg e]; exact ⟨rfl, rfl⟩)
  · have e : v = wErr := (lg_cmp_eq _ _).mp c_5
    refine a_iload_n (i := 3) dX10_cut_8 rfl rfl ?_
    exact a_iret dX10_cut_9 (by rw [zCut, if_pos e]; exact ⟨rfl, rfl⟩)
