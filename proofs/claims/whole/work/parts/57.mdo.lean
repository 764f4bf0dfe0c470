/-! LastHouseModel: layMan, boundLaw by Z, does, pinches -/
set_option maxHeartbeats 4000000 in
set_option maxRecDepth 100000 in
theorem c_X12_layMan {l : Launch} {d : Nat} {D : Nat → Bool} {T : zT} {Z : zS} {i m : Nat} {x : aS} (hM : D 12 = true) (hi : i < 2) (ok : zTok T) (hZ : zOk T Z) (hT : rTM T x) (hS : rM T Z x i) (hm : m < T.1 1) : aDV l mX12_layMan (d + 4) D [.ref bM, .int (nI i), .int (nI m)] x (mNm x (zNmM T Z m 0).toInt64 (zNmM T Z m 1).toInt64 (zNmM T Z m 2).toInt64 (zNmM T Z m 3).toInt64 (zNmM T Z m 4).toInt64 (zNmM T Z m 5).toInt64 (zNmM T Z m 6).toInt64) := by
  have h8 := ok.2.1
  have h6 := ok.1
  obtain ⟨m0, m1, m2, m3, m4⟩ := hT.2.2.2.2.2.2.2.2.2.1 m hm
  obtain ⟨f1, f2, f3, f4⟩ := hS.2.2.2 m hm
  have o2 := (ok.2.2.2.2.2.2.2.1 m hm).2
  have o1 := hZ.2.2 m hm
  obtain ⟨q1, q2, q3⟩ := hS.2.2.1 _ o1
  have c12 := (hZ.2.1 _ o1).1
  have hl : ∀ y : aS, y.1 = x.1 → aDI l mX12_lastAt (d + 3) D [.ref bM, .int (nI i), .int (nI (Z.2 3 m)), .int (nI (T.2.2 1 m))] y (zLast Z (Z.2 3 m) (T.2.2 1 m)) y := by
    intro y hy
    have := c_X12_lastAt (l := l) (d := d + 1) (D := D) (x := y) (z := T.2.2 1 m) hM hi (show Z.2 3 m < 6 by omega) o2 (by rw [hy]; exact q2) c12
    rwa [show mLast y i (Z.2 3 m) (T.2.2 1 m) (Z.2 1 (Z.2 3 m)) 0 = zLast Z (Z.2 3 m) (T.2.2 1 m) from by
      rw [← mLast_z hZ hS o1 o2]
      unfold mLast
      rw [hy]] at this
  have hp : ∀ y : aS, y.1 = x.1 → aDI l mX12_pinchOf (d + 3) D [.ref bM, .int (nI i), .int (nI m)] y (zPinch T Z m) y := by
    intro y hy
    have := c_X12_pinchOf (l := l) (d := d) (D := D) (x := y) hM hi (show m < 8 by omega) (show Z.2 3 m < 6 by omega) (by rw [hy]; exact f1) (by rw [hy]; exact q2) c12
    rwa [show mPinch y i m (Z.2 3 m) (Z.2 1 (Z.2 3 m)) = zPinch T Z m from by
      rw [← mPinch_z ok hZ hT hS hm]
      unfold mPinch mFoot mLast
      rw [hy]] at this
  refine a_metV (by decide) (Nat.le_of_ble_eq_true rfl) rfl ?_
  refine a_aload_n (i := 0) dX12_layMan_0 rfl rfl ?_
  refine gX12_118 rfl dX12_layMan_1 (isM_0 hM) ?_
  refine a_bipush (v := 8) dX12_layMan_4 (by decide) ?_
  refine a_iload_n (i := 1) dX12_layMan_6 rfl rfl ?_
  refine a_imul dX12_layMan_7 ?_
  refine a_iload_n (i := 2) dX12_layMan_8 rfl rfl ?_
  refine a_iadd dX12_layMan_9 ?_
  refine a_ialdN dX12_layMan_10 (isM_64 hM) (by first | exact il8 _ _ | with_reducible exact rfl | with_reducible exact ix8 _ _ | with_reducible exact ix12 _ _ | exact rfl) (by omega) (by decide) ?_
  rw [f1]
  refine a_istore_n (i := 3) dX12_layMan_11 rfl (by decide) ?_
  refine a_aload_n (i := 0) dX12_layMan_12 rfl rfl ?_
  refine gX12_99 rfl dX12_layMan_13 (isM_0 hM) ?_
  refine a_iconst (v := 0) dX12_layMan_16 (by decide) ?_
  refine a_lconst (v := 0) dX12_layMan_17 (by decide) ?_
  refine a_lastN dX12_layMan_18 (isM_57 hM) (by first | exact (show (0 : Int32) = nI 0 from rfl) | with_reducible exact rfl | with_reducible exact ix8 _ _ | with_reducible exact ix12 _ _ | exact rfl) (by omega) (by decide) ?_
  refine a_aload_n (i := 0) dX12_layMan_19 rfl rfl ?_
  refine gX12_99 rfl dX12_layMan_20 (isM_0 hM) ?_
  refine a_iconst (v := 1) dX12_layMan_23 (by decide) ?_
  refine a_aload_n (i := 0) dX12_layMan_24 rfl rfl ?_
  refine gX12_42 rfl dX12_layMan_25 (isM_0 hM) ?_
  refine a_iload_n (i := 2) dX12_layMan_28 rfl rfl ?_
  refine a_ialdN dX12_layMan_29 (isM_32 hM) (by first | with_reducible exact rfl | with_reducible exact ix8 _ _ | with_reducible exact ix12 _ _ | exact rfl) (by omega) (by decide) ?_
  rw [aWl_1, m3]
  refine a_i2l dX12_layMan_30 ?_
  refine a_lastN dX12_layMan_31 (isM_57 hM) (by first | exact (show (1 : Int32) = nI 1 from rfl) | with_reducible exact rfl | with_reducible exact ix8 _ _ | with_reducible exact ix12 _ _ | exact rfl) (by omega) (by decide) ?_
  refine a_aload_n (i := 0) dX12_layMan_32 rfl rfl ?_
  refine gX12_99 rfl dX12_layMan_33 (isM_0 hM) ?_
  refine a_iconst (v := 2) dX12_layMan_36 (by decide) ?_
  refine a_aload_n (i := 0) dX12_layMan_37 rfl rfl ?_
  refine a_iload_n (i := 1) dX12_layMan_38 rfl rfl ?_
  refine a_iload_n (i := 3) dX12_layMan_39 rfl rfl ?_
  refine a_aload_n (i := 0) dX12_layMan_40 rfl rfl ?_
  refine gX12_42 rfl dX12_layMan_41 (isM_0 hM) ?_
  refine a_iload_n (i := 2) dX12_layMan_44 rfl rfl ?_
  refine a_ialdN dX12_layMan_45 (isM_32 hM) (by first | with_reducible exact rfl | with_reducible exact ix8 _ _ | with_reducible exact ix12 _ _ | exact rfl) (by omega) (by decide) ?_
  rw [aWl_1, aWl_1, m3]
  refine kX12_440 rfl dX12_layMan_46 (Nat.le_of_ble_eq_true rfl) (isM_0 hM) (hl _ rfl) ?_
  refine a_i2l dX12_layMan_49 ?_
  refine a_lastN dX12_layMan_50 (isM_57 hM) (by first | exact (show (2 : Int32) = nI 2 from rfl) | with_reducible exact rfl | with_reducible exact ix8 _ _ | with_reducible exact ix12 _ _ | exact rfl) (by omega) (by decide) ?_
  refine a_aload_n (i := 0) dX12_layMan_51 rfl rfl ?_
  refine gX12_99 rfl dX12_layMan_52 (isM_0 hM) ?_
  refine a_iconst (v := 3) dX12_layMan_55 (by decide) ?_
  refine a_aload_n (i := 0) dX12_layMan_56 rfl rfl ?_
  refine a_iload_n (i := 1) dX12_layMan_57 rfl rfl ?_
  refine a_iload_n (i := 2) dX12_layMan_58 rfl rfl ?_
  refine kX12_443 rfl dX12_layMan_59 (Nat.le_of_ble_eq_true rfl) (isM_0 hM) (hp _ rfl) ?_
  refine a_i2l dX12_layMan_62 ?_
  refine a_lastN dX12_layMan_63 (isM_57 hM) (by first | exact (show (3 : Int32) = nI 3 from rfl) | with_reducible exact rfl | with_reducible exact ix8 _ _ | with_reducible exact ix12 _ _ | exact rfl) (by omega) (by decide) ?_
  refine a_aload_n (i := 0) dX12_layMan_64 rfl rfl ?_
  refine gX12_99 rfl dX12_layMan_65 (isM_0 hM) ?_
  refine a_iconst (v := 4) dX12_layMan_68 (by decide) ?_
  refine a_aload_n (i := 0) dX12_layMan_69 rfl rfl ?_
  refine gX12_124 rfl dX12_layMan_70 (isM_0 hM) ?_
  refine a_bipush (v := 8) dX12_layMan_73 (by decide) ?_
  refine a_iload_n (i := 1) dX12_layMan_75 rfl rfl ?_
  refine a_imul dX12_layMan_76 ?_
  refine a_iload_n (i := 2) dX12_layMan_77 rfl rfl ?_
  refine a_iadd dX12_layMan_78 ?_
  refine a_ialdN dX12_layMan_79 (isM_66 hM) (by first | exact il8 _ _ | with_reducible exact rfl | with_reducible exact ix8 _ _ | with_reducible exact ix12 _ _ | exact rfl) (by omega) (by decide) ?_
  rw [aWl_1, aWl_1, aWl_1, aWl_1, f3]
  refine a_i2l dX12_layMan_80 ?_
  refine a_lastN dX12_layMan_81 (isM_57 hM) (by first | exact (show (4 : Int32) = nI 4 from rfl) | with_reducible exact rfl | with_reducible exact ix8 _ _ | with_reducible exact ix12 _ _ | exact rfl) (by omega) (by decide) ?_
  refine a_aload_n (i := 0) dX12_layMan_82 rfl rfl ?_
  refine gX12_99 rfl dX12_layMan_83 (isM_0 hM) ?_
  refine a_iconst (v := 5) dX12_layMan_86 (by decide) ?_
  refine a_aload_n (i := 0) dX12_layMan_87 rfl rfl ?_
  refine gX12_115 rfl dX12_layMan_88 (isM_0 hM) ?_
  refine a_bipush (v := 6) dX12_layMan_91 (by decide) ?_
  refine a_iload_n (i := 1) dX12_layMan_93 rfl rfl ?_
  refine a_imul dX12_layMan_94 ?_
  refine a_iload_n (i := 3) dX12_layMan_95 rfl rfl ?_
  refine a_iadd dX12_layMan_96 ?_
  refine a_ialdN dX12_layMan_97 (isM_63 hM) (by first | exact il6 _ _ | with_reducible exact rfl | with_reducible exact ix8 _ _ | with_reducible exact ix12 _ _ | exact rfl) (by omega) (by decide) ?_
  rw [aWl_1, aWl_1, aWl_1, aWl_1, aWl_1, q2]
  refine a_i2l dX12_layMan_98 ?_
  refine a_lastN dX12_layMan_99 (isM_57 hM) (by first | exact (show (5 : Int32) = nI 5 from rfl) | with_reducible exact rfl | with_reducible exact ix8 _ _ | with_reducible exact ix12 _ _ | exact rfl) (by omega) (by decide) ?_
  refine a_aload_n (i := 0) dX12_layMan_100 rfl rfl ?_
  refine gX12_99 rfl dX12_layMan_101 (isM_0 hM) ?_
  refine a_bipush (v := 6) dX12_layMan_104 (by decide) ?_
  refine a_aload_n (i := 0) dX12_layMan_106 rfl rfl ?_
  refine gX12_133 rfl dX12_layMan_107 (isM_0 hM) ?_
  refine a_iload_n (i := 1) dX12_layMan_110 rfl rfl ?_
  refine a_ialdN dX12_layMan_111 (isM_69 hM) (by first | with_reducible exact rfl | with_reducible exact ix8 _ _ | with_reducible exact ix12 _ _ | exact rfl) (by omega) (by decide) ?_
  rw [aWl_1, aWl_1, aWl_1, aWl_1, aWl_1, aWl_1, hS.1]
  refine a_i2l dX12_layMan_112 ?_
  refine a_lastN dX12_layMan_113 (isM_57 hM) (by first | exact (show (6 : Int32) = nI 6 from rfl) | with_reducible exact rfl | with_reducible exact ix8 _ _ | with_reducible exact ix12 _ _ | exact rfl) (by omega) (by decide) ?_
  exact a_vret dX12_layMan_114 (by exact ⟨rfl, rfl⟩)
/-- the model's laws -/
def rWM (W : Nat → zL) (x : aS) : Prop := ∀ q, q < 3 → x.1 (bM + 43) q = bI (decide (0 < (W q).1)) ∧ (0 < (W q).1 → ∃ (f : Nat) (P O : Nat → Nat), x.1 (bM + 44) q = nI f ∧ x.1 (bM + 45) q = nI (f + (W q).1) ∧ rLM (W q) x P O f)
theorem rLM_same {L : zL} {x y : aS} {P O : Nat → Nat} {f : Nat} (h : ∀ n, n = bM + 46 ∨ n = bM + 47 ∨ n = bM + 48 → y.1 n = x.1 n) (hL : rLM L x P O f) : rLM L y P O f := by
  obtain ⟨h1, h2, h3, h4⟩ := hL
  have e6 := h (bM + 46) (by omega)
  have e7 := h (bM + 47) (by omega)
  have e8 := h (bM + 48) (by omega)
  refine ⟨h1, ?_, fun j hj => ?_, h4⟩
  · unfold mNok at *
    rw [e6, e7, e8]
    exact h2
  · obtain ⟨I, a, b⟩ := h3 j hj
    refine ⟨I, a, ?_⟩
    unfold mNd at *
    rw [e6, e7]
    exact b
theorem rWM_same {W : Nat → zL} {x y : aS} (h : ∀ n, bM + 43 ≤ n → n ≤ bM + 48 → y.1 n = x.1 n) (hW : rWM W x) : rWM W y := by
  intro q hq
  obtain ⟨h1, h2⟩ := hW q hq
  refine ⟨by rw [h _ (by omega) (by omega)]; exact h1, fun hp => ?_⟩
  obtain ⟨f, P, O, a, b, c⟩ := h2 hp
  exact ⟨f, P, O, by rw [h _ (by omega) (by omega)]; exact a, by rw [h _ (by omega) (by omega)]; exact b, rLM_same (fun n hn => h n (by omega) (by omega)) c⟩
theorem rWM_i {i : Nat} {W : Nat → zL} {x y : aS} (hF : aFi i x y) (hW : rWM W x) : rWM W y := rWM_same (fun n h1 h2 => by
  funext j
  exact hF.1 n j (by unfold mIn; omega) (by omega)) hW
/-- what a law's working out leaves -/
def mBy (x y : aS) : Prop := (∀ n, n ≠ bM → y.1 n = x.1 n) ∧ (∀ j, j ≠ 58 → y.1 bM j = x.1 bM j) ∧ (∀ n, n ≠ bM + 58 → y.2 n = x.2 n)
theorem mBy_r {x : aS} : mBy x x := ⟨fun _ _ => rfl, fun _ _ => rfl, fun _ _ => rfl⟩
theorem mBy_x {x : aS} {e : Bool} {row : Nat → Int64} : mBy x (mX x e row) := ⟨fun _ h => mX_n h, fun j h => aWr_j x bM (bI e) h, fun _ h => mX_2n h⟩
theorem aFi_by {i : Nat} {x y : aS} (h : mBy x y) : aFi i x y := by
  refine ⟨fun n j _ h2 => ?_, fun n j _ h2 _ => by rw [h.2.2 n h2]⟩
  by_cases e : n = bM
  · subst e; exact h.2.1 j (fun g => h2 ⟨rfl, g⟩)
  · rw [h.1 n e]
theorem c_boundZ {l : Launch} {d : Nat} {D : Nat → Bool} {W : Nat → zL} {nm : Nat → Int32} {q : Nat} {w most : Int32} {x : aS} (hM : D 12 = true) (hq : q < 3) (hW : rWM W x) (hn : ∀ j, j < 7 → x.2 (bM + 57) j = (nm j).toInt64) (hm : 0 ≤ most) : ∃ y, aDI l mX12_boundLaw (d + 3) D [.ref bM, .int (nI q), .int w, .int most] x (zCut (vWorth (W q) nm) most w) y ∧ mBy x y := by
  obtain ⟨h1, h2⟩ := hW q hq
  by_cases hp : 0 < (W q).1
  · obtain ⟨f, P, O, a, b, c⟩ := h2 hp
    rw [decide_eq_true hp] at h1
    have hc := c_X12_boundLaw (l := l) (d := d) (D := D) (P := P) (O := O) (f := f) (s := (W q).1) (t := true) (w := w) (most := most) hM hq h1 (fun _ => ⟨a, b, hp, c.1, c.2.1⟩)
    rw [if_neg (show ¬ true = false by decide)] at hc
    refine ⟨mX x (mRun x P O f (W q).1).1 (mRun x P O f (W q).1).2, ?_, mBy_x⟩
    · rcases mRun_v c hn with ⟨g1, g2⟩ | ⟨g1, g2, g3⟩
      · rw [if_pos (Or.inr g1)] at hc
        rw [g2, zCut, if_pos rfl]
        exact hc
      · rw [if_neg (by rw [g1]; decide), ← g2, ← zCut_b (o := w) hm g3] at hc
        exact hc
  · rw [decide_eq_false hp] at h1
    have hc := c_X12_boundLaw (l := l) (d := d) (D := D) (P := fun _ => 0) (O := fun _ => 0) (f := 0) (s := 0) (t := false) (w := w) (most := most) hM hq h1 (fun h => absurd h (by decide))
    rw [if_pos (Or.inl rfl), if_pos rfl] at hc
    have e0 : (W q).1 = 0 := by omega
    have ev : vWorth (W q) nm = wErr := by
      unfold vWorth
      rw [e0]
      rfl
    rw [ev, zCut, if_pos rfl]
    exact ⟨x, hc, mBy_r⟩
theorem rM_by {i : Nat} {T : zT} {Z : zS} {x y : aS} (h : mBy x y) (hS : rM T Z x i) : rM T Z y i := by
  obtain ⟨q1, q2, q3, q4⟩ := hS
  have e : ∀ k, 0 < k → y.1 (bM + k) = x.1 (bM + k) := fun k hk => h.1 _ (by omega)
  refine ⟨by rw [e 69 (by decide)]; exact q1, by rw [e 68 (by decide)]; exact q2, fun g hg => ?_, fun m hm => ?_⟩
  · rw [e 60 (by decide), e 61 (by decide), e 62 (by decide), e 63 (by decide)]; exact q3 g hg
  · rw [e 64 (by decide), e 65 (by decide), e 66 (by decide), e 67 (by decide)]; exact q4 m hm
theorem rM_1 {i : Nat} {T : zT} {Z : zS} {x y : aS} (h : y.1 = x.1) (hS : rM T Z x i) : rM T Z y i := by
  unfold rM at *
  rw [h]
  exact hS
theorem rM_ref {i : Nat} {T : zT} {Z : zS} {x : aS} {v : Int32} (hS : rM T Z x i) : rM T (zui Z 0 1 v) (aWr x (bM + 68) i v) i := by
  obtain ⟨q1, q2, q3, q4⟩ := hS
  refine ⟨?_, ?_, fun g hg => ⟨fun z hz => ?_, ?_, fun k hk => ⟨?_, ?_⟩⟩, fun m hm => ⟨?_, ?_, ?_, ?_⟩⟩
  · rw [aWr_n _ _ _ (by omega), q1]; simp [zui]
  · rw [aWr_s]; simp [zui]
  · rw [aWr_n _ _ _ (by omega), (q3 g hg).1 z hz]; simp [zui]
  · rw [aWr_n _ _ _ (by omega)]; exact (q3 g hg).2.1
  · rw [aWr_n _ _ _ (by omega)]; exact ((q3 g hg).2.2 k hk).1
  · rw [aWr_n _ _ _ (by omega), ((q3 g hg).2.2 k hk).2]; simp [zui]
  · rw [aWr_n _ _ _ (by omega)]; exact (q4 m hm).1
  · rw [aWr_n _ _ _ (by omega), (q4 m hm).2.1]; simp [zui]
  · rw [aWr_n _ _ _ (by omega), (q4 m hm).2.2.1]; simp [zui]
  · rw [aWr_n _ _ _ (by omega)]; exact (q4 m hm).2.2.2
theorem rM_year {i : Nat} {T : zT} {Z : zS} {x : aS} {v : Int32} (hS : rM T Z x i) : rM T (zui Z 0 0 v) (aWr x (bM + 69) i v) i := by
  obtain ⟨q1, q2, q3, q4⟩ := hS
  refine ⟨?_, ?_, fun g hg => ⟨fun z hz => ?_, ?_, fun k hk => ⟨?_, ?_⟩⟩, fun m hm => ⟨?_, ?_, ?_, ?_⟩⟩
  · rw [aWr_s]; simp [zui]
  · rw [aWr_n _ _ _ (by omega), q2]; simp [zui]
  · rw [aWr_n _ _ _ (by omega), (q3 g hg).1 z hz]; simp [zui]
  · rw [aWr_n _ _ _ (by omega)]; exact (q3 g hg).2.1
  · rw [aWr_n _ _ _ (by omega)]; exact ((q3 g hg).2.2 k hk).1
  · rw [aWr_n _ _ _ (by omega), ((q3 g hg).2.2 k hk).2]; simp [zui]
  · rw [aWr_n _ _ _ (by omega)]; exact (q4 m hm).1
  · rw [aWr_n _ _ _ (by omega), (q4 m hm).2.1]; simp [zui]
  · rw [aWr_n _ _ _ (by omega), (q4 m hm).2.2.1]; simp [zui]
  · rw [aWr_n _ _ _ (by omega)]; exact (q4 m hm).2.2.2
/-- frame of a step of state i that draws nothing -/
def aFj (i : Nat) (x y : aS) : Prop := aFi i x y ∧ y.2 bM 69 = x.2 bM 69
theorem aFj_r {i : Nat} {x : aS} : aFj i x x := ⟨aFi_r, rfl⟩
theorem aFj_t {i : Nat} {x y z : aS} (h1 : aFj i x y) (h2 : aFj i y z) : aFj i x z := ⟨aFi_t h1.1 h2.1, h2.2.trans h1.2⟩
theorem aFj_w {i n j : Nat} {x : aS} {v : Int32} (h : mIn i n j) : aFj i x (aWr x n j v) := ⟨aFi_w h, rfl⟩
theorem aFj_nm {i : Nat} {x : aS} {a0 a1 a2 a3 a4 a5 a6 : Int64} : aFj i x (mNm x a0 a1 a2 a3 a4 a5 a6) := ⟨aFi_nm, by rw [mNm_n (by omega)]⟩
theorem aFj_by {i : Nat} {x y : aS} (h : mBy x y) : aFj i x y := ⟨aFi_by h, by rw [h.2.2 bM (by omega)]⟩
/-- a deed that is done -/
def zDo (T : zT) (W : Nat → zL) (k : Nat) (Z : zS) : zS := if Z.2 1 (T.2.2 2 k) < 12 then zPut Z (T.2.2 2 k) (T.2.2 3 k) (if T.2.2 4 k = 0 then zCut (vWorth (W 0) (zNmD T Z k)) 20 (T.2.1 5 k) else -zCut (vWorth (W 0) (zNmD T Z k)) 20 (T.2.1 5 k)) else zRef Z
set_option maxHeartbeats 4000000 in
set_option maxRecDepth 100000 in
theorem c_X12_does {l : Launch} {d : Nat} {D : Nat → Bool} {T : zT} {W : Nat → zL} {Z : zS} {i k : Nat} {x : aS} (hM : D 12 = true) (hi : i < 2) (ok : zTok T) (hZ : zOk T Z) (hT : rTM T x) (hW : rWM W x) (hS : rM T Z x i) (hk : k < T.1 2) : ∃ y, aDV l mX12_does (d + 4) D [.ref bM, .int (nI i), .int (nI k)] x y ∧ rM T (zDo T W k Z) y i ∧ zOk T (zDo T W k Z) ∧ aFj i x y := by
  have h14 := ok.2.2.1
  have h6 := ok.1
  obtain ⟨e0, e1, e2, e3, e4⟩ := hT.2.2.2.2.2.2.2.2.2.2.1 k hk
  obtain ⟨o1, o2, o3⟩ := ok.2.2.2.2.2.2.2.2.1 k hk
  obtain ⟨q1, q2, q3⟩ := hS.2.2.1 _ o1
  have c12 := (hZ.2.1 _ o1).1
  by_cases hlt : Z.2 1 (T.2.2 2 k) < 12
  · have ed : zDo T W k Z = zPut Z (T.2.2 2 k) (T.2.2 3 k) (if T.2.2 4 k = 0 then zCut (vWorth (W 0) (zNmD T Z k)) 20 (T.2.1 5 k) else -zCut (vWorth (W 0) (zNmD T Z k)) 20 (T.2.1 5 k)) := by rw [zDo, if_pos hlt]
    have hld := c_X12_layDeed (l := l) (d := d) (D := D) hM hi ok hZ hT hS hk
    obtain ⟨X, hX⟩ : ∃ X, X = mNm x (zNmD T Z k 0).toInt64 (zNmD T Z k 1).toInt64 (zNmD T Z k 2).toInt64 (zNmD T Z k 3).toInt64 (zNmD T Z k 4).toInt64 (zNmD T Z k 5).toInt64 (zNmD T Z k 6).toInt64 := ⟨_, rfl⟩
    have hX1 : X.1 = x.1 := by rw [hX]; rfl
    have hnm : ∀ j, j < 7 → X.2 (bM + 57) j = (zNmD T Z k j).toInt64 := by rw [hX]; exact mNm_at rfl rfl rfl rfl rfl rfl rfl
    have hXj : aFj i x X := by rw [hX]; exact aFj_nm
    rw [← hX] at hld
    obtain ⟨y, hbd, hby⟩ := c_boundZ (l := l) (d := d) (D := D) (W := W) (nm := zNmD T Z k) (q := 0) (w := T.2.1 5 k) (most := 20) (x := X) hM (by decide) (rWM_i hXj.1 hW) hnm (by decide)
    have hSy : rM T Z y i := rM_by hby (rM_1 hX1 hS)
    have hcy := (hSy.2.2.1 _ o1).2.1
    have sg : x.1 (bM + 37) k * zCut (vWorth (W 0) (zNmD T Z k)) 20 (T.2.1 5 k) = (if T.2.2 4 k = 0 then zCut (vWorth (W 0) (zNmD T Z k)) 20 (T.2.1 5 k) else -zCut (vWorth (W 0) (zNmD T Z k)) 20 (T.2.1 5 k)) := by
      rw [e3]
      by_cases s0 : T.2.2 4 k = 0
      · rw [if_pos s0, if_pos s0, Int32.one_mul]
      · rw [if_neg s0, if_neg s0, ← Int32.neg_eq_neg_one_mul]
    refine ⟨mPut y i (T.2.2 2 k) (Z.2 1 (T.2.2 2 k)) (T.2.2 3 k) (if T.2.2 4 k = 0 then zCut (vWorth (W 0) (zNmD T Z k)) 20 (T.2.1 5 k) else -zCut (vWorth (W 0) (zNmD T Z k)) 20 (T.2.1 5 k)), ?_, ?_, ?_, ?_⟩
    · refine a_metV (by decide) (Nat.le_of_ble_eq_true rfl) rfl ?_
      refine a_aload_n (i := 0) dX12_does_0 rfl rfl ?_
      refine gX12_48 rfl dX12_does_1 (isM_0 hM) ?_
      refine a_iload_n (i := 2) dX12_does_4 rfl rfl ?_
      refine a_ialdN dX12_does_5 (isM_34 hM) (by first | with_reducible exact rfl | with_reducible exact ix8 _ _ | with_reducible exact ix12 _ _ | exact rfl) (by omega) (by decide) ?_
      rw [e0]
      refine a_istore_n (i := 3) dX12_does_6 rfl (by decide) ?_
      refine a_aload_n (i := 0) dX12_does_7 rfl rfl ?_
      refine gX12_115 rfl dX12_does_8 (isM_0 hM) ?_
      refine a_bipush (v := 6) dX12_does_11 (by decide) ?_
      refine a_iload_n (i := 1) dX12_does_13 rfl rfl ?_
      refine a_imul dX12_does_14 ?_
      refine a_iload_n (i := 3) dX12_does_15 rfl rfl ?_
      refine a_iadd dX12_does_16 ?_
      refine a_ialdN dX12_does_17 (isM_63 hM) (by first | exact il6 _ _ | with_reducible exact rfl | with_reducible exact ix8 _ _ | with_reducible exact ix12 _ _ | exact rfl) (by omega) (by decide) ?_
      rw [q2]
      refine a_bipush (v := 12) dX12_does_18 (by decide) ?_
      refine a_icmp_ne (tg := 34) dX12_does_20 (by decide) (fun c_20 => ?_) (fun c_20 => ?_)
      · refine a_aload_n (i := 0) dX12_does_34 rfl rfl ?_
        refine a_iload_n (i := 1) dX12_does_35 rfl rfl ?_
        refine a_iload_n (i := 2) dX12_does_36 rfl rfl ?_
        refine kX12_453 rfl dX12_does_37 (Nat.le_of_ble_eq_true rfl) (isM_0 hM) (hld) ?_
        refine a_aload_n (i := 0) dX12_does_40 rfl rfl ?_
        refine a_iload_n (i := 1) dX12_does_41 rfl rfl ?_
        refine a_iload_n (i := 3) dX12_does_42 rfl rfl ?_
        refine a_aload_n (i := 0) dX12_does_43 rfl rfl ?_
        refine gX12_51 rfl dX12_does_44 (isM_0 hM) ?_
        refine a_iload_n (i := 2) dX12_does_47 rfl rfl ?_
        refine a_ialdN dX12_does_48 (isM_35 hM) (by first | with_reducible exact rfl | with_reducible exact ix8 _ _ | with_reducible exact ix12 _ _ | exact rfl) (by omega) (by decide) ?_
        rw [hX1, e1]
        refine a_aload_n (i := 0) dX12_does_49 rfl rfl ?_
        refine gX12_57 rfl dX12_does_50 (isM_0 hM) ?_
        refine a_iload_n (i := 2) dX12_does_53 rfl rfl ?_
        refine a_ialdN dX12_does_54 (isM_37 hM) (by first | with_reducible exact rfl | with_reducible exact ix8 _ _ | with_reducible exact ix12 _ _ | exact rfl) (by omega) (by decide) ?_
        rw [hX1]
        refine a_aload_n (i := 0) dX12_does_55 rfl rfl ?_
        refine a_iconst (v := 0) dX12_does_56 (by decide) ?_
        refine a_aload_n (i := 0) dX12_does_57 rfl rfl ?_
        refine gX12_54 rfl dX12_does_58 (isM_0 hM) ?_
        refine a_iload_n (i := 2) dX12_does_61 rfl rfl ?_
        refine a_ialdN dX12_does_62 (isM_36 hM) (by first | with_reducible exact rfl | with_reducible exact ix8 _ _ | with_reducible exact ix12 _ _ | exact rfl) (by omega) (by decide) ?_
        rw [hX1, e2]
        refine a_bipush (v := 20) dX12_does_63 (by decide) ?_
        refine kX12_456 rfl dX12_does_65 (Nat.le_of_ble_eq_true rfl) (isM_0 hM) (hbd) ?_
        refine a_imul dX12_does_68 ?_
        rw [sg]
        refine kX12_459 rfl dX12_does_69 (Nat.le_of_ble_eq_true rfl) (isM_0 hM) (c_X12_puts hM hi (show T.2.2 2 k < 6 by omega) hcy hlt) ?_
        exact a_vret dX12_does_72 (by exact ⟨rfl, rfl⟩)
      · exact absurd ((nI_eq (a := Z.2 1 (T.2.2 2 k)) (b := 12) (by omega) (by decide)).mp c_20) (by omega)
    · rw [ed]; exact rM_put ok hZ hSy o1 hlt
    · rw [ed]; exact zOk_put hZ o2 hlt
    · exact aFj_t (aFj_t hXj (aFj_by hby)) (aFj_t (aFj_t (aFj_w (by unfold mIn; omega)) (aFj_w (by unfold mIn; omega))) (aFj_w (by unfold mIn; omega)))
  · have ed : zDo T W k Z = zRef Z := by rw [zDo, if_neg hlt]
    refine ⟨aWr x (bM + 68) i (Z.1 0 1 + 1), ?_, ?_, ?_, aFj_w (by unfold mIn; omega)⟩
    · refine a_metV (by decide) (Nat.le_of_ble_eq_true rfl) rfl ?_
      refine a_aload_n (i := 0) dX12_does_0 rfl rfl ?_
      refine gX12_48 rfl dX12_does_1 (isM_0 hM) ?_
      refine a_iload_n (i := 2) dX12_does_4 rfl rfl ?_
      refine a_ialdN dX12_does_5 (isM_34 hM) (by first | with_reducible exact rfl | with_reducible exact ix8 _ _ | with_reducible exact ix12 _ _ | exact rfl) (by omega) (by decide) ?_
      rw [e0]
      refine a_istore_n (i := 3) dX12_does_6 rfl (by decide) ?_
      refine a_aload_n (i := 0) dX12_does_7 rfl rfl ?_
      refine gX12_115 rfl dX12_does_8 (isM_0 hM) ?_
      refine a_bipush (v := 6) dX12_does_11 (by decide) ?_
      refine a_iload_n (i := 1) dX12_does_13 rfl rfl ?_
      refine a_imul dX12_does_14 ?_
      refine a_iload_n (i := 3) dX12_does_15 rfl rfl ?_
      refine a_iadd dX12_does_16 ?_
      refine a_ialdN dX12_does_17 (isM_63 hM) (by first | exact il6 _ _ | with_reducible exact rfl | with_reducible exact ix8 _ _ | with_reducible exact ix12 _ _ | exact rfl) (by omega) (by decide) ?_
      rw [q2]
      refine a_bipush (v := 12) dX12_does_18 (by decide) ?_
      refine a_icmp_ne (tg := 34) dX12_does_20 (by decide) (fun c_20 => ?_) (fun c_20 => ?_)
      · exact absurd (show nI (Z.2 1 (T.2.2 2 k)) = nI 12 by rw [show Z.2 1 (T.2.2 2 k) = 12 by omega]) c_20
      · refine a_aload_n (i := 0) dX12_does_23 rfl rfl ?_
        refine gX12_130 rfl dX12_does_24 (isM_0 hM) ?_
        refine a_iload_n (i := 1) dX12_does_27 rfl rfl ?_
        refine a_dup2_11 dX12_does_28 rfl rfl ?_
        refine a_ialdN dX12_does_29 (isM_68 hM) (by first | with_reducible exact rfl | with_reducible exact ix8 _ _ | with_reducible exact ix12 _ _ | exact rfl) (by omega) (by decide) ?_
        rw [hS.2.1]
        refine a_iconst (v := 1) dX12_does_30 (by decide) ?_
        refine a_iadd dX12_does_31 ?_
        refine a_iastN dX12_does_32 (isM_68 hM) (by first | with_reducible exact rfl | with_reducible exact ix8 _ _ | with_reducible exact ix12 _ _ | exact rfl) (by omega) (by decide) ?_
        exact a_vret dX12_does_33 (by exact ⟨rfl, rfl⟩)
    · rw [ed]; exact rM_ref hS
    · rw [ed]; exact zOk_ui hZ
