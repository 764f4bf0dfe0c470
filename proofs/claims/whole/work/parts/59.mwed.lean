/-! LastHouseModel: weds2, number1, isDamp -/
def mJoin (x : aS) (i k1 k2 c1 c2 : Nat) : aS := lp (fun z y => aWr y (bM + 60) (8 * (6 * i + k1) + z) ((mLast y i k1 z c1 0 + mLast y i k2 z c2 0) / 2)) 0 8 x
def mMarry (x : aS) (i m n k1 k2 c1 c2 : Nat) : aS := aWr (aWr (mJoin (aWr (aWr x (bM + 67) (8 * i + m) 1) (bM + 67) (8 * i + n) 1) i k1 k2 c1 c2) (bM + 63) (6 * i + k1) 0) (bM + 64) (8 * i + n) (nI k1)
theorem mJoin_n {x : aS} {i k1 k2 c1 c2 n : Nat} (h : n ≠ bM + 60) : (mJoin x i k1 k2 c1 c2).1 n = x.1 n := by
  unfold mJoin
  rw [lp_keep (fun i y => aWr_n y _ _ h)]
theorem mLast_w {x : aS} {n j i h z c : Nat} {v u : Int32} (h0 : bM + 60 ≠ n) (h1 : bM + 61 ≠ n) (h2 : bM + 62 ≠ n) : mLast (aWr x n j v) i h z c u = mLast x i h z c u := by
  unfold mLast
  rw [aWr_n _ _ _ h0, aWr_n _ _ _ h1, aWr_n _ _ _ h2]
theorem mJoin_at {T : zT} {Z : zS} {x : aS} {i k1 k2 : Nat} (hZ : zOk T Z) (hS : rM T Z x i) (g1 : k1 < T.1 0) (g2 : k2 < T.1 0) (hne : k1 ≠ k2) : (∀ a, a ≠ bM + 60 → (mJoin x i k1 k2 (Z.2 1 k1) (Z.2 1 k2)).1 a = x.1 a) ∧ ∀ j, (mJoin x i k1 k2 (Z.2 1 k1) (Z.2 1 k2)).1 (bM + 60) j = if 8 * (6 * i + k1) ≤ j ∧ j < 8 * (6 * i + k1) + 8 then (zLast Z k1 (j - 8 * (6 * i + k1)) + zLast Z k2 (j - 8 * (6 * i + k1))) / 2 else x.1 (bM + 60) j := by
  refine lp_fill (n := bM + 60) (c := 8 * (6 * i + k1)) (K := 8) (f := fun z y => (mLast y i k1 z (Z.2 1 k1) 0 + mLast y i k2 z (Z.2 1 k2) 0) / 2) (x := x) (fun z => (zLast Z k1 z + zLast Z k2 z) / 2) (fun z y hz ha hj => ?_) 8 0 rfl x (fun _ _ => rfl) (fun j => by rw [if_neg (by omega)])
  have e : ∀ g, g < T.1 0 → (g = k1 ∨ g = k2) → mLast y i g z (Z.2 1 g) 0 = zLast Z g z := by
    intro g hg hc
    rw [← mLast_z hZ hS hg hz]
    unfold mLast
    rw [ha (bM + 61) (by omega), ha (bM + 62) (by omega), hj (8 * (6 * i + g) + z) (by rcases hc with rfl | rfl <;> omega)]
  show (mLast y i k1 z (Z.2 1 k1) 0 + mLast y i k2 z (Z.2 1 k2) 0) / 2 = _
  rw [e k1 g1 (Or.inl rfl), e k2 g2 (Or.inr rfl)]
theorem tb_or : ∀ k, k < 256 → ∀ m, m < 8 → ∀ n, n < 8 → ∀ p, p < 8 → ((k ||| 2 ^ m ||| 2 ^ n).testBit p = (k.testBit p || decide (p = m) || decide (p = n))) := by
  intro k _ m _ n _ p _
  rw [Nat.testBit_or, Nat.testBit_or, Nat.testBit_two_pow, Nat.testBit_two_pow]
  congr 1
  · congr 1
    exact decide_eq_decide.mpr ⟨fun h => h.symm, fun h => h.symm⟩
  · exact decide_eq_decide.mpr ⟨fun h => h.symm, fun h => h.symm⟩
theorem rM_marry {T : zT} {Z : zS} {x : aS} {i m n : Nat} (ok : zTok T) (hZ : zOk T Z) (hS : rM T Z x i) (hi : i < 2) (hm : m < T.1 1) (hn : n < T.1 1) (hc : Z.2 3 m ≠ Z.2 3 n) : rM T (zMarry Z m n) (mMarry x i m n (Z.2 3 m) (Z.2 3 n) (Z.2 1 (Z.2 3 m)) (Z.2 1 (Z.2 3 n))) i := by
  have h8 := ok.2.1
  have h6 := ok.1
  have g1 := hZ.2.2 m hm
  have g2 := hZ.2.2 n hn
  -- the wedded row apart
  obtain ⟨q1, q2, q3, q4⟩ := hS
  have base : ∀ y : aS, (∀ a, a ≠ bM + 67 → y.1 a = x.1 a) → ∀ g, g < T.1 0 → ∀ z, z < 8 → mLast y i g z (Z.2 1 g) 0 = zLast Z g z := by
    intro y hy g hg z hz
    rw [← mLast_z hZ ⟨q1, q2, q3, q4⟩ hg hz]
    unfold mLast
    rw [hy (bM + 60) (by omega), hy (bM + 61) (by omega), hy (bM + 62) (by omega)]
  obtain ⟨Y, hY⟩ : ∃ Y, Y = aWr (aWr x (bM + 67) (8 * i + m) 1) (bM + 67) (8 * i + n) 1 := ⟨_, rfl⟩
  have hYn : ∀ a, a ≠ bM + 67 → Y.1 a = x.1 a := fun a ha => by rw [hY, aWr_n _ _ _ ha, aWr_n _ _ _ ha]
  obtain ⟨j1, j2⟩ : (∀ a, a ≠ bM + 60 → (mJoin Y i (Z.2 3 m) (Z.2 3 n) (Z.2 1 (Z.2 3 m)) (Z.2 1 (Z.2 3 n))).1 a = Y.1 a) ∧ ∀ j, (mJoin Y i (Z.2 3 m) (Z.2 3 n) (Z.2 1 (Z.2 3 m)) (Z.2 1 (Z.2 3 n))).1 (bM + 60) j = if 8 * (6 * i + Z.2 3 m) ≤ j ∧ j < 8 * (6 * i + Z.2 3 m) + 8 then (zLast Z (Z.2 3 m) (j - 8 * (6 * i + Z.2 3 m)) + zLast Z (Z.2 3 n) (j - 8 * (6 * i + Z.2 3 m))) / 2 else Y.1 (bM + 60) j := by
    refine lp_fill (n := bM + 60) (c := 8 * (6 * i + Z.2 3 m)) (K := 8) (f := fun z y => (mLast y i (Z.2 3 m) z (Z.2 1 (Z.2 3 m)) 0 + mLast y i (Z.2 3 n) z (Z.2 1 (Z.2 3 n)) 0) / 2) (x := Y) (fun z => (zLast Z (Z.2 3 m) z + zLast Z (Z.2 3 n) z) / 2) (fun z y hz ha hj => ?_) 8 0 rfl Y (fun _ _ => rfl) (fun j => by rw [if_neg (by omega)])
    have e : ∀ g, g < T.1 0 → (g = Z.2 3 m ∨ g = Z.2 3 n) → mLast y i g z (Z.2 1 g) 0 = zLast Z g z := by
      intro g hg hc2
      rw [← base Y hYn g hg z hz]
      unfold mLast
      rw [ha (bM + 61) (by omega), ha (bM + 62) (by omega), hj (8 * (6 * i + g) + z) (by rcases hc2 with rfl | rfl <;> omega)]
    show (mLast y i (Z.2 3 m) z (Z.2 1 (Z.2 3 m)) 0 + mLast y i (Z.2 3 n) z (Z.2 1 (Z.2 3 n)) 0) / 2 = _
    rw [e _ g1 (Or.inl rfl), e _ g2 (Or.inr rfl)]
  unfold mMarry
  rw [← hY]
  have k2 : ∀ a, a ≠ bM + 60 → a ≠ bM + 63 → a ≠ bM + 64 → a ≠ bM + 67 → (aWr (aWr (mJoin Y i (Z.2 3 m) (Z.2 3 n) (Z.2 1 (Z.2 3 m)) (Z.2 1 (Z.2 3 n))) (bM + 63) (6 * i + Z.2 3 m) 0) (bM + 64) (8 * i + n) (nI (Z.2 3 m))).1 a = x.1 a := fun a a0 a3 a4 a7 => by rw [aWr_n _ _ _ a4, aWr_n _ _ _ a3, j1 a a0, hYn a a7]
  refine ⟨?_, ?_, fun g hg => ⟨fun z hz => ?_, ?_, fun k hk => ?_⟩, fun p hp => ⟨?_, ?_, ?_, ?_⟩⟩
  · rw [k2 _ (by omega) (by omega) (by omega) (by omega), q1]; simp [zMarry, zuk, zSet]
  · rw [k2 _ (by omega) (by omega) (by omega) (by omega), q2]; simp [zMarry, zuk, zSet]
  · rw [aWr_n _ _ _ (by omega), aWr_n _ _ _ (by omega), j2, hYn _ (by omega), (q3 g hg).1 z hz]
    rw [show (zMarry Z m n).1 1 (g * 8 + z) = (zSet Z (Z.2 3 m) (fun z => (zLast Z (Z.2 3 m) z + zLast Z (Z.2 3 n) z) / 2)).1 1 (g * 8 + z) from by simp [zMarry, zuk]]
    simp only [zSet]
    by_cases e : g = Z.2 3 m
    · rw [if_pos (by omega), if_pos ⟨trivial, by omega⟩, show 8 * (6 * i + g) + z - 8 * (6 * i + Z.2 3 m) = g * 8 + z - Z.2 3 m * 8 by omega]
    · rw [if_neg (by omega), if_neg (by omega)]
  · rw [aWr_n _ _ _ (by omega)]
    by_cases e : g = Z.2 3 m
    · rw [e, aWr_s]; simp [zMarry, zuk, zSet]; rfl
    · rw [aWr_j _ _ _ (by omega), j1 _ (by omega), hYn _ (by omega), (q3 g hg).2.1]; simp [zMarry, zuk, zSet, e]
  · have e : g ≠ Z.2 3 m := by
      intro e
      subst e
      simp [zMarry, zuk, zSet] at hk
    rw [show (zMarry Z m n).2 1 g = Z.2 1 g from by simp [zMarry, zuk, zSet, e]] at hk
    rw [k2 _ (by omega) (by omega) (by omega) (by omega), k2 _ (by omega) (by omega) (by omega) (by omega), ((q3 g hg).2.2 k hk).1, ((q3 g hg).2.2 k hk).2]
    exact ⟨by simp [zMarry, zuk, zSet], by simp [zMarry, zuk, zSet]⟩
  · by_cases e : p = n
    · subst e; rw [aWr_s]; simp [zMarry, zuk]
    · rw [aWr_j _ _ _ (by omega), aWr_n _ _ _ (by omega), j1 _ (by omega), hYn _ (by omega), (q4 p hp).1]; simp [zMarry, zuk, zSet, e]
  · rw [k2 _ (by omega) (by omega) (by omega) (by omega), (q4 p hp).2.1]; simp [zMarry, zuk, zSet]
  · rw [k2 _ (by omega) (by omega) (by omega) (by omega), (q4 p hp).2.2.1]; simp [zMarry, zuk, zSet]
  · rw [aWr_n _ _ _ (by omega), aWr_n _ _ _ (by omega), j1 _ (by omega), hY]
    rw [show (zMarry Z m n).2 0 0 = Z.2 0 0 ||| 2 ^ m ||| 2 ^ n from by simp [zMarry, zuk], tb_or _ hZ.1 m (by omega) n (by omega) p (by omega)]
    by_cases en : p = n
    · subst en; rw [aWr_s]; simp
    · rw [aWr_j _ _ _ (by omega)]
      by_cases em : p = m
      · subst em; rw [aWr_s]; simp
      · rw [aWr_j _ _ _ (by omega), (q4 p hp).2.2.2]; simp [en, em]
/-- a wedding that is held -/
def zWd (T : zT) (k : Nat) (Z : zS) : zS := if (Z.2 0 0).testBit (T.2.2 5 k) = false ∧ (Z.2 0 0).testBit (T.2.2 6 k) = false ∧ Z.2 3 (T.2.2 5 k) ≠ Z.2 3 (T.2.2 6 k) then zMarry Z (T.2.2 5 k) (T.2.2 6 k) else zRef Z
set_option maxHeartbeats 4000000 in
set_option maxRecDepth 100000 in
theorem c_X12_weds2 {l : Launch} {d : Nat} {D : Nat → Bool} {T : zT} {Z : zS} {i k : Nat} {x : aS} (hM : D 12 = true) (hi : i < 2) (ok : zTok T) (hZ : zOk T Z) (hT : rTM T x) (hS : rM T Z x i) (hk : k < T.1 3) : ∃ y, aDV l mX12_weds2 (d + 4) D [.ref bM, .int (nI i), .int (nI k)] x y ∧ rM T (zWd T k Z) y i ∧ zOk T (zWd T k Z) ∧ aFj i x y := by
  have h8 := ok.2.1
  have h6 := ok.1
  have h36 := ok.2.2.2.1
  obtain ⟨e0, e1, e2⟩ := hT.2.2.2.2.2.2.2.2.2.2.2.1 k hk
  obtain ⟨o1, o2⟩ := ok.2.2.2.2.2.2.2.2.2 k hk
  obtain ⟨u1, u2, u3, u4⟩ := hS.2.2.2 _ o1
  obtain ⟨w1, w2, w3, w4⟩ := hS.2.2.2 _ o2
  have g1 := hZ.2.2 _ o1
  have g2 := hZ.2.2 _ o2
  generalize hm : T.2.2 5 k = m at *
  generalize hn : T.2.2 6 k = n at *
  have hne : Z.2 3 m ≠ Z.2 3 n → nI (Z.2 3 m) ≠ nI (Z.2 3 n) := fun h g => h ((nI_eq (by omega) (by omega)).mp g)
  by_cases hc : (Z.2 0 0).testBit m = false ∧ (Z.2 0 0).testBit n = false ∧ Z.2 3 m ≠ Z.2 3 n
  · have ed : zWd T k Z = zMarry Z m n := by rw [zWd, hm, hn, if_pos hc]
    rw [hc.1, if_neg (by decide)] at u4
    rw [hc.2.1, if_neg (by decide)] at w4
    have hmn : m ≠ n := fun e => hc.2.2 (by rw [e])
    refine ⟨mMarry x i m n (Z.2 3 m) (Z.2 3 n) (Z.2 1 (Z.2 3 m)) (Z.2 1 (Z.2 3 n)), ?_, by rw [ed]; exact rM_marry ok hZ hS hi o1 o2 hc.2.2, by rw [ed]; exact zOk_marry ok hZ o1 o2, ?_⟩
    · obtain ⟨Y, hY⟩ : ∃ Y, Y = aWr (aWr x (bM + 67) (8 * i + m) 1) (bM + 67) (8 * i + n) 1 := ⟨_, rfl⟩
      have hYn : ∀ a, a ≠ bM + 67 → Y.1 a = x.1 a := fun a ha => by rw [hY, aWr_n _ _ _ ha, aWr_n _ _ _ ha]
      have L : aV l mX12_weds2 (d + 4) D none 97 [(0, .ref bM), (1, .int (nI i)), (4, .int (nI (8 * i + n))), (5, .int (nI (Z.2 3 m))), (6, .int (nI 0))] [] Y (fun v y => v = none ∧ y = mMarry x i m n (Z.2 3 m) (Z.2 3 n) (Z.2 1 (Z.2 3 m)) (Z.2 1 (Z.2 3 n))) := by
        refine lp_inv (P := fun z y => aV l mX12_weds2 (d + 4) D none 97 [(0, .ref bM), (1, .int (nI i)), (4, .int (nI (8 * i + n))), (5, .int (nI (Z.2 3 m))), (6, .int (nI z))] [] y _) (fun _ y => ∀ a, a ≠ bM + 60 → y.1 a = Y.1 a) (fun z y => aWr y (bM + 60) (8 * (6 * i + Z.2 3 m) + z) ((mLast y i (Z.2 3 m) z (Z.2 1 (Z.2 3 m)) 0 + mLast y i (Z.2 3 n) z (Z.2 1 (Z.2 3 n)) 0) / 2)) ?_ ?_ 8 0 Y rfl (fun _ _ => rfl) ?_
        · intro z y hz hy a ha
          rw [aWr_n _ _ _ ha]
          exact hy a ha
        · intro z y hz hy ih
          have c1 : y.1 (bM + 63) (6 * i + Z.2 3 m) = nI (Z.2 1 (Z.2 3 m)) := by rw [hy _ (by omega), hYn _ (by omega)]; exact (hS.2.2.1 _ g1).2.1
          have c2 : y.1 (bM + 63) (6 * i + Z.2 3 n) = nI (Z.2 1 (Z.2 3 n)) := by rw [hy _ (by omega), hYn _ (by omega)]; exact (hS.2.2.1 _ g2).2.1
          have hhn : y.1 (bM + 64) (8 * i + n) = nI (Z.2 3 n) := by rw [hy _ (by omega), hYn _ (by omega)]; exact w1
          refine a_iload (i := 6) dX12_weds2_97 rfl ?_
          refine a_bipush (v := 8) dX12_weds2_99 (by decide) ?_
          refine a_icmp_ge (tg := 154) dX12_weds2_101 (by decide) (fun c_101 => ?_) (fun c_101 => ?_)
          · exact absurd c_101 (nI_ge hz (by decide))
          · refine a_aload_n (i := 0) dX12_weds2_104 rfl rfl ?_
            refine gX12_106 rfl dX12_weds2_105 (isM_0 hM) ?_
            refine a_bipush (v := 8) dX12_weds2_108 (by decide) ?_
            refine a_bipush (v := 6) dX12_weds2_110 (by decide) ?_
            refine a_iload_n (i := 1) dX12_weds2_112 rfl rfl ?_
            refine a_imul dX12_weds2_113 ?_
            refine a_iload (i := 5) dX12_weds2_114 rfl ?_
            refine a_iadd dX12_weds2_116 ?_
            refine a_imul dX12_weds2_117 ?_
            refine a_iload (i := 6) dX12_weds2_118 rfl ?_
            refine a_iadd dX12_weds2_120 ?_
            refine a_aload_n (i := 0) dX12_weds2_121 rfl rfl ?_
            refine a_iload_n (i := 1) dX12_weds2_122 rfl rfl ?_
            refine a_iload (i := 5) dX12_weds2_123 rfl ?_
            refine a_iload (i := 6) dX12_weds2_125 rfl ?_
            refine kX12_440 rfl dX12_weds2_127 (Nat.le_of_ble_eq_true rfl) (isM_0 hM) (c_X12_lastAt hM hi (show Z.2 3 m < 6 by omega) hz c1 (hZ.2.1 _ g1).1) ?_
            refine a_aload_n (i := 0) dX12_weds2_130 rfl rfl ?_
            refine a_iload_n (i := 1) dX12_weds2_131 rfl rfl ?_
            refine a_aload_n (i := 0) dX12_weds2_132 rfl rfl ?_
            refine gX12_118 rfl dX12_weds2_133 (isM_0 hM) ?_
            refine a_iload (i := 4) dX12_weds2_136 rfl ?_
            refine a_ialdN dX12_weds2_138 (isM_64 hM) (by first | exact rfl | with_reducible exact rfl | with_reducible exact ix8 _ _ | with_reducible exact ix12 _ _ | exact rfl) (by omega) (by decide) ?_
            rw [hhn]
            refine a_iload (i := 6) dX12_weds2_139 rfl ?_
            refine kX12_440 rfl dX12_weds2_141 (Nat.le_of_ble_eq_true rfl) (isM_0 hM) (c_X12_lastAt hM hi (show Z.2 3 n < 6 by omega) hz c2 (hZ.2.1 _ g2).1) ?_
            refine a_iadd dX12_weds2_144 ?_
            refine a_iconst (v := 2) dX12_weds2_145 (by decide) ?_
            refine a_idiv dX12_weds2_146 (by decide) ?_
            refine a_iastN dX12_weds2_147 (isM_60 hM) (by first | exact il86 _ _ _ | with_reducible exact rfl | with_reducible exact ix8 _ _ | with_reducible exact ix12 _ _ | exact rfl) (by omega) (by decide) ?_
            refine a_iincK (i := 6) (u := 1) dX12_weds2_148 rfl (by decide) (by decide) ?_
            refine a_goto (tg := 97) dX12_weds2_151 (by decide) ?_
            rw [nI_1]; exact a_loc _ rfl ih
        · intro hy
          refine a_iload (i := 6) dX12_weds2_97 rfl ?_
          refine a_bipush (v := 8) dX12_weds2_99 (by decide) ?_
          refine a_icmp_ge (tg := 154) dX12_weds2_101 (by decide) (fun c_101 => ?_) (fun c_101 => ?_)
          · refine a_aload_n (i := 0) dX12_weds2_154 rfl rfl ?_
            refine gX12_115 rfl dX12_weds2_155 (isM_0 hM) ?_
            refine a_bipush (v := 6) dX12_weds2_158 (by decide) ?_
            refine a_iload_n (i := 1) dX12_weds2_160 rfl rfl ?_
            refine a_imul dX12_weds2_161 ?_
            refine a_iload (i := 5) dX12_weds2_162 rfl ?_
            refine a_iadd dX12_weds2_164 ?_
            refine a_iconst (v := 0) dX12_weds2_165 (by decide) ?_
            refine a_iastN dX12_weds2_166 (isM_63 hM) (by first | exact il6 _ _ | with_reducible exact rfl | with_reducible exact ix8 _ _ | with_reducible exact ix12 _ _ | exact rfl) (by omega) (by decide) ?_
            refine a_aload_n (i := 0) dX12_weds2_167 rfl rfl ?_
            refine gX12_118 rfl dX12_weds2_168 (isM_0 hM) ?_
            refine a_iload (i := 4) dX12_weds2_171 rfl ?_
            refine a_iload (i := 5) dX12_weds2_173 rfl ?_
            refine a_iastN dX12_weds2_175 (isM_64 hM) (by first | exact rfl | with_reducible exact rfl | with_reducible exact ix8 _ _ | with_reducible exact ix12 _ _ | exact rfl) (by omega) (by decide) ?_
            exact a_vret dX12_weds2_176 (by rw [mMarry, ← hY]; exact ⟨rfl, rfl⟩)
          · exact absurd (Int32.le_refl _) c_101
      have hY1 : Y.1 (bM + 64) (8 * i + m) = nI (Z.2 3 m) := by rw [hYn _ (by omega)]; exact u1
      refine a_metV (by decide) (Nat.le_of_ble_eq_true rfl) rfl ?_
      refine a_bipush (v := 8) dX12_weds2_0 (by decide) ?_
      refine a_iload_n (i := 1) dX12_weds2_2 rfl rfl ?_
      refine a_imul dX12_weds2_3 ?_
      refine a_aload_n (i := 0) dX12_weds2_4 rfl rfl ?_
      refine gX12_63 rfl dX12_weds2_5 (isM_0 hM) ?_
      refine a_iload_n (i := 2) dX12_weds2_8 rfl rfl ?_
      refine a_ialdN dX12_weds2_9 (isM_39 hM) (by first | with_reducible exact rfl | with_reducible exact ix8 _ _ | with_reducible exact ix12 _ _ | exact rfl) (by omega) (by decide) ?_
      rw [e0]
      refine a_iadd dX12_weds2_10 ?_
      rw [il8]
      refine a_istore_n (i := 3) dX12_weds2_11 rfl (by decide) ?_
      refine a_bipush (v := 8) dX12_weds2_12 (by decide) ?_
      refine a_iload_n (i := 1) dX12_weds2_14 rfl rfl ?_
      refine a_imul dX12_weds2_15 ?_
      refine a_aload_n (i := 0) dX12_weds2_16 rfl rfl ?_
      refine gX12_66 rfl dX12_weds2_17 (isM_0 hM) ?_
      refine a_iload_n (i := 2) dX12_weds2_20 rfl rfl ?_
      refine a_ialdN dX12_weds2_21 (isM_40 hM) (by first | with_reducible exact rfl | with_reducible exact ix8 _ _ | with_reducible exact ix12 _ _ | exact rfl) (by omega) (by decide) ?_
      rw [e1]
      refine a_iadd dX12_weds2_22 ?_
      rw [il8]
      refine a_istore (i := 4) dX12_weds2_23 (by decide) ?_
      refine a_aload_n (i := 0) dX12_weds2_25 rfl rfl ?_
      refine gX12_127 rfl dX12_weds2_26 (isM_0 hM) ?_
      refine a_iload_n (i := 3) dX12_weds2_29 rfl rfl ?_
      refine a_zaldN dX12_weds2_30 (isM_67 hM) (by first | with_reducible exact rfl | with_reducible exact ix8 _ _ | with_reducible exact ix12 _ _ | exact rfl) (by omega) (by decide) ?_
      rw [u4]
      refine a_if_ne (tg := 60) dX12_weds2_31 (by decide) (fun c_31 => ?_) (fun c_31 => ?_)
      · exact absurd rfl c_31
      · refine a_aload_n (i := 0) dX12_weds2_34 rfl rfl ?_
        refine gX12_127 rfl dX12_weds2_35 (isM_0 hM) ?_
        refine a_iload (i := 4) dX12_weds2_38 rfl ?_
        refine a_zaldN dX12_weds2_40 (isM_67 hM) (by first | with_reducible exact rfl | with_reducible exact ix8 _ _ | with_reducible exact ix12 _ _ | exact rfl) (by omega) (by decide) ?_
        rw [w4]
        refine a_if_ne (tg := 60) dX12_weds2_41 (by decide) (fun c_41 => ?_) (fun c_41 => ?_)
        · exact absurd rfl c_41
        · refine a_aload_n (i := 0) dX12_weds2_44 rfl rfl ?_
          refine gX12_118 rfl dX12_weds2_45 (isM_0 hM) ?_
          refine a_iload_n (i := 3) dX12_weds2_48 rfl rfl ?_
          refine a_ialdN dX12_weds2_49 (isM_64 hM) (by first | with_reducible exact rfl | with_reducible exact ix8 _ _ | with_reducible exact ix12 _ _ | exact rfl) (by omega) (by decide) ?_
          rw [u1]
          refine a_aload_n (i := 0) dX12_weds2_50 rfl rfl ?_
          refine gX12_118 rfl dX12_weds2_51 (isM_0 hM) ?_
          refine a_iload (i := 4) dX12_weds2_54 rfl ?_
          refine a_ialdN dX12_weds2_56 (isM_64 hM) (by first | with_reducible exact rfl | with_reducible exact ix8 _ _ | with_reducible exact ix12 _ _ | exact rfl) (by omega) (by decide) ?_
          rw [w1]
          refine a_icmp_ne (tg := 71) dX12_weds2_57 (by decide) (fun c_57 => ?_) (fun c_57 => ?_)
          · refine a_aload_n (i := 0) dX12_weds2_71 rfl rfl ?_
            refine gX12_127 rfl dX12_weds2_72 (isM_0 hM) ?_
            refine a_iload_n (i := 3) dX12_weds2_75 rfl rfl ?_
            refine a_iconst (v := 1) dX12_weds2_76 (by decide) ?_
            refine a_zastN dX12_weds2_77 (isM_67 hM) (by first | with_reducible exact rfl | with_reducible exact ix8 _ _ | with_reducible exact ix12 _ _ | exact rfl) (by omega) (by decide) (by first | exact Or.inl rfl | exact Or.inr rfl | assumption) ?_
            refine a_aload_n (i := 0) dX12_weds2_78 rfl rfl ?_
            refine gX12_127 rfl dX12_weds2_79 (isM_0 hM) ?_
            refine a_iload (i := 4) dX12_weds2_82 rfl ?_
            refine a_iconst (v := 1) dX12_weds2_84 (by decide) ?_
            refine a_zastN dX12_weds2_85 (isM_67 hM) (by first | with_reducible exact rfl | with_reducible exact ix8 _ _ | with_reducible exact ix12 _ _ | exact rfl) (by omega) (by decide) (by first | exact Or.inl rfl | exact Or.inr rfl | assumption) ?_
            rw [← hY]
            refine a_aload_n (i := 0) dX12_weds2_86 rfl rfl ?_
            refine gX12_118 rfl dX12_weds2_87 (isM_0 hM) ?_
            refine a_iload_n (i := 3) dX12_weds2_90 rfl rfl ?_
            refine a_ialdN dX12_weds2_91 (isM_64 hM) (by first | with_reducible exact rfl | with_reducible exact ix8 _ _ | with_reducible exact ix12 _ _ | exact rfl) (by omega) (by decide) ?_
            rw [hY1]
            refine a_istore (i := 5) dX12_weds2_92 (by decide) ?_
            refine a_iconst (v := 0) dX12_weds2_94 (by decide) ?_
            refine a_istore (i := 6) dX12_weds2_95 (by decide) ?_
            exact a_loc _ rfl L
          · exact absurd c_57 (hne hc.2.2)
    · unfold mMarry mJoin
      refine aFj_t (aFj_t (aFj_t (aFj_t (aFj_w (by unfold mIn; omega)) (aFj_w (by unfold mIn; omega))) ⟨aFi_lp (N := 8) (fun z y hz => aFi_w (by unfold mIn; omega)) 8 0 _ rfl, by exact congrFun (congrFun (lp_keep2 (fun _ _ => rfl) 8 0 _) bM) 69⟩) (aFj_w (by unfold mIn; omega))) (aFj_w (by unfold mIn; omega))
  · have ed : zWd T k Z = zRef Z := by rw [zWd, hm, hn, if_neg hc]
    refine ⟨aWr x (bM + 68) i (Z.1 0 1 + 1), ?_, by rw [ed]; exact rM_ref hS, by rw [ed]; exact zOk_ui hZ, aFj_w (by unfold mIn; omega)⟩
    refine a_metV (by decide) (Nat.le_of_ble_eq_true rfl) rfl ?_
    refine a_bipush (v := 8) dX12_weds2_0 (by decide) ?_
    refine a_iload_n (i := 1) dX12_weds2_2 rfl rfl ?_
    refine a_imul dX12_weds2_3 ?_
    refine a_aload_n (i := 0) dX12_weds2_4 rfl rfl ?_
    refine gX12_63 rfl dX12_weds2_5 (isM_0 hM) ?_
    refine a_iload_n (i := 2) dX12_weds2_8 rfl rfl ?_
    refine a_ialdN dX12_weds2_9 (isM_39 hM) (by first | with_reducible exact rfl | with_reducible exact ix8 _ _ | with_reducible exact ix12 _ _ | exact rfl) (by omega) (by decide) ?_
    rw [e0]
    refine a_iadd dX12_weds2_10 ?_
    rw [il8]
    refine a_istore_n (i := 3) dX12_weds2_11 rfl (by decide) ?_
    refine a_bipush (v := 8) dX12_weds2_12 (by decide) ?_
    refine a_iload_n (i := 1) dX12_weds2_14 rfl rfl ?_
    refine a_imul dX12_weds2_15 ?_
    refine a_aload_n (i := 0) dX12_weds2_16 rfl rfl ?_
    refine gX12_66 rfl dX12_weds2_17 (isM_0 hM) ?_
    refine a_iload_n (i := 2) dX12_weds2_20 rfl rfl ?_
    refine a_ialdN dX12_weds2_21 (isM_40 hM) (by first | with_reducible exact rfl | with_reducible exact ix8 _ _ | with_reducible exact ix12 _ _ | exact rfl) (by omega) (by decide) ?_
    rw [e1]
    refine a_iadd dX12_weds2_22 ?_
    rw [il8]
    refine a_istore (i := 4) dX12_weds2_23 (by decide) ?_
    refine a_aload_n (i := 0) dX12_weds2_25 rfl rfl ?_
    refine gX12_127 rfl dX12_weds2_26 (isM_0 hM) ?_
    refine a_iload_n (i := 3) dX12_weds2_29 rfl rfl ?_
    refine a_zaldN dX12_weds2_30 (isM_67 hM) (by first | with_reducible exact rfl | with_reducible exact ix8 _ _ | with_reducible exact ix12 _ _ | exact rfl) (by omega) (by decide) ?_
    rw [u4]
    refine a_if_ne (tg := 60) dX12_weds2_31 (by decide) (fun c_31 => ?_) (fun c_31 => ?_)
    · refine a_aload_n (i := 0) dX12_weds2_60 rfl rfl ?_
      refine gX12_130 rfl dX12_weds2_61 (isM_0 hM) ?_
      refine a_iload_n (i := 1) dX12_weds2_64 rfl rfl ?_
      refine a_dup2_11 dX12_weds2_65 rfl rfl ?_
      refine a_ialdN dX12_weds2_66 (isM_68 hM) (by first | with_reducible exact rfl | with_reducible exact ix8 _ _ | with_reducible exact ix12 _ _ | exact rfl) (by omega) (by decide) ?_
      rw [hS.2.1]
      refine a_iconst (v := 1) dX12_weds2_67 (by decide) ?_
      refine a_iadd dX12_weds2_68 ?_
      refine a_iastN dX12_weds2_69 (isM_68 hM) (by first | with_reducible exact rfl | with_reducible exact ix8 _ _ | with_reducible exact ix12 _ _ | exact rfl) (by omega) (by decide) ?_
      exact a_vret dX12_weds2_70 (by exact ⟨rfl, rfl⟩)
    · refine a_aload_n (i := 0) dX12_weds2_34 rfl rfl ?_
      refine gX12_127 rfl dX12_weds2_35 (isM_0 hM) ?_
      refine a_iload (i := 4) dX12_weds2_38 rfl ?_
      refine a_zaldN dX12_weds2_40 (isM_67 hM) (by first | with_reducible exact rfl | with_reducible exact ix8 _ _ | with_reducible exact ix12 _ _ | exact rfl) (by omega) (by decide) ?_
      rw [w4]
      refine a_if_ne (tg := 60) dX12_weds2_41 (by decide) (fun c_41 => ?_) (fun c_41 => ?_)
      · refine a_aload_n (i := 0) dX12_weds2_60 rfl rfl ?_
        refine gX12_130 rfl dX12_weds2_61 (isM_0 hM) ?_
        refine a_iload_n (i := 1) dX12_weds2_64 rfl rfl ?_
        refine a_dup2_11 dX12_weds2_65 rfl rfl ?_
        refine a_ialdN dX12_weds2_66 (isM_68 hM) (by first | with_reducible exact rfl | with_reducible exact ix8 _ _ | with_reducible exact ix12 _ _ | exact rfl) (by omega) (by decide) ?_
        rw [hS.2.1]
        refine a_iconst (v := 1) dX12_weds2_67 (by decide) ?_
        refine a_iadd dX12_weds2_68 ?_
        refine a_iastN dX12_weds2_69 (isM_68 hM) (by first | with_reducible exact rfl | with_reducible exact ix8 _ _ | with_reducible exact ix12 _ _ | exact rfl) (by omega) (by decide) ?_
        exact a_vret dX12_weds2_70 (by exact ⟨rfl, rfl⟩)
      · refine a_aload_n (i := 0) dX12_weds2_44 rfl rfl ?_
        refine gX12_118 rfl dX12_weds2_45 (isM_0 hM) ?_
        refine a_iload_n (i := 3) dX12_weds2_48 rfl rfl ?_
        refine a_ialdN dX12_weds2_49 (isM_64 hM) (by first | with_reducible exact rfl | with_reducible exact ix8 _ _ | with_reducible exact ix12 _ _ | exact rfl) (by omega) (by decide) ?_
        rw [u1]
        refine a_aload_n (i := 0) dX12_weds2_50 rfl rfl ?_
        refine gX12_118 rfl dX12_weds2_51 (isM_0 hM) ?_
        refine a_iload (i := 4) dX12_weds2_54 rfl ?_
        refine a_ialdN dX12_weds2_56 (isM_64 hM) (by first | with_reducible exact rfl | with_reducible exact ix8 _ _ | with_reducible exact ix12 _ _ | exact rfl) (by omega) (by decide) ?_
        rw [w1]
        refine a_icmp_ne (tg := 71) dX12_weds2_57 (by decide) (fun c_57 => ?_) (fun c_57 => ?_)
        · exact absurd ⟨by by_cases q : (Z.2 0 0).testBit m = true; rw [if_pos q] at c_31; exact absurd c_31 (by decide); exact Bool.eq_false_iff.mpr q, by by_cases q : (Z.2 0 0).testBit n = true; rw [if_pos q] at c_41; exact absurd c_41 (by decide); exact Bool.eq_false_iff.mpr q, fun q => c_57 (by rw [q])⟩ hc
        · refine a_aload_n (i := 0) dX12_weds2_60 rfl rfl ?_
          refine gX12_130 rfl dX12_weds2_61 (isM_0 hM) ?_
          refine a_iload_n (i := 1) dX12_weds2_64 rfl rfl ?_
          refine a_dup2_11 dX12_weds2_65 rfl rfl ?_
          refine a_ialdN dX12_weds2_66 (isM_68 hM) (by first | with_reducible exact rfl | with_reducible exact ix8 _ _ | with_reducible exact ix12 _ _ | exact rfl) (by omega) (by decide) ?_
          rw [hS.2.1]
          refine a_iconst (v := 1) dX12_weds2_67 (by decide) ?_
          refine a_iadd dX12_weds2_68 ?_
          refine a_iastN dX12_weds2_69 (isM_68 hM) (by first | with_reducible exact rfl | with_reducible exact ix8 _ _ | with_reducible exact ix12 _ _ | exact rfl) (by omega) (by decide) ?_
          exact a_vret dX12_weds2_70 (by exact ⟨rfl, rfl⟩)
