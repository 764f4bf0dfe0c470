/-! bumps, ask: the model -/
section qAA
variable {l : Launch} {d : Nat} {D : Nat → Bool} {T : zT} {W : Nat → zL} {Z : zS} {t : Nat} {x : aS} {p : Nat × zG} {c : Nat → Bool} {K : Nat}
/-- frame: places of state i alone -/
def mOn (i : Nat) (x y : aS) : Prop := (∀ n j, ¬ mIn i n j → y.1 n j = x.1 n j) ∧ y.2 = x.2
theorem mOn_r {i : Nat} : mOn i x x := ⟨fun _ _ _ => rfl, rfl⟩
theorem mOn_t {i : Nat} {y z : aS} (h1 : mOn i x y) (h2 : mOn i y z) : mOn i x z := ⟨fun n j a => (h2.1 n j a).trans (h1.1 n j a), h2.2.trans h1.2⟩
theorem mOn_w {i n j : Nat} {v : Int32} (h : mIn i n j) : mOn i x (aWr x n j v) := ⟨fun m k a => aWr_o _ _ (fun e => a (by rw [e.1, e.2]; exact h)), rfl⟩
theorem mBare_at {i h : Nat} : (∀ z, z < 8 → (mBare x i h).1 (bM + 60) (8 * (6 * i + h) + z) = x.1 (bM + 28) h) ∧ (∀ j, (j < 8 * (6 * i + h) ∨ 8 * (6 * i + h) + 8 ≤ j) → (mBare x i h).1 (bM + 60) j = x.1 (bM + 60) j) ∧ (∀ j, (mBare x i h).1 (bM + 63) j = if j = 6 * i + h then 0 else x.1 (bM + 63) j) ∧ (∀ n, n ≠ bM + 60 → n ≠ bM + 63 → (mBare x i h).1 n = x.1 n) ∧ (mBare x i h).2 = x.2 := by
  obtain ⟨w1, w2⟩ := lp_fill (n := bM + 60) (c := 8 * (6 * i + h)) (K := 8) (f := fun _ y => y.1 (bM + 28) h) (x := x) (fun _ => x.1 (bM + 28) h) (fun z y _ ha _ => by rw [ha (bM + 28) (by omega)]) 8 0 rfl x (fun _ _ => rfl) (fun j => by rw [if_neg (by omega)])
  unfold mBare
  refine ⟨fun z hz => ?_, fun j hj => ?_, fun j => ?_, fun n h1 h2 => ?_, ?_⟩
  · rw [aWr_n _ _ _ (by omega), w2, if_pos (by omega)]
  · rw [aWr_n _ _ _ (by omega), w2, if_neg (by omega)]
  · by_cases e : j = 6 * i + h
    · subst e; rw [aWr_s, if_pos rfl]
    · rw [aWr_j _ _ _ e, w1 _ (by omega), if_neg e]
  · rw [aWr_n _ _ _ h2, w1 n h1]
  · exact lp_keep2 (fun _ _ => rfl) 8 0 x
theorem mOn_bare {i h : Nat} (hh : h < 6) : mOn i x (mBare x i h) := by
  obtain ⟨a, b, c, e, f⟩ := mBare_at (x := x) (i := i) (h := h)
  refine ⟨fun n j g => ?_, f⟩
  by_cases e1 : n = bM + 60
  · subst e1; exact b j (by unfold mIn at g; omega)
  · by_cases e2 : n = bM + 63
    · subst e2; rw [c, if_neg (by unfold mIn at g; omega)]
    · rw [e n e1 e2]
set_option maxHeartbeats 4000000 in
set_option maxRecDepth 100000 in
theorem c_X12_atFirst {i : Nat} (hM : D 12 = true) (hi : i < 2) (ok : zTok T) (hT : rTM T x) : aCt l mX12_atFirst (d + 1) D [.ref bM, .int (nI i)] x (fun v y => v = none ∧ rM T (zFirst T) y i ∧ mOn i x y) := by
  have h6 := ok.1
  have h8 := ok.2.1
  obtain ⟨_, _, _, _, _, _, _, _, b1, b2, _⟩ := hT
  refine a_met (by decide) (Nat.le_of_ble_eq_true rfl) (fun v y q => Or.inr (Or.inr (Or.inr ⟨rfl, q.1⟩))) ?_
  have P : ∀ (f m : Nat), m + f = 8 → ∀ y : aS, mOn i x y → (∀ h, h < 6 → (∀ z, z < 8 → y.1 (bM + 60) (8 * (6 * i + h) + z) = x.1 (bM + 28) h) ∧ y.1 (bM + 63) (6 * i + h) = 0) → (∀ q, q < m → y.1 (bM + 64) (8 * i + q) = x.1 (bM + 30) q ∧ y.1 (bM + 65) (8 * i + q) = x.1 (bM + 33) q ∧ y.1 (bM + 66) (8 * i + q) = 0 ∧ y.1 (bM + 67) (8 * i + q) = 0) → aV l mX12_atFirst (d + 1) D none 22 [(0, .ref bM), (1, .int (nI i)), (2, .int (nI m))] [] y (fun v y => v = none ∧ rM T (zFirst T) y i ∧ mOn i x y) := by
    intro f
    induction f with
    | zero =>
      intro m hm y h1 h2 h3
      rw [Nat.add_zero] at hm
      subst hm
      have F : mOn i x (aWr (aWr y (bM + 68) i 0) (bM + 69) i 0) := mOn_t h1 (mOn_t (mOn_w (by unfold mIn; omega)) (mOn_w (by unfold mIn; omega)))
      have R : rM T (zFirst T) (aWr (aWr y (bM + 68) i 0) (bM + 69) i 0) i := by
        refine ⟨by rw [aWr_s]; rfl, by rw [aWr_n _ _ _ (by decide), aWr_s]; rfl, fun h hh => ⟨fun z hz => ?_, ?_, fun k hk => absurd hk (by show ¬ k < 0; omega)⟩, fun m hm => ?_⟩
        · rw [aWr_n _ _ _ (by decide), aWr_n _ _ _ (by decide), (h2 h (by omega)).1 z hz, (b1 h hh).2]
          show T.2.1 1 h = T.2.1 1 ((h * 8 + z) / 8)
          rw [show (h * 8 + z) / 8 = h by omega]
        · rw [aWr_n _ _ _ (by decide), aWr_n _ _ _ (by decide), (h2 h (by omega)).2]; rfl
        · obtain ⟨q1, q2, q3, q4⟩ := h3 m (by omega)
          obtain ⟨_, c2, _, _, c5⟩ := b2 m hm
          rw [aWr_n _ _ _ (by decide), aWr_n _ _ _ (by decide), aWr_n _ _ _ (by decide), aWr_n _ _ _ (by decide), aWr_n _ _ _ (by decide), aWr_n _ _ _ (by decide), aWr_n _ _ _ (by decide), aWr_n _ _ _ (by decide), q1, q2, q3, q4, c2, c5]
          exact ⟨rfl, rfl, rfl, by show (0 : Int32) = if (0 : Nat).testBit m = true then 1 else 0; rw [Nat.zero_testBit]; rfl⟩
      refine a_iload_n (i := 2) dX12_atFirst_22 rfl rfl ?_
      refine a_bipush (v := 8) dX12_atFirst_23 (by decide) ?_
      refine a_icmp_ge (tg := 92) dX12_atFirst_25 (by decide) (fun c_25 => ?_) (fun c_25 => ?_)
      · refine a_aload_n (i := 0) dX12_atFirst_92 rfl rfl ?_
        refine gX12_130 rfl dX12_atFirst_93 (isM_0 hM) ?_
        refine a_iload_n (i := 1) dX12_atFirst_96 rfl rfl ?_
        refine a_iconst (v := 0) dX12_atFirst_97 (by decide) ?_
        refine a_iastN dX12_atFirst_98 (isM_68 hM) (by first | with_reducible exact rfl | with_reducible exact ix8 _ _ | with_reducible exact ix12 _ _ | exact rfl) (by omega) (by decide) ?_
        refine a_aload_n (i := 0) dX12_atFirst_99 rfl rfl ?_
        refine gX12_133 rfl dX12_atFirst_100 (isM_0 hM) ?_
        refine a_iload_n (i := 1) dX12_atFirst_103 rfl rfl ?_
        refine a_iconst (v := 0) dX12_atFirst_104 (by decide) ?_
        refine a_iastN dX12_atFirst_105 (isM_69 hM) (by first | with_reducible exact rfl | with_reducible exact ix8 _ _ | with_reducible exact ix12 _ _ | exact rfl) (by omega) (by decide) ?_
        exact a_vret dX12_atFirst_106 (by exact ⟨rfl, R, F⟩)
      · exact absurd (Int32.le_refl _) c_25
    | succ f ih =>
      intro m hm y h1 h2 h3
      obtain ⟨y1, hy1⟩ : ∃ y1, y1 = aWr y (bM + 64) (8 * i + m) (x.1 (bM + 30) m) := ⟨_, rfl⟩
      obtain ⟨y2, hy2⟩ : ∃ y2, y2 = aWr y1 (bM + 65) (8 * i + m) (x.1 (bM + 33) m) := ⟨_, rfl⟩
      obtain ⟨y3, hy3⟩ : ∃ y3, y3 = aWr (aWr y2 (bM + 66) (8 * i + m) 0) (bM + 67) (8 * i + m) 0 := ⟨_, rfl⟩
      have e1 : y.1 (bM + 30) m = x.1 (bM + 30) m := h1.1 _ _ (by unfold mIn; omega)
      have e2 : y1.1 (bM + 33) m = x.1 (bM + 33) m := by rw [hy1, aWr_n _ _ _ (by decide)]; exact h1.1 _ _ (by unfold mIn; omega)
      have F : mOn i x y3 := by
        rw [hy3, hy2, hy1]
        exact mOn_t h1 (mOn_t (mOn_w (by unfold mIn; omega)) (mOn_t (mOn_w (by unfold mIn; omega)) (mOn_t (mOn_w (by unfold mIn; omega)) (mOn_w (by unfold mIn; omega)))))
      have o : ∀ n j, n ≠ bM + 64 → n ≠ bM + 65 → n ≠ bM + 66 → n ≠ bM + 67 → y3.1 n j = y.1 n j := fun n j a b c e => by rw [hy3, aWr_n _ _ _ e, aWr_n _ _ _ c, hy2, aWr_n _ _ _ b, hy1, aWr_n _ _ _ a]
      have ih2 := ih (m + 1) (by omega) y3 F (fun h hh => by
        refine ⟨fun z hz => ?_, ?_⟩
        · rw [o _ _ (by decide) (by decide) (by decide) (by decide)]; exact (h2 h hh).1 z hz
        · rw [o _ _ (by decide) (by decide) (by decide) (by decide)]; exact (h2 h hh).2) (fun q hq => by
        by_cases e : q = m
        · subst e
          refine ⟨?_, ?_, ?_, ?_⟩
          · rw [hy3, aWr_n _ _ _ (by decide), aWr_n _ _ _ (by decide), hy2, aWr_n _ _ _ (by decide), hy1, aWr_s]
          · rw [hy3, aWr_n _ _ _ (by decide), aWr_n _ _ _ (by decide), hy2, aWr_s]
          · rw [hy3, aWr_n _ _ _ (by decide), aWr_s]
          · rw [hy3, aWr_s]
        · obtain ⟨q1, q2, q3, q4⟩ := h3 q (by omega)
          refine ⟨?_, ?_, ?_, ?_⟩
          · rw [hy3, aWr_n _ _ _ (by decide), aWr_n _ _ _ (by decide), hy2, aWr_n _ _ _ (by decide), hy1, aWr_j _ _ _ (by omega), q1]
          · rw [hy3, aWr_n _ _ _ (by decide), aWr_n _ _ _ (by decide), hy2, aWr_j _ _ _ (by omega), hy1, aWr_n _ _ _ (by decide), q2]
          · rw [hy3, aWr_n _ _ _ (by decide), aWr_j _ _ _ (by omega), hy2, aWr_n _ _ _ (by decide), hy1, aWr_n _ _ _ (by decide), q3]
          · rw [hy3, aWr_j _ _ _ (by omega), aWr_n _ _ _ (by decide), hy2, aWr_n _ _ _ (by decide), hy1, aWr_n _ _ _ (by decide), q4])
      rw [hy3] at ih2
      refine a_iload_n (i := 2) dX12_atFirst_22 rfl rfl ?_
      refine a_bipush (v := 8) dX12_atFirst_23 (by decide) ?_
      refine a_icmp_ge (tg := 92) dX12_atFirst_25 (by decide) (fun c_25 => ?_) (fun c_25 => ?_)
      · exact absurd c_25 (nI_ge (show m < 8 by omega) (by decide))
      · refine a_aload_n (i := 0) dX12_atFirst_28 rfl rfl ?_
        refine gX12_118 rfl dX12_atFirst_29 (isM_0 hM) ?_
        refine a_bipush (v := 8) dX12_atFirst_32 (by decide) ?_
        refine a_iload_n (i := 1) dX12_atFirst_34 rfl rfl ?_
        refine a_imul dX12_atFirst_35 ?_
        refine a_iload_n (i := 2) dX12_atFirst_36 rfl rfl ?_
        refine a_iadd dX12_atFirst_37 ?_
        refine a_aload_n (i := 0) dX12_atFirst_38 rfl rfl ?_
        refine gX12_36 rfl dX12_atFirst_39 (isM_0 hM) ?_
        refine a_iload_n (i := 2) dX12_atFirst_42 rfl rfl ?_
        refine a_ialdN dX12_atFirst_43 (isM_30 hM) (by first | with_reducible exact rfl | with_reducible exact ix8 _ _ | with_reducible exact ix12 _ _ | exact rfl) (by omega) (by decide) ?_
        rw [e1]
        refine a_iastN dX12_atFirst_44 (isM_64 hM) (by first | exact il8 _ _ | with_reducible exact rfl | with_reducible exact ix8 _ _ | with_reducible exact ix12 _ _ | exact rfl) (by omega) (by decide) ?_
        rw [← hy1]
        refine a_aload_n (i := 0) dX12_atFirst_45 rfl rfl ?_
        refine gX12_121 rfl dX12_atFirst_46 (isM_0 hM) ?_
        refine a_bipush (v := 8) dX12_atFirst_49 (by decide) ?_
        refine a_iload_n (i := 1) dX12_atFirst_51 rfl rfl ?_
        refine a_imul dX12_atFirst_52 ?_
        refine a_iload_n (i := 2) dX12_atFirst_53 rfl rfl ?_
        refine a_iadd dX12_atFirst_54 ?_
        refine a_aload_n (i := 0) dX12_atFirst_55 rfl rfl ?_
        refine gX12_45 rfl dX12_atFirst_56 (isM_0 hM) ?_
        refine a_iload_n (i := 2) dX12_atFirst_59 rfl rfl ?_
        refine a_ialdN dX12_atFirst_60 (isM_33 hM) (by first | with_reducible exact rfl | with_reducible exact ix8 _ _ | with_reducible exact ix12 _ _ | exact rfl) (by omega) (by decide) ?_
        rw [e2]
        refine a_iastN dX12_atFirst_61 (isM_65 hM) (by first | exact il8 _ _ | with_reducible exact rfl | with_reducible exact ix8 _ _ | with_reducible exact ix12 _ _ | exact rfl) (by omega) (by decide) ?_
        rw [← hy2]
        refine a_aload_n (i := 0) dX12_atFirst_62 rfl rfl ?_
        refine gX12_124 rfl dX12_atFirst_63 (isM_0 hM) ?_
        refine a_bipush (v := 8) dX12_atFirst_66 (by decide) ?_
        refine a_iload_n (i := 1) dX12_atFirst_68 rfl rfl ?_
        refine a_imul dX12_atFirst_69 ?_
        refine a_iload_n (i := 2) dX12_atFirst_70 rfl rfl ?_
        refine a_iadd dX12_atFirst_71 ?_
        refine a_iconst (v := 0) dX12_atFirst_72 (by decide) ?_
        refine a_iastN dX12_atFirst_73 (isM_66 hM) (by first | exact il8 _ _ | with_reducible exact rfl | with_reducible exact ix8 _ _ | with_reducible exact ix12 _ _ | exact rfl) (by omega) (by decide) ?_
        refine a_aload_n (i := 0) dX12_atFirst_74 rfl rfl ?_
        refine gX12_127 rfl dX12_atFirst_75 (isM_0 hM) ?_
        refine a_bipush (v := 8) dX12_atFirst_78 (by decide) ?_
        refine a_iload_n (i := 1) dX12_atFirst_80 rfl rfl ?_
        refine a_imul dX12_atFirst_81 ?_
        refine a_iload_n (i := 2) dX12_atFirst_82 rfl rfl ?_
        refine a_iadd dX12_atFirst_83 ?_
        refine a_iconst (v := 0) dX12_atFirst_84 (by decide) ?_
        refine a_zastN dX12_atFirst_85 (isM_67 hM) (by first | exact il8 _ _ | with_reducible exact rfl | with_reducible exact ix8 _ _ | with_reducible exact ix12 _ _ | exact rfl) (by omega) (by decide) (by first | exact Or.inl rfl | exact Or.inr rfl | assumption) ?_
        refine a_iincK (i := 2) (u := 1) dX12_atFirst_86 rfl (by decide) (by decide) ?_
        refine a_goto (tg := 22) dX12_atFirst_89 (by decide) ?_
        rw [nI_1]; exact a_loc _ rfl ih2
  have H : ∀ (f k : Nat), k + f = 6 → ∀ y : aS, mOn i x y → (∀ h, h < k → (∀ z, z < 8 → y.1 (bM + 60) (8 * (6 * i + h) + z) = x.1 (bM + 28) h) ∧ y.1 (bM + 63) (6 * i + h) = 0) → aV l mX12_atFirst (d + 1) D none 2 [(0, .ref bM), (1, .int (nI i)), (2, .int (nI k))] [] y (fun v y => v = none ∧ rM T (zFirst T) y i ∧ mOn i x y) := by
    intro f
    induction f with
    | zero =>
      intro k hk y h1 h2
      rw [Nat.add_zero] at hk
      subst hk
      refine a_iload_n (i := 2) dX12_atFirst_2 rfl rfl ?_
      refine a_bipush (v := 6) dX12_atFirst_3 (by decide) ?_
      refine a_icmp_ge (tg := 20) dX12_atFirst_5 (by decide) (fun c_5 => ?_) (fun c_5 => ?_)
      · refine a_iconst (v := 0) dX12_atFirst_20 (by decide) ?_
        refine a_istore_n (i := 2) dX12_atFirst_21 rfl (by decide) ?_
        exact a_loc _ rfl (P 8 0 rfl y h1 h2 (fun q hq => absurd hq (by omega)))
      · exact absurd (Int32.le_refl _) c_5
    | succ f ih =>
      intro k hk y h1 h2
      obtain ⟨a, b, c, e, _⟩ := mBare_at (x := y) (i := i) (h := k)
      have ih2 := ih (k + 1) (by omega) (mBare y i k) (mOn_t h1 (mOn_bare (by omega))) (fun h hh => by
        by_cases e1 : h = k
        · subst e1
          exact ⟨fun z hz => by rw [a z hz]; exact h1.1 _ _ (by unfold mIn; omega), by rw [c, if_pos rfl]⟩
        · exact ⟨fun z hz => by rw [b _ (by omega)]; exact (h2 h (by omega)).1 z hz, by rw [c, if_neg (by omega)]; exact (h2 h (by omega)).2⟩)
      refine a_iload_n (i := 2) dX12_atFirst_2 rfl rfl ?_
      refine a_bipush (v := 6) dX12_atFirst_3 (by decide) ?_
      refine a_icmp_ge (tg := 20) dX12_atFirst_5 (by decide) (fun c_5 => ?_) (fun c_5 => ?_)
      · exact absurd c_5 (nI_ge (show k < 6 by omega) (by decide))
      · refine a_aload_n (i := 0) dX12_atFirst_8 rfl rfl ?_
        refine a_iload_n (i := 1) dX12_atFirst_9 rfl rfl ?_
        refine a_iload_n (i := 2) dX12_atFirst_10 rfl rfl ?_
        refine kX12_407 rfl dX12_atFirst_11 (Nat.le_of_ble_eq_true rfl) (isM_0 hM) (c_X12_bares hM hi (show k < 6 by omega)) ?_
        refine a_iincK (i := 2) (u := 1) dX12_atFirst_14 rfl (by decide) (by decide) ?_
        refine a_goto (tg := 2) dX12_atFirst_17 (by decide) ?_
        rw [nI_1]; exact a_loc _ rfl ih2
  refine a_iconst (v := 0) dX12_atFirst_0 (by decide) ?_
  refine a_istore_n (i := 2) dX12_atFirst_1 rfl (by decide) ?_
  exact a_loc _ rfl (H 6 0 rfl x mOn_r (fun h hh => absurd hh (by omega)))
theorem rM_b0 {m b : Nat} (h : rM T (zFirst T) x 1) : rM T (zB0 T m b) (aWr x (bM + 65) (8 + m) (nI b)) 1 := by
  obtain ⟨q1, q2, q3, q4⟩ := h
  refine ⟨by rw [aWr_n _ _ _ (by decide), q1]; simp [zB0, zui], by rw [aWr_n _ _ _ (by decide), q2]; simp [zB0, zui], fun g hg => ?_, fun n hn => ?_⟩
  · rw [aWr_n _ _ _ (by decide), aWr_n _ _ _ (by decide), aWr_n _ _ _ (by decide), aWr_n _ _ _ (by decide)]
    exact q3 g hg
  · rw [aWr_n (a := bM + 64) _ _ _ (by decide), aWr_n (a := bM + 66) _ _ _ (by decide), aWr_n (a := bM + 67) _ _ _ (by decide)]
    obtain ⟨a1, a2, a3, a4⟩ := q4 n hn
    refine ⟨a1, ?_, by rw [a3]; simp [zB0, zui], a4⟩
    by_cases e : n = m
    · subst e; rw [show 8 * 1 + n = 8 + n by omega, aWr_s]; simp [zB0, zui]
    · rw [aWr_j _ _ _ (by omega), a2]; simp [zB0, zui, e]
set_option maxHeartbeats 4000000 in
set_option maxRecDepth 100000 in
theorem c_X12_layBump {m b : Nat} (hM : D 12 = true) (h : mQ T W Z x) (hm : m < T.1 1) : aCt l mX12_layBump (d + 2) D [.ref bM, .int (nI m), .int (nI b)] x (fun v y => v = none ∧ mY T W 5 1 (zB0 T m b) y ∧ mF x y ∧ y.2 = x.2 ∧ ∀ n, bM + 70 ≤ n → y.1 n = x.1 n) := by
  have hq := h
  obtain ⟨⟨ok, hZ, hT, hW, hS⟩, hB, hN, hf⟩ := h
  have h8 := ok.2.1
  refine a_met (by decide) (Nat.le_of_ble_eq_true rfl) (fun v y q => Or.inr (Or.inr (Or.inr ⟨rfl, q.1⟩))) ?_
  have G : ∀ y : aS, rM T (zFirst T) y 1 → mOn 1 x y → mY T W 5 1 (zB0 T m b) (aWr (mFl0 y) (bM + 65) (8 + m) (nI b)) ∧ mF x (aWr (mFl0 y) (bM + 65) (8 + m) (nI b)) ∧ (aWr (mFl0 y) (bM + 65) (8 + m) (nI b)).2 = x.2 ∧ ∀ n, bM + 70 ≤ n → (aWr (mFl0 y) (bM + 65) (8 + m) (nI b)).1 n = x.1 n := by
    intro y hr hF
    have F1 : mF x y := ⟨fun n j g => hF.1 n j (fun q => g (Or.inr (Or.inl q))), fun n _ _ => by rw [hF.2]⟩
    have hfy : rFl 5 y := (mQ_F F1 hq).2.2.2
    have F2 : mF x (mFl0 y) := mF_fl hf F1 (fun n j g => mFl0_fr g) (mFl0_f (Or.inl rfl)) rfl
    have F3 : mF x (aWr (mFl0 y) (bM + 65) (8 + m) (nI b)) := mF_t F2 (mF_w (Or.inr (Or.inl (by unfold mIn; omega))))
    have Q3 := mQ_F F3 hq
    have S3 : rM T (zB0 T m b) (aWr (mFl0 y) (bM + 65) (8 + m) (nI b)) 1 := rM_b0 (rM_same ok (zOk_first ok) (fun n j hj => by rw [mFl0_n (by unfold mIn at hj; omega)]) hr)
    refine ⟨⟨ok, Q3.1.2.2.1, Q3.1.2.2.2.1, Q3.2.2.2, zOk_0 ok, S3, fun q hq => ?_, aFi_r, fun g => absurd g (by decide), fun _ => rfl⟩, F3, hF.2, fun n hn => by rw [aWr_n _ _ _ (by omega), mFl0_n (by omega)]; funext j; exact hF.1 n j (by unfold mIn; omega)⟩
    obtain ⟨c, hc, e⟩ := zCo_0 (T := T) (m := m) (b := b) q hq
    rw [e]
    exact nI_le hc (by decide)
  refine a_aload_n (i := 0) dX12_layBump_0 rfl rfl ?_
  refine a_iconst (v := 1) dX12_layBump_1 (by decide) ?_
  refine kgX12_388 rfl dX12_layBump_2 (Nat.le_of_ble_eq_true rfl) (isM_0 hM) (c_X12_atFirst (i := 1) hM (by decide) ok hT) ?_
  rintro v y ⟨rfl, hr, hF⟩
  obtain ⟨g1, g2, g3, g4⟩ := G y hr hF
  refine a_aload_n (i := 0) dX12_layBump_5 rfl rfl ?_
  refine kX12_395 rfl dX12_layBump_6 (Nat.le_of_ble_eq_true rfl) (isM_0 hM) (c_X12_plainTried hM) ?_
  refine a_aload_n (i := 0) dX12_layBump_9 rfl rfl ?_
  refine gX12_121 rfl dX12_layBump_10 (isM_0 hM) ?_
  refine a_bipush (v := 8) dX12_layBump_13 (by decide) ?_
  refine a_iload_n (i := 1) dX12_layBump_15 rfl rfl ?_
  refine a_iadd dX12_layBump_16 ?_
  refine a_iload_n (i := 2) dX12_layBump_17 rfl rfl ?_
  refine a_iastN dX12_layBump_18 (isM_65 hM) (by first | exact nI_add 8 m | with_reducible exact rfl | with_reducible exact ix8 _ _ | with_reducible exact ix12 _ _ | exact rfl) (by omega) (by decide) ?_
  exact a_vret dX12_layBump_19 (by exact ⟨rfl, g1, g2, g3, g4⟩)
/-- what counts, as a row of the model -/
def rCM (c : Nat → Bool) (K : Nat) (x : aS) : Prop := ∀ i, i < K → x.1 (bM + 82) i = bI (c i)
set_option maxHeartbeats 4000000 in
set_option maxRecDepth 100000 in
theorem c_X12_isSo {n : Nat} {Y : zS} {k : Int32} (hM : D 12 = true) (tk : zTok T) (ok : sgOk T p) (hg : rGM p x) (hk : x.1 bM 79 = k) (hk1 : -1 ≤ k) (hK : (if k = -1 then nI p.1 else k) = nI K) (hKp : K ≤ p.1) (hc : rCM c K x) (hS : rM T Y x 1) (hn : 0 < n) (hn2 : n ≤ 60) : aDI l mX12_isSo (d + 1) D [.ref bM, .int (nI n)] x (bI (!zAny (zBad p c n Y) 0 K)) x := by
  have p24 := ok.1
  have h8 := tk.2.1
  have hkn := c_X12_knownBy (l := l) (d := d) hM hg.1 hk hk1
  rw [hK] at hkn
  refine a_metZ (by decide) (Nat.le_of_ble_eq_true rfl) rfl (bI_01 _) ?_
  have L : ∀ (f i : Nat), i + f = K → aV l mX12_isSo (d + 1) D none 2 [(0, .ref bM), (1, .int (nI n)), (2, .int (nI i))] [] x (fun v y => v = some (.int (bI (!zAny (zBad p c n Y) i f))) ∧ y = x) := by
    intro f
    induction f with
    | zero =>
      intro i hi
      rw [Nat.add_zero] at hi
      subst hi
      refine a_iload_n (i := 2) dX12_isSo_2 rfl rfl ?_
      refine a_aload_n (i := 0) dX12_isSo_3 rfl rfl ?_
      refine kX12_556 rfl dX12_isSo_4 (Nat.le_of_ble_eq_true rfl) (isM_0 hM) (hkn) ?_
      refine a_icmp_ge (tg := 100) dX12_isSo_7 (by decide) (fun c_7 => ?_) (fun c_7 => ?_)
      · refine a_iconst (v := 1) dX12_isSo_100 (by decide) ?_
        exact a_iret dX12_isSo_101 (by exact ⟨rfl, rfl⟩)
      · exact absurd (Int32.le_refl _) c_7
    | succ f ih =>
      intro i hi
      have iN : i < p.1 := by omega
      have y60 := (ok.2 i iN).1
      have ih2 := ih (i + 1) (by omega)
      have e1 := hc i (by omega)
      obtain ⟨s1, s2, s3⟩ := hg.2 i iN
      have i1 : nI (4 * i) + 1 = nI (4 * i + 1) := nI_add _ 1
      have i2 : nI (4 * i) + 2 = nI (4 * i + 2) := nI_add _ 2
      have i3 : nI (4 * i) + 3 = nI (4 * i + 3) := nI_add _ 3
      show aV _ _ _ _ _ _ _ _ _ (fun v y => v = some (.int (bI (!(zBad p c n Y i || zAny (zBad p c n Y) (i + 1) f)))) ∧ y = x)
      cases hci : c i with
      | false =>
        rw [hci] at e1
        have eb : zBad p c n Y i = false := by unfold zBad; rw [hci]; rfl
        rw [eb, Bool.false_or]
        refine a_iload_n (i := 2) dX12_isSo_2 rfl rfl ?_
        refine a_aload_n (i := 0) dX12_isSo_3 rfl rfl ?_
        refine kX12_556 rfl dX12_isSo_4 (Nat.le_of_ble_eq_true rfl) (isM_0 hM) (hkn) ?_
        refine a_icmp_ge (tg := 100) dX12_isSo_7 (by decide) (fun c_7 => ?_) (fun c_7 => ?_)
        · exact absurd c_7 (nI_ge (show i < K by omega) (by omega))
        · refine a_aload_n (i := 0) dX12_isSo_10 rfl rfl ?_
          refine gX12_151 rfl dX12_isSo_11 (isM_0 hM) ?_
          refine a_iload_n (i := 2) dX12_isSo_14 rfl rfl ?_
          refine a_zaldN dX12_isSo_15 (isM_82 hM) (by first | with_reducible exact rfl | with_reducible exact ix8 _ _ | with_reducible exact ix12 _ _ | exact rfl) (by omega) (by decide) ?_
          rw [e1]
          refine a_if_eq (tg := 94) dX12_isSo_16 (by decide) (fun c_16 => ?_) (fun c_16 => ?_)
          · refine a_iincK (i := 2) (u := 1) dX12_isSo_94 rfl (by decide) (by decide) ?_
            refine a_goto (tg := 2) dX12_isSo_97 (by decide) ?_
            rw [nI_1]; exact a_loc _ rfl ih2
          · exact absurd rfl c_16
      | true =>
        rw [hci] at e1
        by_cases qn : (p.2 i).1 = n
        · have q0 : ¬ (p.2 i).1 = 0 := by omega
          rw [if_neg q0] at s1
          obtain ⟨s4, s5⟩ := s3 q0
          have mF := (ok.2 i iN).2.2 q0
          have ex := (hS.2.2.2 _ mF).2.2.1
          rw [show 8 * 1 + (p.2 i).2.1 = 8 + (p.2 i).2.1 by omega] at ex
          have eb : zBad p c n Y i = (decide ((p.2 i).2.2.1 ≤ Y.1 4 (p.2 i).2.1) != (p.2 i).2.2.2) := by unfold zBad; rw [hci, decide_eq_true qn]; rfl
          rw [eb]
          by_cases qc : (p.2 i).2.2.1 ≤ Y.1 4 (p.2 i).2.1
          · rw [decide_eq_true qc]
            cases hb : (p.2 i).2.2.2 with
            | true =>
              rw [hb] at s5
              refine a_iload_n (i := 2) dX12_isSo_2 rfl rfl ?_
              refine a_aload_n (i := 0) dX12_isSo_3 rfl rfl ?_
              refine kX12_556 rfl dX12_isSo_4 (Nat.le_of_ble_eq_true rfl) (isM_0 hM) (hkn) ?_
              refine a_icmp_ge (tg := 100) dX12_isSo_7 (by decide) (fun c_7 => ?_) (fun c_7 => ?_)
              · exact absurd c_7 (nI_ge (show i < K by omega) (by omega))
              · refine a_aload_n (i := 0) dX12_isSo_10 rfl rfl ?_
                refine gX12_151 rfl dX12_isSo_11 (isM_0 hM) ?_
                refine a_iload_n (i := 2) dX12_isSo_14 rfl rfl ?_
                refine a_zaldN dX12_isSo_15 (isM_82 hM) (by first | with_reducible exact rfl | with_reducible exact ix8 _ _ | with_reducible exact ix12 _ _ | exact rfl) (by omega) (by decide) ?_
                rw [e1]
                refine a_if_eq (tg := 94) dX12_isSo_16 (by decide) (fun c_16 => ?_) (fun c_16 => ?_)
                · exact absurd c_16 (by decide)
                · refine a_aload_n (i := 0) dX12_isSo_19 rfl rfl ?_
                  refine gX12_148 rfl dX12_isSo_20 (isM_0 hM) ?_
                  refine a_iconst (v := 4) dX12_isSo_23 (by decide) ?_
                  refine a_iload_n (i := 2) dX12_isSo_24 rfl rfl ?_
                  refine a_imul dX12_isSo_25 ?_
                  rw [il4]
                  refine a_ialdN dX12_isSo_26 (isM_81 hM) (by first | with_reducible exact rfl | with_reducible exact ix8 _ _ | with_reducible exact ix12 _ _ | exact rfl) (by omega) (by decide) ?_
                  rw [s1]
                  refine a_iload_n (i := 1) dX12_isSo_27 rfl rfl ?_
                  refine a_icmp_eq (tg := 34) dX12_isSo_28 (by decide) (fun c_28 => ?_) (fun c_28 => ?_)
                  · refine a_aload_n (i := 0) dX12_isSo_34 rfl rfl ?_
                    refine gX12_124 rfl dX12_isSo_35 (isM_0 hM) ?_
                    refine a_bipush (v := 8) dX12_isSo_38 (by decide) ?_
                    refine a_aload_n (i := 0) dX12_isSo_40 rfl rfl ?_
                    refine gX12_148 rfl dX12_isSo_41 (isM_0 hM) ?_
                    refine a_iconst (v := 4) dX12_isSo_44 (by decide) ?_
                    refine a_iload_n (i := 2) dX12_isSo_45 rfl rfl ?_
                    refine a_imul dX12_isSo_46 ?_
                    rw [il4]
                    refine a_iconst (v := 1) dX12_isSo_47 (by decide) ?_
                    refine a_iadd dX12_isSo_48 ?_
                    rw [i1]
                    refine a_ialdN dX12_isSo_49 (isM_81 hM) (by first | with_reducible exact rfl | with_reducible exact ix8 _ _ | with_reducible exact ix12 _ _ | exact rfl) (by omega) (by decide) ?_
                    rw [s2]
                    refine a_iadd dX12_isSo_50 ?_
                    refine a_ialdN dX12_isSo_51 (isM_66 hM) (by first | exact nI_add 8 _ | with_reducible exact rfl | with_reducible exact ix8 _ _ | with_reducible exact ix12 _ _ | exact rfl) (by omega) (by decide) ?_
                    rw [ex]
                    refine a_aload_n (i := 0) dX12_isSo_52 rfl rfl ?_
                    refine gX12_148 rfl dX12_isSo_53 (isM_0 hM) ?_
                    refine a_iconst (v := 4) dX12_isSo_56 (by decide) ?_
                    refine a_iload_n (i := 2) dX12_isSo_57 rfl rfl ?_
                    refine a_imul dX12_isSo_58 ?_
                    rw [il4]
                    refine a_iconst (v := 2) dX12_isSo_59 (by decide) ?_
                    refine a_iadd dX12_isSo_60 ?_
                    rw [i2]
                    refine a_ialdN dX12_isSo_61 (isM_81 hM) (by first | with_reducible exact rfl | with_reducible exact ix8 _ _ | with_reducible exact ix12 _ _ | exact rfl) (by omega) (by decide) ?_
                    rw [s4]
                    refine a_icmp_lt (tg := 69) dX12_isSo_62 (by decide) (fun c_62 => ?_) (fun c_62 => ?_)
                    · exact absurd qc (Int32.not_le.mpr c_62)
                    · refine a_iconst (v := 1) dX12_isSo_65 (by decide) ?_
                      refine a_goto (tg := 70) dX12_isSo_66 (by decide) ?_
                      refine a_aload_n (i := 0) dX12_isSo_70 rfl rfl ?_
                      refine gX12_148 rfl dX12_isSo_71 (isM_0 hM) ?_
                      refine a_iconst (v := 4) dX12_isSo_74 (by decide) ?_
                      refine a_iload_n (i := 2) dX12_isSo_75 rfl rfl ?_
                      refine a_imul dX12_isSo_76 ?_
                      rw [il4]
                      refine a_iconst (v := 3) dX12_isSo_77 (by decide) ?_
                      refine a_iadd dX12_isSo_78 ?_
                      rw [i3]
                      refine a_ialdN dX12_isSo_79 (isM_81 hM) (by first | with_reducible exact rfl | with_reducible exact ix8 _ _ | with_reducible exact ix12 _ _ | exact rfl) (by omega) (by decide) ?_
                      rw [s5]
                      refine a_iconst (v := 1) dX12_isSo_80 (by decide) ?_
                      refine a_icmp_ne (tg := 88) dX12_isSo_81 (by decide) (fun c_81 => ?_) (fun c_81 => ?_)
                      · exact absurd rfl c_81
                      · refine a_iconst (v := 1) dX12_isSo_84 (by decide) ?_
                        refine a_goto (tg := 89) dX12_isSo_85 (by decide) ?_
                        refine a_icmp_eq (tg := 94) dX12_isSo_89 (by decide) (fun c_89 => ?_) (fun c_89 => ?_)
                        · refine a_iincK (i := 2) (u := 1) dX12_isSo_94 rfl (by decide) (by decide) ?_
                          refine a_goto (tg := 2) dX12_isSo_97 (by decide) ?_
                          rw [nI_1]; exact a_loc _ rfl ih2
                        · exact absurd rfl c_89
                  · exact absurd (by rw [qn]) c_28
            | false =>
              rw [hb] at s5
              refine a_iload_n (i := 2) dX12_isSo_2 rfl rfl ?_
              refine a_aload_n (i := 0) dX12_isSo_3 rfl rfl ?_
              refine kX12_556 rfl dX12_isSo_4 (Nat.le_of_ble_eq_true rfl) (isM_0 hM) (hkn) ?_
              refine a_icmp_ge (tg := 100) dX12_isSo_7 (by decide) (fun c_7 => ?_) (fun c_7 => ?_)
              · exact absurd c_7 (nI_ge (show i < K by omega) (by omega))
              · refine a_aload_n (i := 0) dX12_isSo_10 rfl rfl ?_
                refine gX12_151 rfl dX12_isSo_11 (isM_0 hM) ?_
                refine a_iload_n (i := 2) dX12_isSo_14 rfl rfl ?_
                refine a_zaldN dX12_isSo_15 (isM_82 hM) (by first | with_reducible exact rfl | with_reducible exact ix8 _ _ | with_reducible exact ix12 _ _ | exact rfl) (by omega) (by decide) ?_
                rw [e1]
                refine a_if_eq (tg := 94) dX12_isSo_16 (by decide) (fun c_16 => ?_) (fun c_16 => ?_)
                · exact absurd c_16 (by decide)
                · refine a_aload_n (i := 0) dX12_isSo_19 rfl rfl ?_
                  refine gX12_148 rfl dX12_isSo_20 (isM_0 hM) ?_
                  refine a_iconst (v := 4) dX12_isSo_23 (by decide) ?_
                  refine a_iload_n (i := 2) dX12_isSo_24 rfl rfl ?_
                  refine a_imul dX12_isSo_25 ?_
                  rw [il4]
                  refine a_ialdN dX12_isSo_26 (isM_81 hM) (by first | with_reducible exact rfl | with_reducible exact ix8 _ _ | with_reducible exact ix12 _ _ | exact rfl) (by omega) (by decide) ?_
                  rw [s1]
                  refine a_iload_n (i := 1) dX12_isSo_27 rfl rfl ?_
                  refine a_icmp_eq (tg := 34) dX12_isSo_28 (by decide) (fun c_28 => ?_) (fun c_28 => ?_)
                  · refine a_aload_n (i := 0) dX12_isSo_34 rfl rfl ?_
                    refine gX12_124 rfl dX12_isSo_35 (isM_0 hM) ?_
                    refine a_bipush (v := 8) dX12_isSo_38 (by decide) ?_
                    refine a_aload_n (i := 0) dX12_isSo_40 rfl rfl ?_
                    refine gX12_148 rfl dX12_isSo_41 (isM_0 hM) ?_
                    refine a_iconst (v := 4) dX12_isSo_44 (by decide) ?_
                    refine a_iload_n (i := 2) dX12_isSo_45 rfl rfl ?_
                    refine a_imul dX12_isSo_46 ?_
                    rw [il4]
                    refine a_iconst (v := 1) dX12_isSo_47 (by decide) ?_
                    refine a_iadd dX12_isSo_48 ?_
                    rw [i1]
                    refine a_ialdN dX12_isSo_49 (isM_81 hM) (by first | with_reducible exact rfl | with_reducible exact ix8 _ _ | with_reducible exact ix12 _ _ | exact rfl) (by omega) (by decide) ?_
                    rw [s2]
                    refine a_iadd dX12_isSo_50 ?_
                    refine a_ialdN dX12_isSo_51 (isM_66 hM) (by first | exact nI_add 8 _ | with_reducible exact rfl | with_reducible exact ix8 _ _ | with_reducible exact ix12 _ _ | exact rfl) (by omega) (by decide) ?_
                    rw [ex]
                    refine a_aload_n (i := 0) dX12_isSo_52 rfl rfl ?_
                    refine gX12_148 rfl dX12_isSo_53 (isM_0 hM) ?_
                    refine a_iconst (v := 4) dX12_isSo_56 (by decide) ?_
                    refine a_iload_n (i := 2) dX12_isSo_57 rfl rfl ?_
                    refine a_imul dX12_isSo_58 ?_
                    rw [il4]
                    refine a_iconst (v := 2) dX12_isSo_59 (by decide) ?_
                    refine a_iadd dX12_isSo_60 ?_
                    rw [i2]
                    refine a_ialdN dX12_isSo_61 (isM_81 hM) (by first | with_reducible exact rfl | with_reducible exact ix8 _ _ | with_reducible exact ix12 _ _ | exact rfl) (by omega) (by decide) ?_
                    rw [s4]
                    refine a_icmp_lt (tg := 69) dX12_isSo_62 (by decide) (fun c_62 => ?_) (fun c_62 => ?_)
                    · exact absurd qc (Int32.not_le.mpr c_62)
                    · refine a_iconst (v := 1) dX12_isSo_65 (by decide) ?_
                      refine a_goto (tg := 70) dX12_isSo_66 (by decide) ?_
                      refine a_aload_n (i := 0) dX12_isSo_70 rfl rfl ?_
                      refine gX12_148 rfl dX12_isSo_71 (isM_0 hM) ?_
                      refine a_iconst (v := 4) dX12_isSo_74 (by decide) ?_
                      refine a_iload_n (i := 2) dX12_isSo_75 rfl rfl ?_
                      refine a_imul dX12_isSo_76 ?_
                      rw [il4]
                      refine a_iconst (v := 3) dX12_isSo_77 (by decide) ?_
                      refine a_iadd dX12_isSo_78 ?_
                      rw [i3]
                      refine a_ialdN dX12_isSo_79 (isM_81 hM) (by first | with_reducible exact rfl | with_reducible exact ix8 _ _ | with_reducible exact ix12 _ _ | exact rfl) (by omega) (by decide) ?_
                      rw [s5]
                      refine a_iconst (v := 1) dX12_isSo_80 (by decide) ?_
                      refine a_icmp_ne (tg := 88) dX12_isSo_81 (by decide) (fun c_81 => ?_) (fun c_81 => ?_)
                      · refine a_iconst (v := 0) dX12_isSo_88 (by decide) ?_
                        refine a_icmp_eq (tg := 94) dX12_isSo_89 (by decide) (fun c_89 => ?_) (fun c_89 => ?_)
                        · exact absurd c_89 (by decide)
                        · refine a_iconst (v := 0) dX12_isSo_92 (by decide) ?_
                          exact a_iret dX12_isSo_93 (by exact ⟨rfl, rfl⟩)
                      · exact absurd c_81 (by decide)
                  · exact absurd (by rw [qn]) c_28
          · rw [decide_eq_false qc]
            cases hb : (p.2 i).2.2.2 with
            | true =>
              rw [hb] at s5
              refine a_iload_n (i := 2) dX12_isSo_2 rfl rfl ?_
              refine a_aload_n (i := 0) dX12_isSo_3 rfl rfl ?_
              refine kX12_556 rfl dX12_isSo_4 (Nat.le_of_ble_eq_true rfl) (isM_0 hM) (hkn) ?_
              refine a_icmp_ge (tg := 100) dX12_isSo_7 (by decide) (fun c_7 => ?_) (fun c_7 => ?_)
              · exact absurd c_7 (nI_ge (show i < K by omega) (by omega))
              · refine a_aload_n (i := 0) dX12_isSo_10 rfl rfl ?_
                refine gX12_151 rfl dX12_isSo_11 (isM_0 hM) ?_
                refine a_iload_n (i := 2) dX12_isSo_14 rfl rfl ?_
                refine a_zaldN dX12_isSo_15 (isM_82 hM) (by first | with_reducible exact rfl | with_reducible exact ix8 _ _ | with_reducible exact ix12 _ _ | exact rfl) (by omega) (by decide) ?_
                rw [e1]
                refine a_if_eq (tg := 94) dX12_isSo_16 (by decide) (fun c_16 => ?_) (fun c_16 => ?_)
                · exact absurd c_16 (by decide)
                · refine a_aload_n (i := 0) dX12_isSo_19 rfl rfl ?_
                  refine gX12_148 rfl dX12_isSo_20 (isM_0 hM) ?_
                  refine a_iconst (v := 4) dX12_isSo_23 (by decide) ?_
                  refine a_iload_n (i := 2) dX12_isSo_24 rfl rfl ?_
                  refine a_imul dX12_isSo_25 ?_
                  rw [il4]
                  refine a_ialdN dX12_isSo_26 (isM_81 hM) (by first | with_reducible exact rfl | with_reducible exact ix8 _ _ | with_reducible exact ix12 _ _ | exact rfl) (by omega) (by decide) ?_
                  rw [s1]
                  refine a_iload_n (i := 1) dX12_isSo_27 rfl rfl ?_
                  refine a_icmp_eq (tg := 34) dX12_isSo_28 (by decide) (fun c_28 => ?_) (fun c_28 => ?_)
                  · refine a_aload_n (i := 0) dX12_isSo_34 rfl rfl ?_
                    refine gX12_124 rfl dX12_isSo_35 (isM_0 hM) ?_
                    refine a_bipush (v := 8) dX12_isSo_38 (by decide) ?_
                    refine a_aload_n (i := 0) dX12_isSo_40 rfl rfl ?_
                    refine gX12_148 rfl dX12_isSo_41 (isM_0 hM) ?_
                    refine a_iconst (v := 4) dX12_isSo_44 (by decide) ?_
                    refine a_iload_n (i := 2) dX12_isSo_45 rfl rfl ?_
                    refine a_imul dX12_isSo_46 ?_
                    rw [il4]
                    refine a_iconst (v := 1) dX12_isSo_47 (by decide) ?_
                    refine a_iadd dX12_isSo_48 ?_
                    rw [i1]
                    refine a_ialdN dX12_isSo_49 (isM_81 hM) (by first | with_reducible exact rfl | with_reducible exact ix8 _ _ | with_reducible exact ix12 _ _ | exact rfl) (by omega) (by decide) ?_
                    rw [s2]
                    refine a_iadd dX12_isSo_50 ?_
                    refine a_ialdN dX12_isSo_51 (isM_66 hM) (by first | exact nI_add 8 _ | with_reducible exact rfl | with_reducible exact ix8 _ _ | with_reducible exact ix12 _ _ | exact rfl) (by omega) (by decide) ?_
                    rw [ex]
                    refine a_aload_n (i := 0) dX12_isSo_52 rfl rfl ?_
                    refine gX12_148 rfl dX12_isSo_53 (isM_0 hM) ?_
                    refine a_iconst (v := 4) dX12_isSo_56 (by decide) ?_
                    refine a_iload_n (i := 2) dX12_isSo_57 rfl rfl ?_
                    refine a_imul dX12_isSo_58 ?_
                    rw [il4]
                    refine a_iconst (v := 2) dX12_isSo_59 (by decide) ?_
                    refine a_iadd dX12_isSo_60 ?_
                    rw [i2]
                    refine a_ialdN dX12_isSo_61 (isM_81 hM) (by first | with_reducible exact rfl | with_reducible exact ix8 _ _ | with_reducible exact ix12 _ _ | exact rfl) (by omega) (by decide) ?_
                    rw [s4]
                    refine a_icmp_lt (tg := 69) dX12_isSo_62 (by decide) (fun c_62 => ?_) (fun c_62 => ?_)
                    · refine a_iconst (v := 0) dX12_isSo_69 (by decide) ?_
                      refine a_aload_n (i := 0) dX12_isSo_70 rfl rfl ?_
                      refine gX12_148 rfl dX12_isSo_71 (isM_0 hM) ?_
                      refine a_iconst (v := 4) dX12_isSo_74 (by decide) ?_
                      refine a_iload_n (i := 2) dX12_isSo_75 rfl rfl ?_
                      refine a_imul dX12_isSo_76 ?_
                      rw [il4]
                      refine a_iconst (v := 3) dX12_isSo_77 (by decide) ?_
                      refine a_iadd dX12_isSo_78 ?_
                      rw [i3]
                      refine a_ialdN dX12_isSo_79 (isM_81 hM) (by first | with_reducible exact rfl | with_reducible exact ix8 _ _ | with_reducible exact ix12 _ _ | exact rfl) (by omega) (by decide) ?_
                      rw [s5]
                      refine a_iconst (v := 1) dX12_isSo_80 (by decide) ?_
                      refine a_icmp_ne (tg := 88) dX12_isSo_81 (by decide) (fun c_81 => ?_) (fun c_81 => ?_)
                      · exact absurd rfl c_81
                      · refine a_iconst (v := 1) dX12_isSo_84 (by decide) ?_
                        refine a_goto (tg := 89) dX12_isSo_85 (by decide) ?_
                        refine a_icmp_eq (tg := 94) dX12_isSo_89 (by decide) (fun c_89 => ?_) (fun c_89 => ?_)
                        · exact absurd c_89 (by decide)
                        · refine a_iconst (v := 0) dX12_isSo_92 (by decide) ?_
                          exact a_iret dX12_isSo_93 (by exact ⟨rfl, rfl⟩)
                    · exact absurd (Int32.not_lt.mp c_62) qc
                  · exact absurd (by rw [qn]) c_28
            | false =>
              rw [hb] at s5
              refine a_iload_n (i := 2) dX12_isSo_2 rfl rfl ?_
              refine a_aload_n (i := 0) dX12_isSo_3 rfl rfl ?_
              refine kX12_556 rfl dX12_isSo_4 (Nat.le_of_ble_eq_true rfl) (isM_0 hM) (hkn) ?_
              refine a_icmp_ge (tg := 100) dX12_isSo_7 (by decide) (fun c_7 => ?_) (fun c_7 => ?_)
              · exact absurd c_7 (nI_ge (show i < K by omega) (by omega))
              · refine a_aload_n (i := 0) dX12_isSo_10 rfl rfl ?_
                refine gX12_151 rfl dX12_isSo_11 (isM_0 hM) ?_
                refine a_iload_n (i := 2) dX12_isSo_14 rfl rfl ?_
                refine a_zaldN dX12_isSo_15 (isM_82 hM) (by first | with_reducible exact rfl | with_reducible exact ix8 _ _ | with_reducible exact ix12 _ _ | exact rfl) (by omega) (by decide) ?_
                rw [e1]
                refine a_if_eq (tg := 94) dX12_isSo_16 (by decide) (fun c_16 => ?_) (fun c_16 => ?_)
                · exact absurd c_16 (by decide)
                · refine a_aload_n (i := 0) dX12_isSo_19 rfl rfl ?_
                  refine gX12_148 rfl dX12_isSo_20 (isM_0 hM) ?_
                  refine a_iconst (v := 4) dX12_isSo_23 (by decide) ?_
                  refine a_iload_n (i := 2) dX12_isSo_24 rfl rfl ?_
                  refine a_imul dX12_isSo_25 ?_
                  rw [il4]
                  refine a_ialdN dX12_isSo_26 (isM_81 hM) (by first | with_reducible exact rfl | with_reducible exact ix8 _ _ | with_reducible exact ix12 _ _ | exact rfl) (by omega) (by decide) ?_
                  rw [s1]
                  refine a_iload_n (i := 1) dX12_isSo_27 rfl rfl ?_
                  refine a_icmp_eq (tg := 34) dX12_isSo_28 (by decide) (fun c_28 => ?_) (fun c_28 => ?_)
                  · refine a_aload_n (i := 0) dX12_isSo_34 rfl rfl ?_
                    refine gX12_124 rfl dX12_isSo_35 (isM_0 hM) ?_
                    refine a_bipush (v := 8) dX12_isSo_38 (by decide) ?_
                    refine a_aload_n (i := 0) dX12_isSo_40 rfl rfl ?_
                    refine gX12_148 rfl dX12_isSo_41 (isM_0 hM) ?_
                    refine a_iconst (v := 4) dX12_isSo_44 (by decide) ?_
                    refine a_iload_n (i := 2) dX12_isSo_45 rfl rfl ?_
                    refine a_imul dX12_isSo_46 ?_
                    rw [il4]
                    refine a_iconst (v := 1) dX12_isSo_47 (by decide) ?_
                    refine a_iadd dX12_isSo_48 ?_
                    rw [i1]
                    refine a_ialdN dX12_isSo_49 (isM_81 hM) (by first | with_reducible exact rfl | with_reducible exact ix8 _ _ | with_reducible exact ix12 _ _ | exact rfl) (by omega) (by decide) ?_
                    rw [s2]
                    refine a_iadd dX12_isSo_50 ?_
                    refine a_ialdN dX12_isSo_51 (isM_66 hM) (by first | exact nI_add 8 _ | with_reducible exact rfl | with_reducible exact ix8 _ _ | with_reducible exact ix12 _ _ | exact rfl) (by omega) (by decide) ?_
                    rw [ex]
                    refine a_aload_n (i := 0) dX12_isSo_52 rfl rfl ?_
                    refine gX12_148 rfl dX12_isSo_53 (isM_0 hM) ?_
                    refine a_iconst (v := 4) dX12_isSo_56 (by decide) ?_
                    refine a_iload_n (i := 2) dX12_isSo_57 rfl rfl ?_
                    refine a_imul dX12_isSo_58 ?_
                    rw [il4]
                    refine a_iconst (v := 2) dX12_isSo_59 (by decide) ?_
                    refine a_iadd dX12_isSo_60 ?_
                    rw [i2]
                    refine a_ialdN dX12_isSo_61 (isM_81 hM) (by first | with_reducible exact rfl | with_reducible exact ix8 _ _ | with_reducible exact ix12 _ _ | exact rfl) (by omega) (by decide) ?_
                    rw [s4]
                    refine a_icmp_lt (tg := 69) dX12_isSo_62 (by decide) (fun c_62 => ?_) (fun c_62 => ?_)
                    · refine a_iconst (v := 0) dX12_isSo_69 (by decide) ?_
                      refine a_aload_n (i := 0) dX12_isSo_70 rfl rfl ?_
                      refine gX12_148 rfl dX12_isSo_71 (isM_0 hM) ?_
                      refine a_iconst (v := 4) dX12_isSo_74 (by decide) ?_
                      refine a_iload_n (i := 2) dX12_isSo_75 rfl rfl ?_
                      refine a_imul dX12_isSo_76 ?_
                      rw [il4]
                      refine a_iconst (v := 3) dX12_isSo_77 (by decide) ?_
                      refine a_iadd dX12_isSo_78 ?_
                      rw [i3]
                      refine a_ialdN dX12_isSo_79 (isM_81 hM) (by first | with_reducible exact rfl | with_reducible exact ix8 _ _ | with_reducible exact ix12 _ _ | exact rfl) (by omega) (by decide) ?_
                      rw [s5]
                      refine a_iconst (v := 1) dX12_isSo_80 (by decide) ?_
                      refine a_icmp_ne (tg := 88) dX12_isSo_81 (by decide) (fun c_81 => ?_) (fun c_81 => ?_)
                      · refine a_iconst (v := 0) dX12_isSo_88 (by decide) ?_
                        refine a_icmp_eq (tg := 94) dX12_isSo_89 (by decide) (fun c_89 => ?_) (fun c_89 => ?_)
                        · refine a_iincK (i := 2) (u := 1) dX12_isSo_94 rfl (by decide) (by decide) ?_
                          refine a_goto (tg := 2) dX12_isSo_97 (by decide) ?_
                          rw [nI_1]; exact a_loc _ rfl ih2
                        · exact absurd rfl c_89
                      · exact absurd c_81 (by decide)
                    · exact absurd (Int32.not_lt.mp c_62) qc
                  · exact absurd (by rw [qn]) c_28
        · have eb : zBad p c n Y i = false := by unfold zBad; rw [decide_eq_false qn, Bool.false_and, Bool.and_false]
          rw [eb, Bool.false_or]
          have nn : ¬ x.1 (bM + 81) (4 * i) = nI n := by
            rw [s1]
            split
            · exact fun g => absurd (show nI n < 0 by rw [← g]; decide) (nI_pos (by omega))
            · exact fun g => qn ((nI_eq (by omega) (by omega)).mp g)
          refine a_iload_n (i := 2) dX12_isSo_2 rfl rfl ?_
          refine a_aload_n (i := 0) dX12_isSo_3 rfl rfl ?_
          refine kX12_556 rfl dX12_isSo_4 (Nat.le_of_ble_eq_true rfl) (isM_0 hM) (hkn) ?_
          refine a_icmp_ge (tg := 100) dX12_isSo_7 (by decide) (fun c_7 => ?_) (fun c_7 => ?_)
          · exact absurd c_7 (nI_ge (show i < K by omega) (by omega))
          · refine a_aload_n (i := 0) dX12_isSo_10 rfl rfl ?_
            refine gX12_151 rfl dX12_isSo_11 (isM_0 hM) ?_
            refine a_iload_n (i := 2) dX12_isSo_14 rfl rfl ?_
            refine a_zaldN dX12_isSo_15 (isM_82 hM) (by first | with_reducible exact rfl | with_reducible exact ix8 _ _ | with_reducible exact ix12 _ _ | exact rfl) (by omega) (by decide) ?_
            rw [e1]
            refine a_if_eq (tg := 94) dX12_isSo_16 (by decide) (fun c_16 => ?_) (fun c_16 => ?_)
            · exact absurd c_16 (by decide)
            · refine a_aload_n (i := 0) dX12_isSo_19 rfl rfl ?_
              refine gX12_148 rfl dX12_isSo_20 (isM_0 hM) ?_
              refine a_iconst (v := 4) dX12_isSo_23 (by decide) ?_
              refine a_iload_n (i := 2) dX12_isSo_24 rfl rfl ?_
              refine a_imul dX12_isSo_25 ?_
              rw [il4]
              refine a_ialdN dX12_isSo_26 (isM_81 hM) (by first | with_reducible exact rfl | with_reducible exact ix8 _ _ | with_reducible exact ix12 _ _ | exact rfl) (by omega) (by decide) ?_
              refine a_iload_n (i := 1) dX12_isSo_27 rfl rfl ?_
              refine a_icmp_eq (tg := 34) dX12_isSo_28 (by decide) (fun c_28 => ?_) (fun c_28 => ?_)
              · exact absurd c_28 nn
              · refine a_goto (tg := 94) dX12_isSo_31 (by decide) ?_
                refine a_iincK (i := 2) (u := 1) dX12_isSo_94 rfl (by decide) (by decide) ?_
                refine a_goto (tg := 2) dX12_isSo_97 (by decide) ?_
                rw [nI_1]; exact a_loc _ rfl ih2
  refine a_iconst (v := 0) dX12_isSo_0 (by decide) ?_
  refine a_istore_n (i := 2) dX12_isSo_1 rfl (by decide) ?_
  exact a_loc _ rfl (L K 0 (Nat.zero_add _))
theorem zAny_K {n : Nat} {Y : zS} (hK : K ≤ p.1) (h : ∀ i, K ≤ i → c i = false) : zAny (zBad p c n Y) 0 p.1 = zAny (zBad p c n Y) 0 K := by
  rw [show p.1 = K + (p.1 - K) by omega, zAny_add, zAny_no (p.1 - K) (0 + K) (fun j h1 _ => by unfold zBad; rw [h j (by omega)]; rfl), Bool.or_false]
/-- what calls that ask of what was seen need, and keep -/
def mSe (p : Nat × zG) (k : Int32) (x : aS) : Prop := rGM p x ∧ x.1 bM 79 = k
theorem mSe_F {k : Int32} {y : aS} (hF : mF x y) (h : mSe p k x) : mSe p k y := by
  refine ⟨⟨by rw [hF.1 _ _ (by unfold mScr mIn; omega)]; exact h.1.1, fun i hi => ?_⟩, by rw [hF.1 _ _ (by unfold mScr mIn; omega)]; exact h.2⟩
  rw [hF.1 _ _ (by unfold mScr mIn; omega), hF.1 _ _ (by unfold mScr mIn; omega), hF.1 _ _ (by unfold mScr mIn; omega), hF.1 _ _ (by unfold mScr mIn; omega)]
  exact h.1.2 i hi
set_option maxHeartbeats 4000000 in
set_option maxRecDepth 100000 in
theorem c_X12_fits {m b : Nat} {k : Int32} (hM : D 12 = true) (h : mQ T W Z x) (ok : sgOk T p) (hs : mSe p k x) (hk1 : -1 ≤ k) (hK : (if k = -1 then nI p.1 else k) = nI K) (hKp : K ≤ p.1) (hc : rCM c K x) (hoff : ∀ i, K ≤ i → c i = false) (hm : m < T.1 1) : aCt l mX12_fits (d + 7) D [.ref bM, .int (nI m), .int (nI b)] x (fun v y => v = some (.int (bI (zFit T W p c m b))) ∧ mF x y ∧ rCM c K y) := by
  have hq := h
  have tk := h.1.1
  refine a_met (by decide) (Nat.le_of_ble_eq_true rfl) (fun v y q => Or.inr (Or.inl ⟨rfl, _, q.1, bI_01 _⟩)) ?_
  have L : ∀ X : aS, mF x X → X.2 = x.2 → rCM c K X → ∀ (f n : Nat), n + f = 61 → 0 < n → ∀ (Y : zS) (y : aS), mY T W 5 1 Y y → yJ T 5 1 X Y y → aV l mX12_fits (d + 7) D none 8 [(0, .ref bM), (3, .int (nI n))] [] y (fun v y => v = some (.int (bI (zHd T W p c f n Y))) ∧ mF x y ∧ rCM c K y) := by
    intro X hX hX2 hcX f
    induction f with
    | zero =>
      intro n hn n0 Y y hY hJ
      rw [Nat.add_zero] at hn
      subst hn
      have F := mF_t hX (mF_i hJ.2.2.2.1 (hJ.2.2.2.2.2 (by decide)))
      have C : rCM c K y := fun i hi => by rw [hJ.2.2.2.1.1 _ _ (by unfold mIn; omega) (by omega)]; exact hcX i hi
      refine a_iload_n (i := 3) dX12_fits_8 rfl rfl ?_
      refine a_bipush (v := 60) dX12_fits_9 (by decide) ?_
      refine a_icmp_gt (tg := 35) dX12_fits_11 (by decide) (fun c_11 => ?_) (fun c_11 => ?_)
      · refine a_iconst (v := 1) dX12_fits_35 (by decide) ?_
        exact a_iret dX12_fits_36 (by exact ⟨rfl, F, C⟩)
      · exact absurd (by decide) c_11
    | succ f ih =>
      intro n hn n0 Y y hY hJ
      show aV _ _ _ _ _ _ _ _ _ (fun v y => v = some (.int (bI (if zAny (zBad p c n (zYear T W 5 Y)) 0 p.1 = true then false else zHd T W p c f (n + 1) (zYear T W 5 Y)))) ∧ mF x y ∧ rCM c K y)
      rw [zAny_K hKp hoff]
      have G : ∀ z : aS, yJ T 5 1 y (zYear T W 5 Y) z → aV l mX12_fits (d + 7) D none 19 [(0, .ref bM), (3, .int (nI n))] [] z (fun v y => v = some (.int (bI (if zAny (zBad p c n (zYear T W 5 Y)) 0 K = true then false else zHd T W p c f (n + 1) (zYear T W 5 Y)))) ∧ mF x y ∧ rCM c K y) := by
        intro z hz
        have hz2 := yJ_trans hJ hz
        have F := mF_t hX (mF_i hz2.2.2.2.1 (hz2.2.2.2.2.2 (by decide)))
        have C : rCM c K z := fun i hi => by rw [hz2.2.2.2.1.1 _ _ (by unfold mIn; omega) (by omega)]; exact hcX i hi
        obtain ⟨s1, s2⟩ := mSe_F F hs
        have hi := c_X12_isSo (l := l) (d := d + 5) (n := n) hM tk ok s1 s2 hk1 hK hKp C hz.2.1 n0 (by omega)
        have ih2 := ih (n + 1) (by omega) (by omega) _ z (mY_n hY hz) hz2
        cases q : zAny (zBad p c n (zYear T W 5 Y)) 0 K with
        | true =>
          rw [q] at hi
          refine a_aload_n (i := 0) dX12_fits_19 rfl rfl ?_
          refine a_iload_n (i := 3) dX12_fits_20 rfl rfl ?_
          refine kX12_562 rfl dX12_fits_21 (Nat.le_of_ble_eq_true rfl) (isM_0 hM) (hi) ?_
          refine a_if_ne (tg := 29) dX12_fits_24 (by decide) (fun c_24 => ?_) (fun c_24 => ?_)
          · exact absurd rfl c_24
          · refine a_iconst (v := 0) dX12_fits_27 (by decide) ?_
            exact a_iret dX12_fits_28 (by exact ⟨rfl, F, C⟩)
        | false =>
          rw [q] at hi
          rw [if_neg (by decide)]
          refine a_aload_n (i := 0) dX12_fits_19 rfl rfl ?_
          refine a_iload_n (i := 3) dX12_fits_20 rfl rfl ?_
          refine kX12_562 rfl dX12_fits_21 (Nat.le_of_ble_eq_true rfl) (isM_0 hM) (hi) ?_
          refine a_if_ne (tg := 29) dX12_fits_24 (by decide) (fun c_24 => ?_) (fun c_24 => ?_)
          · refine a_iincK (i := 3) (u := 1) dX12_fits_29 rfl (by decide) (by decide) ?_
            refine a_goto (tg := 8) dX12_fits_32 (by decide) ?_
            rw [nI_1]; exact a_loc _ rfl ih2
          · exact absurd c_24 (by decide)
      refine a_iload_n (i := 3) dX12_fits_8 rfl rfl ?_
      refine a_bipush (v := 60) dX12_fits_9 (by decide) ?_
      refine a_icmp_gt (tg := 35) dX12_fits_11 (by decide) (fun c_11 => ?_) (fun c_11 => ?_)
      · exact absurd c_11 (nI_nlt (show n ≤ 60 by omega) (by decide))
      · refine a_aload_n (i := 0) dX12_fits_14 rfl rfl ?_
        refine a_iconst (v := 1) dX12_fits_15 (by decide) ?_
        refine kgX12_489 rfl dX12_fits_16 (Nat.le_of_ble_eq_true rfl) (isM_0 hM) (mz_year (i := 1) hM (by decide) hY) ?_
        rintro v z ⟨rfl, hz⟩
        exact a_loc _ rfl (G z hz)
  refine a_aload_n (i := 0) dX12_fits_0 rfl rfl ?_
  refine a_iload_n (i := 1) dX12_fits_1 rfl rfl ?_
  refine a_iload_n (i := 2) dX12_fits_2 rfl rfl ?_
  refine kgX12_559 rfl dX12_fits_3 (Nat.le_of_ble_eq_true rfl) (isM_0 hM) (c_X12_layBump hM hq hm) ?_
  rintro v X ⟨rfl, g1, g2, g3, g4⟩
  have C : rCM c K X := fun i hi => by rw [g4 _ (by omega)]; exact hc i hi
  refine a_iconst (v := 1) dX12_fits_6 (by decide) ?_
  refine a_istore_n (i := 3) dX12_fits_7 rfl (by decide) ?_
  exact a_loc _ rfl (L X g2 g3 C 60 1 rfl (by decide) (zB0 T m b) X g1 g1.2.2.2.2)
end qAA
