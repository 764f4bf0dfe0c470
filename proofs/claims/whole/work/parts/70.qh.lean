/-! chance, go -/
section qH
variable {l : Launch} {d : Nat} {D : Nat → Bool} {T : zT} {W : Nat → zL} {Z : zS} {t : Nat} {x : aS}
theorem zIn99 {a : Int32} : (0 ≤ a ∧ a ≤ 99) ↔ zIn 100 a := zIn_le (n := 99) rfl (by decide)
abbrev zCn (T : zT) (s n m c : Int32) : Prop := 0 ≤ s ∧ (1 ≤ n ∧ n ≤ 99) ∧ zIn (T.1 1) m ∧ (0 ≤ c ∧ c ≤ 99)
def zCh (T : zT) (W : Nat → zL) (Z : zS) (n m : Nat) (c : Int32) (p : Int32 × Int32) : Int32 × Int32 := ((zYears T W 6 n (zui Z 0 2 p.1)).1 0 2, if c ≤ (zYears T W 6 n (zui Z 0 2 p.1)).1 4 m then p.2 + 1 else p.2)
def qChance (T : zT) (W : Nat → zL) (Z : zS) (s n m c : Int32) : Int32 := if zCn T s n m c then (lp (fun _ => zCh T W Z n.toNatClampNeg m.toNatClampNeg c) 0 10 (s, 0)).2 else -1
theorem n99_of {n : Int32} (h : 1 ≤ n ∧ n ≤ 99) : ∃ k, k < 100 ∧ n = nI k := zIn_of (n := 100) (by decide) (zIn99.mp ⟨Int32.le_trans (by decide) h.1, h.2⟩)
set_option maxHeartbeats 4000000 in
set_option maxRecDepth 100000 in
theorem c_X11_chance {s n m c : Int32} (hD : aDC D) (h : cR T W Z x t) : aCt l mX11_chance (d + 6) D [.ref bLH, .int s, .int n, .int m, .int c] x (fun v y => v = some (.int (qChance T W Z s n m c)) ∧ cF x y) := by
  have hh := h
  obtain ⟨ht, hp, ok, hZ, hT, hW, hS⟩ := h
  have h8 := ok.2.1
  refine a_met (by decide) (Nat.le_of_ble_eq_true rfl) (fun v y q => Or.inl ⟨rfl, _, q.1⟩) ?_
  unfold qChance
  by_cases q : zCn T s n m c
  · rw [if_pos q]
    obtain ⟨q1, q2, q3, q4⟩ := q
    obtain ⟨N, hN, rfl⟩ := n99_of q2
    obtain ⟨M, hM, rfl⟩ := zIn_of (by omega) q3
    rw [nI_clamp (by omega), nI_clamp (by omega)]
    have L : ∀ (k i : Nat), i + k = 10 → ∀ (p : Int32 × Int32) (y : aS), aFy bTr x y → aV l mX11_chance (d + 6) D none 46 [(0, .ref bLH), (2, .int (nI N)), (3, .int (nI M)), (4, .int c), (5, .int p.1), (6, .int p.2), (7, .int (nI i))] [] y (fun v y => v = some (.int (lp (fun _ => zCh T W Z N M c) i k p).2) ∧ cF x y) := by
      intro k
      induction k with
      | zero =>
        intro i hi p y hFy
        rw [Nat.add_zero] at hi
        subst hi
        refine a_iload (i := 7) dX11_chance_46 rfl ?_
        refine a_bipush (v := 10) dX11_chance_48 (by decide) ?_
        refine a_icmp_ge (tg := 112) dX11_chance_50 (by decide) (fun c_50 => ?_) (fun c_50 => ?_)
        · refine a_iload (i := 6) dX11_chance_112 rfl ?_
          exact a_iret dX11_chance_114 (by exact ⟨rfl, cF_y hFy⟩)
        · exact absurd (Int32.le_refl _) c_50
      | succ k ih =>
        intro i hi p y hFy
        obtain ⟨_, hpy, _, _, hTy, hWy, hNy⟩ := cR_y hFy hh
        have F1 := aFy_copy (x := y) hbTr hbNow (show bNow ≠ bTr by decide)
        have S1 : rS T Z (sCopy y bTr bNow) bTr := rS_copy hbTr hbNow (by decide) ok hZ hNy
        have S2 : rS T (zui Z 0 2 p.1) (aWr (sCopy y bTr bNow) bTr 2 p.1) bTr := rS_w0 (by decide) S1
        have F2 : aFy bTr x (aWr (sCopy y bTr bNow) bTr 2 p.1) := aFy_t hFy (aFy_t F1 (aFy_w rfl))
        have hc := c_X11_runTrial (l := l) (d := d) (D := D) (n := N) (way := 6) hD (cT_y hbTr F2 (cR_T hh)) (zOk_ui hZ) S2 (by decide) (by omega)
        show aV l mX11_chance (d + 6) D none 46 _ [] y (fun v y => v = some (.int (lp (fun _ => zCh T W Z N M c) (i + 1) k (zCh T W Z N M c p)).2) ∧ cF x y)
        refine a_iload (i := 7) dX11_chance_46 rfl ?_
        refine a_bipush (v := 10) dX11_chance_48 (by decide) ?_
        refine a_icmp_ge (tg := 112) dX11_chance_50 (by decide) (fun c_50 => ?_) (fun c_50 => ?_)
        · exact absurd c_50 (nI_ge (show i < 10 by omega) (by decide))
        · refine a_aload_n (i := 0) dX11_chance_53 rfl rfl ?_
          refine gX11_37 rfl dX11_chance_54 (isLH_0 hD) ?_
          refine a_aload_n (i := 0) dX11_chance_57 rfl rfl ?_
          refine gX11_30 rfl dX11_chance_58 (isLH_0 hD) ?_
          refine kX11_268 rfl dX11_chance_61 (Nat.le_of_ble_eq_true rfl) (isS_0 hD hbTr) (c_X6_copyFrom hD hbTr hbNow (by decide)) ?_
          refine a_aload_n (i := 0) dX11_chance_64 rfl rfl ?_
          refine gX11_37 rfl dX11_chance_65 (isLH_0 hD) ?_
          refine a_iload (i := 5) dX11_chance_68 rfl ?_
          refine pX11_287 rfl dX11_chance_70 (isS_0 hD hbTr) ?_
          refine a_aload_n (i := 0) dX11_chance_73 rfl rfl ?_
          refine a_iload_n (i := 2) dX11_chance_74 rfl rfl ?_
          refine a_bipush (v := 6) dX11_chance_75 (by decide) ?_
          refine kgX11_276 rfl dX11_chance_77 (Nat.le_of_ble_eq_true rfl) (isLH_0 hD) (hc) ?_
          rintro v z ⟨rfl, hSz, hZz, hFz⟩
          have ih2 := ih (i + 1) (by omega) (zCh T W Z N M c p) z (aFy_t F2 hFz)
          refine a_aload_n (i := 0) dX11_chance_80 rfl rfl ?_
          refine gX11_37 rfl dX11_chance_81 (isLH_0 hD) ?_
          refine gX11_287 rfl dX11_chance_84 (isS_0 hD hbTr) ?_
          rw [hSz.1 2 (by decide)]
          refine a_istore (i := 5) dX11_chance_87 (by decide) ?_
          refine a_aload_n (i := 0) dX11_chance_89 rfl rfl ?_
          refine gX11_37 rfl dX11_chance_90 (isLH_0 hD) ?_
          refine gX11_147 rfl dX11_chance_93 (isS_0 hD hbTr) ?_
          refine a_iload_n (i := 3) dX11_chance_96 rfl rfl ?_
          refine a_ialdN dX11_chance_97 (isS_12 hD hbTr) (by first | with_reducible exact rfl | with_reducible exact ix8 _ _ | with_reducible exact ix12 _ _ | exact rfl) (by omega) (by decide) ?_
          rw [(hSz.2.2.2 M hM).2.2]
          refine a_iload (i := 4) dX11_chance_98 rfl ?_
          refine a_icmp_lt (tg := 106) dX11_chance_100 (by decide) (fun c_100 => ?_) (fun c_100 => ?_)
          · rw [show zCh T W Z N M c p = ((zYears T W 6 N (zui Z 0 2 p.1)).1 0 2, p.2) from by rw [zCh, if_neg (Int32.not_le.mpr c_100)]] at ih2 ⊢
            refine a_iincK (i := 7) (u := 1) dX11_chance_106 rfl (by decide) (by decide) ?_
            refine a_goto (tg := 46) dX11_chance_109 (by decide) ?_
            rw [nI_1]; exact a_loc _ rfl ih2
          · rw [show zCh T W Z N M c p = ((zYears T W 6 N (zui Z 0 2 p.1)).1 0 2, p.2 + 1) from by rw [zCh, if_pos (Int32.not_lt.mp c_100)]] at ih2 ⊢
            refine a_iincK (i := 6) (u := 1) dX11_chance_103 rfl (by decide) (by decide) ?_
            refine a_iincK (i := 7) (u := 1) dX11_chance_106 rfl (by decide) (by decide) ?_
            refine a_goto (tg := 46) dX11_chance_109 (by decide) ?_
            rw [nI_1]; exact a_loc _ rfl ih2
    refine a_iload_n (i := 1) dX11_chance_0 rfl rfl ?_
    refine a_if_lt (tg := 35) dX11_chance_1 (by decide) (fun c_1 => ?_) (fun c_1 => ?_)
    · exact absurd q1 (Int32.not_le.mpr c_1)
    · refine a_iload_n (i := 2) dX11_chance_4 rfl rfl ?_
      refine a_iconst (v := 1) dX11_chance_5 (by decide) ?_
      refine a_icmp_lt (tg := 35) dX11_chance_6 (by decide) (fun c_6 => ?_) (fun c_6 => ?_)
      · exact absurd q2.1 (Int32.not_le.mpr c_6)
      · refine a_iload_n (i := 2) dX11_chance_9 rfl rfl ?_
        refine a_bipush (v := 99) dX11_chance_10 (by decide) ?_
        refine a_icmp_gt (tg := 35) dX11_chance_12 (by decide) (fun c_12 => ?_) (fun c_12 => ?_)
        · exact absurd q2.2 (Int32.not_le.mpr c_12)
        · refine a_aload_n (i := 0) dX11_chance_15 rfl rfl ?_
          refine a_iload_n (i := 3) dX11_chance_16 rfl rfl ?_
          refine kX11_125 rfl dX11_chance_17 (Nat.le_of_ble_eq_true rfl) (isLH_0 hD) (c_X11_isMan hD ht hp hT) ?_
          refine a_if_eq (tg := 35) dX11_chance_20 (by decide) (fun c_20 => ?_) (fun c_20 => ?_)
          · exact absurd c_20 (bI_p.mpr q3)
          · refine a_iload (i := 4) dX11_chance_23 rfl ?_
            refine a_if_lt (tg := 35) dX11_chance_25 (by decide) (fun c_25 => ?_) (fun c_25 => ?_)
            · exact absurd q4.1 (Int32.not_le.mpr c_25)
            · refine a_iload (i := 4) dX11_chance_28 rfl ?_
              refine a_bipush (v := 99) dX11_chance_30 (by decide) ?_
              refine a_icmp_le (tg := 37) dX11_chance_32 (by decide) (fun c_32 => ?_) (fun c_32 => ?_)
              · refine a_iload_n (i := 1) dX11_chance_37 rfl rfl ?_
                refine a_istore (i := 5) dX11_chance_38 (by decide) ?_
                refine a_iconst (v := 0) dX11_chance_40 (by decide) ?_
                refine a_istore (i := 6) dX11_chance_41 (by decide) ?_
                refine a_iconst (v := 0) dX11_chance_43 (by decide) ?_
                refine a_istore (i := 7) dX11_chance_44 (by decide) ?_
                exact a_loc _ rfl (L 10 0 rfl (s, 0) x aFy_r)
              · exact absurd q4.2 c_32
  · rw [if_neg q]
    refine a_iload_n (i := 1) dX11_chance_0 rfl rfl ?_
    refine a_if_lt (tg := 35) dX11_chance_1 (by decide) (fun c_1 => ?_) (fun c_1 => ?_)
    · refine a_iconst (v := (-1)) dX11_chance_35 (by decide) ?_
      exact a_iret dX11_chance_36 (by exact ⟨rfl, cF_r⟩)
    · refine a_iload_n (i := 2) dX11_chance_4 rfl rfl ?_
      refine a_iconst (v := 1) dX11_chance_5 (by decide) ?_
      refine a_icmp_lt (tg := 35) dX11_chance_6 (by decide) (fun c_6 => ?_) (fun c_6 => ?_)
      · refine a_iconst (v := (-1)) dX11_chance_35 (by decide) ?_
        exact a_iret dX11_chance_36 (by exact ⟨rfl, cF_r⟩)
      · refine a_iload_n (i := 2) dX11_chance_9 rfl rfl ?_
        refine a_bipush (v := 99) dX11_chance_10 (by decide) ?_
        refine a_icmp_gt (tg := 35) dX11_chance_12 (by decide) (fun c_12 => ?_) (fun c_12 => ?_)
        · refine a_iconst (v := (-1)) dX11_chance_35 (by decide) ?_
          exact a_iret dX11_chance_36 (by exact ⟨rfl, cF_r⟩)
        · refine a_aload_n (i := 0) dX11_chance_15 rfl rfl ?_
          refine a_iload_n (i := 3) dX11_chance_16 rfl rfl ?_
          refine kX11_125 rfl dX11_chance_17 (Nat.le_of_ble_eq_true rfl) (isLH_0 hD) (c_X11_isMan hD ht hp hT) ?_
          refine a_if_eq (tg := 35) dX11_chance_20 (by decide) (fun c_20 => ?_) (fun c_20 => ?_)
          · refine a_iconst (v := (-1)) dX11_chance_35 (by decide) ?_
            exact a_iret dX11_chance_36 (by exact ⟨rfl, cF_r⟩)
          · refine a_iload (i := 4) dX11_chance_23 rfl ?_
            refine a_if_lt (tg := 35) dX11_chance_25 (by decide) (fun c_25 => ?_) (fun c_25 => ?_)
            · refine a_iconst (v := (-1)) dX11_chance_35 (by decide) ?_
              exact a_iret dX11_chance_36 (by exact ⟨rfl, cF_r⟩)
            · refine a_iload (i := 4) dX11_chance_28 rfl ?_
              refine a_bipush (v := 99) dX11_chance_30 (by decide) ?_
              refine a_icmp_le (tg := 37) dX11_chance_32 (by decide) (fun c_32 => ?_) (fun c_32 => ?_)
              · exact absurd ⟨Int32.not_lt.mp c_1, ⟨Int32.not_lt.mp c_6, Int32.not_lt.mp c_12⟩, bI_p.mp c_20, Int32.not_lt.mp c_25, c_32⟩ q
              · refine a_iconst (v := (-1)) dX11_chance_35 (by decide) ?_
                exact a_iret dX11_chance_36 (by exact ⟨rfl, cF_r⟩)
theorem mCp_G {w : aS} (hc : mCp (mf5 1 1) x w) : mG x (mFl0 w) := by
  obtain ⟨c2, c⟩ := hc
  refine ⟨fun n j h g => ?_, fun n _ _ _ => by show w.2 n = _; rw [c2], fun j _ => by show w.2 bM j = _; rw [c2]⟩
  rw [mFl0_fr g, c, if_neg]
  rintro ⟨g1, g2⟩
  refine h ?_
  unfold mScr mIn
  by_cases e60 : n = bM + 60
  · subst e60; rw [show mLen (bM + 60) = 48 from rfl] at g1 g2; rw [show mf5 1 1 (bM + 60) = 48 from rfl] at g2; omega
  by_cases e61 : n = bM + 61
  · subst e61; rw [show mLen (bM + 61) = 72 from rfl] at g1 g2; rw [show mf5 1 1 (bM + 61) = 72 from rfl] at g2; omega
  by_cases e62 : n = bM + 62
  · subst e62; rw [show mLen (bM + 62) = 72 from rfl] at g1 g2; rw [show mf5 1 1 (bM + 62) = 72 from rfl] at g2; omega
  by_cases e63 : n = bM + 63
  · subst e63; rw [show mLen (bM + 63) = 6 from rfl] at g1 g2; rw [show mf5 1 1 (bM + 63) = 6 from rfl] at g2; omega
  by_cases e64 : n = bM + 64
  · subst e64; rw [show mLen (bM + 64) = 8 from rfl] at g1 g2; rw [show mf5 1 1 (bM + 64) = 8 from rfl] at g2; omega
  by_cases e65 : n = bM + 65
  · subst e65; rw [show mLen (bM + 65) = 8 from rfl] at g1 g2; rw [show mf5 1 1 (bM + 65) = 8 from rfl] at g2; omega
  by_cases e66 : n = bM + 66
  · subst e66; rw [show mLen (bM + 66) = 8 from rfl] at g1 g2; rw [show mf5 1 1 (bM + 66) = 8 from rfl] at g2; omega
  by_cases e67 : n = bM + 67
  · subst e67; rw [show mLen (bM + 67) = 8 from rfl] at g1 g2; rw [show mf5 1 1 (bM + 67) = 8 from rfl] at g2; omega
  by_cases e68 : n = bM + 68
  · subst e68; rw [show mLen (bM + 68) = 1 from rfl] at g1 g2; rw [show mf5 1 1 (bM + 68) = 1 from rfl] at g2; omega
  by_cases e69 : n = bM + 69
  · subst e69; rw [show mLen (bM + 69) = 1 from rfl] at g1 g2; rw [show mf5 1 1 (bM + 69) = 1 from rfl] at g2; omega
  rw [show mf5 1 1 n = 0 from by simp only [mf5, if_neg e60, if_neg e61, if_neg e62, if_neg e63, if_neg e64, if_neg e65, if_neg e66, if_neg e67, if_neg e68, if_neg e69]] at g2
  omega
theorem mz_tr2 {w : aS} (hR : mR T W Z x) (hw : mCp (mf5 1 1) x w) : rM T Z (mFl0 w) 1 ∧ mR T W Z (mFl0 w) ∧ rFl 5 (mFl0 w) := by
  obtain ⟨ok, hZ, hT, hW, hS⟩ := hR
  refine ⟨?_, mR_G (mCp_G hw) ⟨ok, hZ, hT, hW, hS⟩, mFl0_f (Or.inl rfl)⟩
  have := rM_tried ok hZ hS hw
  exact rM_same ok hZ (fun n j hj => by rw [mFl0_n (by unfold mIn at hj; omega)]) this
set_option maxHeartbeats 4000000 in
set_option maxRecDepth 100000 in
theorem c_X12_chance {s n m c : Int32} (hM : D 12 = true) (h : mQ T W Z x) : aCt l mX12_chance (d + 8) D [.ref bM, .int s, .int n, .int m, .int c] x (fun v y => v = some (.int (qChance T W Z s n m c)) ∧ mF x y) := by
  have hF0 : mF x (aWr x bM 2 0) := mF_0
  have hq := mQ_0 h
  have hy2 : (aWr x bM 2 0).2 = x.2 := rfl
  refine a_met (by decide) (Nat.le_of_ble_eq_true rfl) (fun v y q => Or.inl ⟨rfl, _, q.1⟩) ?_
  refine a_aload_n (i := 0) dX12_chance_0 rfl rfl ?_
  refine a_iconst (v := 0) dX12_chance_1 (by decide) ?_
  refine pX12_175 rfl dX12_chance_2 (isM_0 hM) ?_
  refine a_loc [(0, .ref bM), (1, .int s), (2, .int n), (3, .int m), (4, .int c)] rfl ?_
  generalize aWr x bM 2 0 = y at *
  obtain ⟨hR, hB, hN, hf⟩ := hq
  have hfx : rFl 5 x := h.2.2.2
  have hT := hR.2.2.1
  have ok := hR.1
  have hZ := hR.2.1
  have h8 := ok.2.1
  unfold qChance
  by_cases q : zCn T s n m c
  · rw [if_pos q]
    obtain ⟨q1, q2, q3, q4⟩ := q
    obtain ⟨N, hN, rfl⟩ := n99_of q2
    obtain ⟨K, hK, rfl⟩ := zIn_of (by omega) q3
    rw [nI_clamp (by omega), nI_clamp (by omega)]
    obtain ⟨a, ha, rfl⟩ := nI_of (Int32.not_lt.mpr q1)
    have L : ∀ (k i : Nat), i + k = 10 → ∀ (p : Int32 × Int32) (z : aS), mR T W Z z → mG x z → (∀ j, 71 ≤ j → j ≤ 74 → z.1 bM j = 0) → (∃ a, a < 2 ^ 31 ∧ p.1 = nI a ∧ z.2 bM 69 = lN a) → aV l mX12_chance (d + 8) D none 58 [(0, .ref bM), (2, .int (nI N)), (3, .int (nI K)), (4, .int c), (5, .long (x.2 bM 69)), (7, .int p.2), (8, .int (nI i))] [] z (fun v y => v = some (.int (lp (fun _ => zCh T W Z N K c) i k p).2) ∧ mF x y) := by
      intro k
      induction k with
      | zero =>
        intro i hi p z hR hG h0 hp
        rw [Nat.add_zero] at hi
        subst hi
        have hz : rFl 5 (aWl (aWr z bM 70 0) bM 69 (x.2 bM 69)) := ⟨by rw [aWl_1, aWr_s, bI_f (by omega)], by rw [aWl_1, aWr_j _ _ _ (by decide), h0 _ (by decide) (by decide), bI_f (by omega)], by rw [aWl_1, aWr_j _ _ _ (by decide), h0 _ (by decide) (by decide), bI_f (by omega)], by rw [aWl_1, aWr_j _ _ _ (by decide), h0 _ (by decide) (by decide), bI_f (by omega)], by rw [aWl_1, aWr_j _ _ _ (by decide), h0 _ (by decide) (by decide), bI_f (by omega)]⟩
        have hf1 : mF x (aWl (aWr z bM 70 0) bM 69 (x.2 bM 69)) := by
          refine mF_G hfx hG (fun n j g => ?_) hz (fun n hn => ?_) (fun j hj => ?_) (aWl_s _ _ _ _)
          · rw [aWl_1]
            by_cases e : n = bM
            · subst e; exact aWr_j _ _ _ (fun e2 => g (by subst e2; decide))
            · rw [aWr_n _ _ _ e]
          · rw [aWl_n _ _ _ hn]; rfl
          · rw [aWl_j _ _ _ hj]; rfl
        refine a_iload (i := 8) dX12_chance_58 rfl ?_
        refine a_bipush (v := 10) dX12_chance_60 (by decide) ?_
        refine a_icmp_ge (tg := 109) dX12_chance_62 (by decide) (fun c_62 => ?_) (fun c_62 => ?_)
        · refine a_aload_n (i := 0) dX12_chance_109 rfl rfl ?_
          refine a_iconst (v := 0) dX12_chance_110 (by decide) ?_
          refine pX12_411 rfl dX12_chance_111 (isM_0 hM) (by first | exact Or.inl rfl | exact Or.inr rfl | assumption) ?_
          refine a_aload_n (i := 0) dX12_chance_114 rfl rfl ?_
          refine a_lload (i := 5) dX12_chance_115 rfl ?_
          refine pX12_391 rfl dX12_chance_117 (isM_0 hM) ?_
          refine a_iload (i := 7) dX12_chance_120 rfl ?_
          exact a_iret dX12_chance_122 (by exact ⟨rfl, hf1⟩)
        · exact absurd (Int32.le_refl _) c_62
      | succ k ih =>
        intro i hi p z hR hG h0 hp
        obtain ⟨b, hb, hb1, hb2⟩ := hp
        show aV l mX12_chance (d + 8) D none 58 _ [] z (fun v y => v = some (.int (lp (fun _ => zCh T W Z N K c) (i + 1) k (zCh T W Z N K c p)).2) ∧ mF x y)
        have G : ∀ w, mCp (mf5 1 1) z w → mY T W 6 1 (zui Z 0 2 p.1) (aWr (mFl0 w) bM 70 1) := by
          intro w hw
          obtain ⟨g1, g2, f0, f1, f2, f3, f4⟩ := mz_tr2 hR hw
          have g3 := mR_w (j := 70) (v := 1) (by omega) g2
          refine ⟨ok, g3.2.2.1, g3.2.2.2.1, ⟨by rw [aWr_s, bI_t (by omega)], by rw [aWr_j _ _ _ (by decide), f1, bI_f (by omega), bI_f (by omega)], by rw [aWr_j _ _ _ (by decide), f2, bI_f (by omega), bI_f (by omega)], by rw [aWr_j _ _ _ (by decide), f3, bI_f (by omega), bI_f (by omega)], by rw [aWr_j _ _ _ (by decide), f4, bI_f (by omega), bI_f (by omega)]⟩, zOk_ui hZ, ?_, fun m hm => by rw [show (zui Z 0 2 p.1).1 4 m = Z.1 4 m from by simp [zui]]; exact hB.2 m hm, aFi_r, fun _ => ⟨b, hb, by rw [← hb1]; simp [zui], ?_⟩, fun g => absurd rfl g⟩
          · exact rM_num (rM_same ok hZ (fun n j hj => by rw [aWr_n _ _ _ (by unfold mIn at hj; omega)]) g1)
          · show w.2 bM 69 = _
            rw [hw.1]; exact hb2
        refine a_iload (i := 8) dX12_chance_58 rfl ?_
        refine a_bipush (v := 10) dX12_chance_60 (by decide) ?_
        refine a_icmp_ge (tg := 109) dX12_chance_62 (by decide) (fun c_62 => ?_) (fun c_62 => ?_)
        · exact absurd c_62 (nI_ge (show i < 10 by omega) (by decide))
        · refine a_aload_n (i := 0) dX12_chance_65 rfl rfl ?_
          refine kgX12_510 rfl dX12_chance_66 (Nat.le_of_ble_eq_true rfl) (isM_0 hM) (c_X12_layTried hM) ?_
          rintro v y1 ⟨rfl, w, hw, rfl⟩
          have hY := G w hw
          refine a_aload_n (i := 0) dX12_chance_69 rfl rfl ?_
          refine a_iconst (v := 1) dX12_chance_70 (by decide) ?_
          refine pX12_411 rfl dX12_chance_71 (isM_0 hM) (by first | exact Or.inl rfl | exact Or.inr rfl | assumption) ?_
          refine a_aload_n (i := 0) dX12_chance_74 rfl rfl ?_
          refine a_iload_n (i := 2) dX12_chance_75 rfl rfl ?_
          refine kgX12_513 rfl dX12_chance_76 (Nat.le_of_ble_eq_true rfl) (isM_0 hM) (c_X12_goMany hM hY (show N < 1000 by omega)) ?_
          rintro v u ⟨rfl, hJ⟩
          have gS := hJ.2.1
          have ec : u.1 (bM + 66) (8 + K) = (zYears T W 6 N (zui Z 0 2 p.1)).1 4 K := by have := (gS.2.2.2 K hK).2.2.1; rwa [Nat.mul_one] at this
          have gG : mG z u := mG_t (mCp_G hw) (mG_t (mG_w (j := 70) (v := 1) (by decide)) (mG_i hJ.2.2.2.1))
          have gf := rFl_i hJ.2.2.2.1 hY.2.2.2.1
          have g0 : ∀ j, 71 ≤ j → j ≤ 74 → u.1 bM j = 0 := fun j j1 j2 => by have : j = 71 ∨ j = 72 ∨ j = 73 ∨ j = 74 := (by omega); obtain ⟨_, f1, f2, f3, f4⟩ := gf; rcases this with rfl | rfl | rfl | rfl; rw [f1]; exact bI_f (by omega); rw [f2]; exact bI_f (by omega); rw [f3]; exact bI_f (by omega); rw [f4]; exact bI_f (by omega)
          have ih2 := ih (i + 1) (by omega) (zCh T W Z N K c p) u (mR_G gG hR) (mG_t hG gG) g0 (hJ.2.2.2.2.1 rfl)
          refine a_iload (i := 7) dX12_chance_79 rfl ?_
          refine a_aload_n (i := 0) dX12_chance_81 rfl rfl ?_
          refine gX12_124 rfl dX12_chance_82 (isM_0 hM) ?_
          refine a_bipush (v := 8) dX12_chance_85 (by decide) ?_
          refine a_iload_n (i := 3) dX12_chance_87 rfl rfl ?_
          refine a_iadd dX12_chance_88 ?_
          refine a_ialdN dX12_chance_89 (isM_66 hM) (by first | exact nI_add 8 _ | with_reducible exact rfl | with_reducible exact ix8 _ _ | with_reducible exact ix12 _ _ | exact rfl) (by omega) (by decide) ?_
          rw [ec]
          refine a_iload (i := 4) dX12_chance_90 rfl ?_
          refine a_icmp_lt (tg := 99) dX12_chance_92 (by decide) (fun c_92 => ?_) (fun c_92 => ?_)
          · rw [show zCh T W Z N K c p = ((zYears T W 6 N (zui Z 0 2 p.1)).1 0 2, p.2) from by rw [zCh, if_neg (Int32.not_le.mpr c_92)]] at ih2 ⊢
            refine a_iconst (v := 0) dX12_chance_99 (by decide) ?_
            refine a_iadd dX12_chance_100 ?_
            try rw [Int32.add_zero]
            refine a_istore (i := 7) dX12_chance_101 (by decide) ?_
            refine a_iincK (i := 8) (u := 1) dX12_chance_103 rfl (by decide) (by decide) ?_
            refine a_goto (tg := 58) dX12_chance_106 (by decide) ?_
            rw [nI_1]; exact a_loc _ rfl ih2
          · rw [show zCh T W Z N K c p = ((zYears T W 6 N (zui Z 0 2 p.1)).1 0 2, p.2 + 1) from by rw [zCh, if_pos (Int32.not_lt.mp c_92)]] at ih2 ⊢
            refine a_iconst (v := 1) dX12_chance_95 (by decide) ?_
            refine a_goto (tg := 100) dX12_chance_96 (by decide) ?_
            refine a_iadd dX12_chance_100 ?_
            try rw [Int32.add_zero]
            refine a_istore (i := 7) dX12_chance_101 (by decide) ?_
            refine a_iincK (i := 8) (u := 1) dX12_chance_103 rfl (by decide) (by decide) ?_
            refine a_goto (tg := 58) dX12_chance_106 (by decide) ?_
            rw [nI_1]; exact a_loc _ rfl ih2
    have hf0 : ∀ j, 71 ≤ j → j ≤ 74 → (aWl y bM 69 (lN a)).1 bM j = 0 := fun j j1 j2 => by
      rw [aWl_1]
      have : j = 71 ∨ j = 72 ∨ j = 73 ∨ j = 74 := by omega
      obtain ⟨_, f1, f2, f3, f4⟩ := hf
      rcases this with rfl | rfl | rfl | rfl
      · rw [f1]; exact bI_f (by omega)
      · rw [f2]; exact bI_f (by omega)
      · rw [f3]; exact bI_f (by omega)
      · rw [f4]; exact bI_f (by omega)
    have hG1 : mG y (aWl y bM 69 (lN a)) := ⟨fun _ _ _ _ => rfl, fun n _ _ e => by rw [aWl_n _ _ _ e], fun j hj => aWl_j _ _ _ hj⟩
    refine a_iload_n (i := 1) dX12_chance_5 rfl rfl ?_
    refine a_if_lt (tg := 38) dX12_chance_6 (by decide) (fun c_6 => ?_) (fun c_6 => ?_)
    · exact absurd q1 (Int32.not_le.mpr c_6)
    · refine a_iload_n (i := 2) dX12_chance_9 rfl rfl ?_
      refine a_iconst (v := 1) dX12_chance_10 (by decide) ?_
      refine a_bipush (v := 99) dX12_chance_11 (by decide) ?_
      refine kX12_220 rfl dX12_chance_13 (Nat.le_of_ble_eq_true rfl) (c_X12_isIn) ?_
      refine a_if_eq (tg := 38) dX12_chance_16 (by decide) (fun c_16 => ?_) (fun c_16 => ?_)
      · exact absurd c_16 (bI_p.mpr q2)
      · refine a_aload_n (i := 0) dX12_chance_19 rfl rfl ?_
        refine a_iload_n (i := 3) dX12_chance_20 rfl rfl ?_
        refine kX12_492 rfl dX12_chance_21 (Nat.le_of_ble_eq_true rfl) (isM_0 hM) (c_X12_isMan hM hT) ?_
        refine a_if_eq (tg := 38) dX12_chance_24 (by decide) (fun c_24 => ?_) (fun c_24 => ?_)
        · exact absurd c_24 (bI_p.mpr q3)
        · refine a_iload (i := 4) dX12_chance_27 rfl ?_
          refine a_iconst (v := 0) dX12_chance_29 (by decide) ?_
          refine a_bipush (v := 99) dX12_chance_30 (by decide) ?_
          refine kX12_220 rfl dX12_chance_32 (Nat.le_of_ble_eq_true rfl) (c_X12_isIn) ?_
          refine a_if_ne (tg := 40) dX12_chance_35 (by decide) (fun c_35 => ?_) (fun c_35 => ?_)
          · refine a_aload_n (i := 0) dX12_chance_40 rfl rfl ?_
            refine gX12_391 rfl dX12_chance_41 (isM_0 hM) ?_
            rw [hy2]
            refine a_lstore (i := 5) dX12_chance_44 (by decide) ?_
            refine a_aload_n (i := 0) dX12_chance_46 rfl rfl ?_
            refine a_iload_n (i := 1) dX12_chance_47 rfl rfl ?_
            refine a_i2l dX12_chance_48 ?_
            rw [nI_l ha]
            refine pX12_391 rfl dX12_chance_49 (isM_0 hM) ?_
            refine a_iconst (v := 0) dX12_chance_52 (by decide) ?_
            refine a_istore (i := 7) dX12_chance_53 (by decide) ?_
            refine a_iconst (v := 0) dX12_chance_55 (by decide) ?_
            refine a_istore (i := 8) dX12_chance_56 (by decide) ?_
            exact a_loc _ rfl (L 10 0 rfl (nI a, 0) _ (mR_G hG1 hR) (mG_t (mG_F hF0) hG1) hf0 ⟨a, ha, rfl, aWl_s _ _ _ _⟩)
          · exact absurd c_35 (bI_p.mpr q4)
  · rw [if_neg q]
    refine a_iload_n (i := 1) dX12_chance_5 rfl rfl ?_
    refine a_if_lt (tg := 38) dX12_chance_6 (by decide) (fun c_6 => ?_) (fun c_6 => ?_)
    · refine a_iconst (v := (-1)) dX12_chance_38 (by decide) ?_
      exact a_iret dX12_chance_39 (by exact ⟨rfl, hF0⟩)
    · refine a_iload_n (i := 2) dX12_chance_9 rfl rfl ?_
      refine a_iconst (v := 1) dX12_chance_10 (by decide) ?_
      refine a_bipush (v := 99) dX12_chance_11 (by decide) ?_
      refine kX12_220 rfl dX12_chance_13 (Nat.le_of_ble_eq_true rfl) (c_X12_isIn) ?_
      refine a_if_eq (tg := 38) dX12_chance_16 (by decide) (fun c_16 => ?_) (fun c_16 => ?_)
      · refine a_iconst (v := (-1)) dX12_chance_38 (by decide) ?_
        exact a_iret dX12_chance_39 (by exact ⟨rfl, hF0⟩)
      · refine a_aload_n (i := 0) dX12_chance_19 rfl rfl ?_
        refine a_iload_n (i := 3) dX12_chance_20 rfl rfl ?_
        refine kX12_492 rfl dX12_chance_21 (Nat.le_of_ble_eq_true rfl) (isM_0 hM) (c_X12_isMan hM hT) ?_
        refine a_if_eq (tg := 38) dX12_chance_24 (by decide) (fun c_24 => ?_) (fun c_24 => ?_)
        · refine a_iconst (v := (-1)) dX12_chance_38 (by decide) ?_
          exact a_iret dX12_chance_39 (by exact ⟨rfl, hF0⟩)
        · refine a_iload (i := 4) dX12_chance_27 rfl ?_
          refine a_iconst (v := 0) dX12_chance_29 (by decide) ?_
          refine a_bipush (v := 99) dX12_chance_30 (by decide) ?_
          refine kX12_220 rfl dX12_chance_32 (Nat.le_of_ble_eq_true rfl) (c_X12_isIn) ?_
          refine a_if_ne (tg := 40) dX12_chance_35 (by decide) (fun c_35 => ?_) (fun c_35 => ?_)
          · exact absurd ⟨Int32.not_lt.mp c_6, bI_p.mp c_16, bI_p.mp c_24, bI_p.mp c_35⟩ q
          · refine a_iconst (v := (-1)) dX12_chance_38 (by decide) ?_
            exact a_iret dX12_chance_39 (by exact ⟨rfl, hF0⟩)
end qH
