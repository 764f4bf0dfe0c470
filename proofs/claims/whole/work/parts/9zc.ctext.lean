/-! text, the class -/
section qBJ
variable {l : Launch} {d : Nat} {D : Nat → Bool} {x y : aS} {n t t2 N : Nat} {B : Nat → Nat} {P : pS} {T : zT} {W : Nat → zL}
set_option maxHeartbeats 4000000 in
set_option maxRecDepth 100000 in
theorem c_X5_clear (hD : aDC D) : aDV l mX5_clear d D [.ref bSn] x (aWr (aWr x bSn 0 0) bSn 1 (-1)) := by
  refine a_metV (by decide) (Nat.le_of_ble_eq_true rfl) rfl ?_
  refine a_aload_n (i := 0) dX5_clear_0 rfl rfl ?_
  refine a_iconst (v := 0) dX5_clear_1 (by decide) ?_
  refine pX5_35 rfl dX5_clear_2 (isSn_0 hD) ?_
  refine a_aload_n (i := 0) dX5_clear_5 rfl rfl ?_
  refine a_iconst (v := (-1)) dX5_clear_6 (by decide) ?_
  refine pX5_9 rfl dX5_clear_7 (isSn_0 hD) ?_
  exact a_vret dX5_clear_10 (by exact ⟨rfl, rfl⟩)
theorem sBegin_n {b F m : Nat} (h0 : m ≠ b) (h5 : m ≠ b + 5) (h6 : m ≠ b + 6) (h7 : m ≠ b + 7) (h10 : m ≠ b + 10) (h11 : m ≠ b + 11) (h12 : m ≠ b + 12) : (sBegin x t b N F).1 m = x.1 m := by
  unfold sBegin
  rw [lp_keep (fun i y => sBegin1_n h10 h11 h12), sBareAll_n h5 h6 h7]
  unfold sBegin0
  rw [aWr_n _ _ _ h0, aWr_n _ _ _ h0, aWr_n _ _ _ h0, aWr_n _ _ _ h0]
theorem sBegin_2 {b F : Nat} : (sBegin x t b N F).2 = x.2 := by
  have hB : ∀ h y, (sBare y t b h).2 = y.2 := fun h y => (lp_keep2 (g := fun z y => aWr y (b + 6) (h * 8 + z) 0) (fun _ _ => rfl) 8 0 _).trans (lp_keep2 (g := fun z y => aWr y (b + 5) (h * 8 + z) (y.1 (t + 4) h)) (fun _ _ => rfl) 8 0 y)
  exact (lp_keep2 (g := sBegin1 t b) (fun _ _ => rfl) F 0 _).trans (lp_keep2 (g := fun h y => sBare y t b h) (fun h y => hB h y) N 0 _)
/-- the text is good: what stands then -/
def cTx (P : pS) (t t2 : Nat) (x y : aS) : Prop := cR P.1 P.2.1 (zFirst P.1) y t2 ∧ (y.1 bRd 1).toNatClampNeg * 256 = t ∧ y.1 bSn 0 = 0 ∧ y.1 bSn 1 = -1 ∧ y.1 bDn 0 = 0 ∧ y.1 bLH 5 = 0 ∧ y.1 bTp 0 = 0 ∧ y.1 bRd 7 = 0 ∧ y.1 bRd 8 = -1 ∧ (∀ m j, 3072 ≤ m → y.1 m j = x.1 m j) ∧ y.2 = x.2
/-- a fault: what stands then -/
def cTf (P : pS) (t2 : Nat) (x y : aS) : Prop := y.1 bTp 0 = 0 ∧ y.1 bRd 7 = nI P.2.2.2.2.1 ∧ y.1 bRd 8 = nI P.2.2.2.2.2 ∧ (∀ m j, ¬ (m = bTp ∧ j ≤ 6) → ¬ (m = bRd ∧ ¬ j = 1) → ¬ m = bRd + 5 → ¬ (t2 ≤ m ∧ m < t2 + 256) → y.1 m j = x.1 m j) ∧ y.2 = x.2
set_option maxHeartbeats 4000000 in
set_option maxRecDepth 100000 in
theorem c_X11_textN {a : Int32} (hD : aDC D) (hN : x.1 bTp 0 = nI N) (h : a < 0 ∨ nI N < a) : aDI l mX11_text (d + 10) D [.ref bLH, .int a] x (-2) x := by
  refine a_metI (by decide) (Nat.le_of_ble_eq_true rfl) rfl ?_
  refine a_iload_n (i := 1) dX11_text_0 rfl rfl ?_
  refine a_if_lt (tg := 18) dX11_text_1 (by decide) (fun c_1 => ?_) (fun c_1 => ?_)
  · refine a_bipush (v := (-2)) dX11_text_18 (by decide) ?_
    exact a_iret dX11_text_20 (by exact ⟨rfl, rfl⟩)
  · refine a_iload_n (i := 1) dX11_text_4 rfl rfl ?_
    refine a_aload_n (i := 0) dX11_text_5 rfl rfl ?_
    refine gX11_14 rfl dX11_text_6 (isLH_0 hD) ?_
    refine gX11_68 rfl dX11_text_9 (isRd_0 hD) ?_
    refine gX11_72 rfl dX11_text_12 (isTp_0 hD) ?_
    rw [hN]
    refine a_icmp_le (tg := 21) dX11_text_15 (by decide) (fun c_15 => ?_) (fun c_15 => ?_)
    · exact absurd h (by intro e; rcases e with e | e; exact c_1 e; exact absurd c_15 (Int32.not_le.mpr e))
    · refine a_bipush (v := (-2)) dX11_text_18 (by decide) ?_
      exact a_iret dX11_text_20 (by exact ⟨rfl, rfl⟩)
set_option maxHeartbeats 8000000 in
set_option maxRecDepth 100000 in
theorem c_X11_text (hD : aDC D) (ht : aTdB t) (hp : (x.1 bLH 1).toNatClampNeg * 256 = t) (ht2 : aTdB t2) (hp2 : (x.1 bRd 1).toNatClampNeg * 256 = t2) (htt : ¬ t = t2) (hN : x.1 bTp 0 = nI N) (hN7 : N ≤ 700) (hB : ∀ i, i < N → B i < 256 ∧ x.1 (bTp + 2) i = sB (B i)) (hn : n ≤ N) : aCt l mX11_text (d + 10) D [.ref bLH, .int (nI n)] x (fun v y => ((rdGo B n (n + 1) pS0).2.2.2.2.1 = 0 → v = some (.int (nI ((rdGo B n (n + 1) pS0).1.1 8))) ∧ cTx (rdGo B n (n + 1) pS0) t t2 x y) ∧ (¬ (rdGo B n (n + 1) pS0).2.2.2.2.1 = 0 → v = some (.int (-1)) ∧ cTf (rdGo B n (n + 1) pS0) t2 x y)) := by
  refine a_met (by decide) (Nat.le_of_ble_eq_true rfl) (fun v y q => Or.inl ⟨rfl, by by_cases g : (rdGo B n (n + 1) pS0).2.2.2.2.1 = 0; exact ⟨_, (q.1 g).1⟩; exact ⟨_, (q.2 g).1⟩⟩) ?_
  obtain ⟨z, hz⟩ : ∃ z, z = aWr x bTp 0 0 := ⟨_, rfl⟩
  have zo : ∀ m j, ¬ (m = bTp ∧ j = 0) → z.1 m j = x.1 m j := fun m j e => by rw [hz, aWr_o _ _ e]
  have zp2 : (z.1 bRd 1).toNatClampNeg * 256 = t2 := by rw [zo _ _ (fun e => absurd e.1 (by decide))]; exact hp2
  have zB : ∀ i, i < n → B i < 256 ∧ z.1 (bTp + 2) i = sB (B i) := fun i hi => ⟨(hB i (by omega)).1, by rw [zo _ _ (by omega)]; exact (hB i (by omega)).2⟩
  have rd := c_X3_read (l := l) (d := d) (D := D) hD ht2 zp2 (show n ≤ 700 by omega) zB
  have e0 : bLH = 0 := by decide
  have e1 : bRd = 256 := by decide
  have e2 : bTp = 512 := by decide
  have e5 : bNow = 1280 := by decide
  have e9 : bSn = 2304 := by decide
  have e10 : bDn = 2560 := by decide
  have tr : t2 = 768 ∨ t2 = 1024 := ht2
  have tr1 : t = 768 ∨ t = 1024 := ht
  have n0 : ¬ nI n < 0 := nI_pos (by omega)
  have nN : nI n ≤ nI N := nI_le hn (by omega)
  generalize hR : rdGo B n (n + 1) pS0 = R at rd ⊢
  by_cases g : R.2.2.2.2.1 = 0
  · have tg : tG R.1 := by rw [← hR]; exact tG_go (n + 1) pS0 (fun _ => tG_0) (by rw [hR]; exact g)
    rw [bI_t g] at rd
    have FIN : ∀ y : aS, cK n B t2 R y → cRf t2 z y → ∀ (o1 o2 : Nat), o1 * 256 = t → o2 * 256 = t2 → cTx R t t2 x (aWr (aWr (aWr (aWr (sBegin (aWr (aWr y bLH 1 (nI o2)) bRd 1 (nI o1)) t2 bNow (R.1.1 0) (R.1.1 1)) bSn 0 0) bSn 1 (-1)) bDn 0 0) bLH 5 0) := by
      intro y K F o1 o2 ho1 ho2
      obtain ⟨s, hs⟩ : ∃ s, s = aWr (aWr y bLH 1 (nI o2)) bRd 1 (nI o1) := ⟨_, rfl⟩
      rw [← hs]
      obtain ⟨w, hw⟩ : ∃ w, w = aWr (aWr (aWr (aWr (sBegin s t2 bNow (R.1.1 0) (R.1.1 1)) bSn 0 0) bSn 1 (-1)) bDn 0 0) bLH 5 0 := ⟨_, rfl⟩
      rw [← hw]
      have so : ∀ m j, ¬ (m = bLH ∧ j = 1) → ¬ (m = bRd ∧ j = 1) → s.1 m j = y.1 m j := fun m j a b => by rw [hs, aWr_o _ _ b, aWr_o _ _ a]
      have bo : ∀ m, m ≠ 1280 → m ≠ 1285 → m ≠ 1286 → m ≠ 1287 → m ≠ 1290 → m ≠ 1291 → m ≠ 1292 → (sBegin s t2 bNow (R.1.1 0) (R.1.1 1)).1 m = s.1 m := fun m a0 a1 a2 a3 a4 a5 a6 => sBegin_n (by omega) (by omega) (by omega) (by omega) (by omega) (by omega) (by omega)
      have wo : ∀ m j, ¬ (m = bSn ∧ j ≤ 1) → ¬ (m = bDn ∧ j = 0) → ¬ (m = bLH ∧ j = 5) → w.1 m j = (sBegin s t2 bNow (R.1.1 0) (R.1.1 1)).1 m j := fun m j a b c => by rw [hw, aWr_o _ _ c, aWr_o _ _ b, aWr_o _ _ (by omega), aWr_o _ _ (by omega)]
      have wt : ∀ m j, t2 ≤ m → m < t2 + 256 → w.1 m j = y.1 m j := fun m j a b => by rw [wo _ _ (by omega) (by omega) (by omega), bo _ (by omega) (by omega) (by omega) (by omega) (by omega) (by omega) (by omega), so _ _ (by omega) (by omega)]
      obtain ⟨I, c2, c3, cL, cP'⟩ := K
      obtain ⟨-, i1, i2, i3, i4, i5⟩ := I
      have rTs : rT R.1 s t2 := rT_fr i5 (fun p i h1 h2 => so _ _ (by omega) (by omega)) i4
      have rTw : rT R.1 w t2 := rT_fr i5 (fun p i h1 h2 => wt p i (by omega) (by omega)) i4
      have rb := rS_begin (T := R.1) (x := s) (t := t2) (b := bNow) ht2 hbNow tg.1 rTs
      have p3 := (i3.2.2.1 g)
      have cl1 : (nI o1).toNatClampNeg = o1 := nI_clamp (by omega)
      have cl2 : (nI o2).toNatClampNeg = o2 := nI_clamp (by omega)
      refine ⟨⟨ht2, ?_, tg.1, zOk_first tg.1, rTw, fun q hq => ?_, ?_⟩, ?_, ?_, ?_, ?_, ?_, ?_, ?_, ?_, fun m j hm => ?_, ?_⟩
      · rw [wo _ _ (by omega) (by omega) (by omega), bo _ (by omega) (by omega) (by omega) (by omega) (by omega) (by omega) (by omega), hs, aWr_n _ _ _ (by decide), aWr_s, cl2]; exact ho2
      · obtain ⟨u, v, ww⟩ := cL q hq
        refine ⟨by rw [wt _ _ (by omega) (by omega)]; exact v, ((cP' g).2 q hq).1, fun i hi => ?_⟩
        rw [wt _ _ (by omega) (by omega), wt _ _ (by omega) (by omega)]
        exact ww i hi
      · refine rS_same (fun k hk => funext (fun j => wo _ _ (by omega) (by omega) (by omega))) rb
      · rw [wo _ _ (by omega) (by omega) (by omega), bo _ (by omega) (by omega) (by omega) (by omega) (by omega) (by omega) (by omega), hs, aWr_s, cl1]; exact ho1
      · rw [hw, aWr_n _ _ _ (by decide), aWr_n _ _ _ (by decide), aWr_j _ _ _ (by decide), aWr_s]
      · rw [hw, aWr_n _ _ _ (by decide), aWr_n _ _ _ (by decide), aWr_s]
      · rw [hw, aWr_n _ _ _ (by decide), aWr_s]
      · rw [hw, aWr_s]
      · rw [wo _ _ (by omega) (by omega) (by omega), bo _ (by omega) (by omega) (by omega) (by omega) (by omega) (by omega) (by omega), so _ _ (by omega) (by omega), F.1 _ _ (by omega) (by omega) (by omega) (by omega), hz, aWr_s]
      · rw [wo _ _ (by omega) (by omega) (by omega), bo _ (by omega) (by omega) (by omega) (by omega) (by omega) (by omega) (by omega), so _ _ (by omega) (by omega), i3.1, g]; rfl
      · rw [wo _ _ (by omega) (by omega) (by omega), bo _ (by omega) (by omega) (by omega) (by omega) (by omega) (by omega) (by omega), so _ _ (by omega) (by omega)]; exact p3.2.2
      · rw [wo _ _ (by omega) (by omega) (by omega), bo _ (by omega) (by omega) (by omega) (by omega) (by omega) (by omega) (by omega), so _ _ (by omega) (by omega), F.1 _ _ (by omega) (by omega) (by omega) (by omega), zo _ _ (by omega)]
      · rw [hw, aWr_l, aWr_l, aWr_l, aWr_l, sBegin_2, hs, aWr_l, aWr_l, F.2, hz, aWr_l]
    obtain ⟨o1, ho1⟩ : ∃ o1, o1 = (x.1 bLH 1).toNatClampNeg := ⟨_, rfl⟩
    obtain ⟨o2, ho2⟩ : ∃ o2, o2 = (x.1 bRd 1).toNatClampNeg := ⟨_, rfl⟩
    rw [← ho1] at hp
    rw [← ho2] at hp2
    have cl2 : (nI o2).toNatClampNeg = o2 := nI_clamp (by omega)
    refine a_iload_n (i := 1) dX11_text_0 rfl rfl ?_
    refine a_if_lt (tg := 18) dX11_text_1 (by decide) (fun c_1 => ?_) (fun c_1 => ?_)
    · exact absurd c_1 n0
    · refine a_iload_n (i := 1) dX11_text_4 rfl rfl ?_
      refine a_aload_n (i := 0) dX11_text_5 rfl rfl ?_
      refine gX11_14 rfl dX11_text_6 (isLH_0 hD) ?_
      refine gX11_68 rfl dX11_text_9 (isRd_0 hD) ?_
      refine gX11_72 rfl dX11_text_12 (isTp_0 hD) ?_
      rw [hN]
      refine a_icmp_le (tg := 21) dX11_text_15 (by decide) (fun c_15 => ?_) (fun c_15 => ?_)
      · refine a_aload_n (i := 0) dX11_text_21 rfl rfl ?_
        refine gX11_14 rfl dX11_text_22 (isLH_0 hD) ?_
        refine gX11_68 rfl dX11_text_25 (isRd_0 hD) ?_
        refine a_iconst (v := 0) dX11_text_28 (by decide) ?_
        refine pX11_72 rfl dX11_text_29 (isTp_0 hD) ?_
        rw [← hz]
        refine a_aload_n (i := 0) dX11_text_32 rfl rfl ?_
        refine gX11_14 rfl dX11_text_33 (isLH_0 hD) ?_
        refine a_iload_n (i := 1) dX11_text_36 rfl rfl ?_
        refine kgX11_82 rfl dX11_text_37 (Nat.le_of_ble_eq_true rfl) (isRd_0 hD) (rd) ?_
        rintro v y ⟨rfl, K, F⟩
        have q1 : (y.1 bLH 1).toNatClampNeg = o1 := by rw [F.1 _ _ (by omega) (by omega) (by omega) (by omega), zo _ _ (by omega), ← ho1]
        have q2 : (y.1 bRd 1).toNatClampNeg = o2 := by rw [F.1 _ _ (by omega) (by omega) (by omega) (by omega), zo _ _ (by omega), ← ho2]
        obtain ⟨s, hs⟩ : ∃ s, s = aWr (aWr y bLH 1 (nI o2)) bRd 1 (nI o1) := ⟨_, rfl⟩
        have so : ∀ m j, ¬ (m = bLH ∧ j = 1) → ¬ (m = bRd ∧ j = 1) → s.1 m j = y.1 m j := fun m j a b => by rw [hs, aWr_o _ _ b, aWr_o _ _ a]
        have i4 := K.1.2.2.2.2.1
        have i5 := K.1.2.2.2.2.2
        have s1 : (s.1 bLH 1).toNatClampNeg = o2 := by rw [hs, aWr_n _ _ _ (by decide), aWr_s, cl2]
        have sN : s.1 t2 1 = nI (R.1.1 0) := by rw [so _ _ (by omega) (by omega)]; exact i4.1
        have sF : s.1 t2 4 = nI (R.1.1 1) := by rw [so _ _ (by omega) (by omega)]; exact i4.2.1
        have X := FIN y K F o1 o2 hp hp2
        rw [← hs] at X
        refine a_if_ne (tg := 45) dX11_text_40 (by decide) (fun c_40 => ?_) (fun c_40 => ?_)
        · refine a_aload_n (i := 0) dX11_text_45 rfl rfl ?_
          refine gX11_23 rfl dX11_text_46 (isLH_0 hD) ?_
          rw [q1]
          refine a_astore_n (i := 2) dX11_text_49 rfl (by decide) ?_
          refine a_aload_n (i := 0) dX11_text_50 rfl rfl ?_
          refine a_aload_n (i := 0) dX11_text_51 rfl rfl ?_
          refine gX11_14 rfl dX11_text_52 (isLH_0 hD) ?_
          refine gX11_86 rfl dX11_text_55 (isRd_0 hD) ?_
          rw [q2]
          refine pX11_23 rfl dX11_text_58 (by omega) (isLH_0 hD) ?_
          refine a_aload_n (i := 0) dX11_text_61 rfl rfl ?_
          refine gX11_14 rfl dX11_text_62 (isLH_0 hD) ?_
          refine a_aload_n (i := 2) dX11_text_65 rfl rfl ?_
          refine pX11_86 rfl dX11_text_66 (by omega) (isRd_0 hD) ?_
          rw [← hs]
          refine a_aload_n (i := 0) dX11_text_69 rfl rfl ?_
          refine gX11_30 rfl dX11_text_70 (isLH_0 hD) ?_
          refine a_aload_n (i := 0) dX11_text_73 rfl rfl ?_
          refine gX11_23 rfl dX11_text_74 (isLH_0 hD) ?_
          rw [s1, hp2]
          refine kX11_87 rfl dX11_text_77 (Nat.le_of_ble_eq_true rfl) (isS_0 hD hbNow) (c_X6_begin hD hbNow ht2 sN i5.1 sF i5.2.1) ?_
          refine a_aload_n (i := 0) dX11_text_80 rfl rfl ?_
          refine gX11_50 rfl dX11_text_81 (isLH_0 hD) ?_
          refine kX11_91 rfl dX11_text_84 (Nat.le_of_ble_eq_true rfl) (isSn_0 hD) (c_X5_clear hD) ?_
          refine a_aload_n (i := 0) dX11_text_87 rfl rfl ?_
          refine gX11_57 rfl dX11_text_88 (isLH_0 hD) ?_
          refine a_iconst (v := 0) dX11_text_91 (by decide) ?_
          refine pX11_94 rfl dX11_text_92 (isDn_0 hD) ?_
          refine a_aload_n (i := 0) dX11_text_95 rfl rfl ?_
          refine a_iconst (v := 0) dX11_text_96 (by decide) ?_
          refine pX11_95 rfl dX11_text_97 (isLH_0 hD) (by first | exact Or.inl rfl | exact Or.inr rfl | assumption) ?_
          refine a_aload_n (i := 0) dX11_text_100 rfl rfl ?_
          refine gX11_23 rfl dX11_text_101 (isLH_0 hD) ?_
          rw [X.1.2.1]
          refine gX11_99 rfl dX11_text_104 (isT_0 hD ht2) ?_
          rw [X.1.2.2.2.2.1.2.2.2.2.2.2.2.2.1]
          exact a_iret dX11_text_107 (by exact ⟨fun _ => ⟨rfl, X⟩, fun e => absurd g e⟩)
        · exact absurd c_40 (by decide)
      · exact absurd nN c_15
  · rw [bI_f g] at rd
    have FIN : ∀ y : aS, cK n B t2 R y → cRf t2 z y → cTf R t2 x y := by
      intro y K F
      obtain ⟨I, -⟩ := K
      obtain ⟨-, i1, i2, i3, i4, i5⟩ := I
      exact ⟨by rw [F.1 _ _ (by omega) (by omega) (by omega) (by omega), hz, aWr_s], i3.1, i3.2.2.2 g, fun m j a b c e => by rw [F.1 _ _ (by omega) b c e, zo _ _ (by omega)], by rw [F.2, hz]; rfl⟩
    refine a_iload_n (i := 1) dX11_text_0 rfl rfl ?_
    refine a_if_lt (tg := 18) dX11_text_1 (by decide) (fun c_1 => ?_) (fun c_1 => ?_)
    · exact absurd c_1 n0
    · refine a_iload_n (i := 1) dX11_text_4 rfl rfl ?_
      refine a_aload_n (i := 0) dX11_text_5 rfl rfl ?_
      refine gX11_14 rfl dX11_text_6 (isLH_0 hD) ?_
      refine gX11_68 rfl dX11_text_9 (isRd_0 hD) ?_
      refine gX11_72 rfl dX11_text_12 (isTp_0 hD) ?_
      rw [hN]
      refine a_icmp_le (tg := 21) dX11_text_15 (by decide) (fun c_15 => ?_) (fun c_15 => ?_)
      · refine a_aload_n (i := 0) dX11_text_21 rfl rfl ?_
        refine gX11_14 rfl dX11_text_22 (isLH_0 hD) ?_
        refine gX11_68 rfl dX11_text_25 (isRd_0 hD) ?_
        refine a_iconst (v := 0) dX11_text_28 (by decide) ?_
        refine pX11_72 rfl dX11_text_29 (isTp_0 hD) ?_
        rw [← hz]
        refine a_aload_n (i := 0) dX11_text_32 rfl rfl ?_
        refine gX11_14 rfl dX11_text_33 (isLH_0 hD) ?_
        refine a_iload_n (i := 1) dX11_text_36 rfl rfl ?_
        refine kgX11_82 rfl dX11_text_37 (Nat.le_of_ble_eq_true rfl) (isRd_0 hD) (rd) ?_
        rintro v y ⟨rfl, K, F⟩
        refine a_if_ne (tg := 45) dX11_text_40 (by decide) (fun c_40 => ?_) (fun c_40 => ?_)
        · exact absurd rfl c_40
        · refine a_iconst (v := (-1)) dX11_text_43 (by decide) ?_
          exact a_iret dX11_text_44 (by exact ⟨fun e => absurd e g, fun _ => ⟨rfl, FIN y K F⟩⟩)
      · exact absurd nN c_15
end qBJ
