/-! THE LAW: man; the model's, the class's where it answers -/
def qMan (T : zT) (Z : zS) (m : Nat) (w : Int32) : Int32 := if w = 0 then nI (Z.2 3 m) else if w = 1 then T.2.1 3 m else if w = 2 then nI (T.2.2 1 m) else if w = 3 then Z.1 3 m else if w = 4 then Z.1 4 m else if w = 5 then (if (Z.2 0 0).testBit m then 1 else 0) else zPinch T Z m
def manC (T : zT) (a w : Int32) : Nat := if ¬ zIn (T.1 1) a then 1 else if ¬ zIn 7 w then 2 else 0
section qBS
variable {l : Launch} {d : Nat} {D : Nat → Bool} {T : zT} {W : Nat → zL} {Z : zS} {x : aS} {t : Nat}
theorem w7 {w : Int32} (h : ¬ w = 0) (h1 : ¬ w = 1) (h2 : ¬ w = 2) (h3 : ¬ w = 3) (h4 : ¬ w = 4) (h5 : ¬ w = 5) (h6 : ¬ w = 6) : ¬ zIn 7 w := fun g => by
  obtain ⟨k, hk, rfl⟩ := zIn_of (by decide) g
  rcases (by omega : k = 0 ∨ k = 1 ∨ k = 2 ∨ k = 3 ∨ k = 4 ∨ k = 5 ∨ k = 6) with rfl | rfl | rfl | rfl | rfl | rfl | rfl
  · exact h rfl
  · exact h1 rfl
  · exact h2 rfl
  · exact h3 rfl
  · exact h4 rfl
  · exact h5 rfl
  · exact h6 rfl
set_option maxHeartbeats 4000000 in
set_option maxRecDepth 100000 in
theorem c_X12_fails {c : Int32} (hM : D 12 = true) : aDI l mX12_fails d D [.ref bM, .int c] x 0 (aWr x bM 2 c) := by
  refine a_metI (by decide) (Nat.le_of_ble_eq_true rfl) rfl ?_
  refine a_aload_n (i := 0) dX12_fails_0 rfl rfl ?_
  refine a_iload_n (i := 1) dX12_fails_1 rfl rfl ?_
  refine pX12_175 rfl dX12_fails_2 (isM_0 hM) ?_
  refine a_iconst (v := 0) dX12_fails_5 (by decide) ?_
  exact a_iret dX12_fails_6 (by exact ⟨rfl, rfl⟩)
set_option maxHeartbeats 4000000 in
set_option maxRecDepth 100000 in
theorem c_X12_thrown (hM : D 12 = true) : aDI l mX12_thrown d D [.ref bM] x (x.1 bM 2) x := by
  refine a_metI (by decide) (Nat.le_of_ble_eq_true rfl) rfl ?_
  refine a_aload_n (i := 0) dX12_thrown_0 rfl rfl ?_
  refine gX12_175 rfl dX12_thrown_1 (isM_0 hM) ?_
  exact a_iret dX12_thrown_4 (by exact ⟨rfl, rfl⟩)
theorem mF_2 {v : Int32} : mF x (aWr x bM 2 v) := mF_w (Or.inl ⟨rfl, Or.inl rfl⟩)
theorem mF_22 {u v : Int32} : mF x (aWr (aWr x bM 2 u) bM 2 v) := mF_t mF_2 mF_2
set_option maxHeartbeats 4000000 in
set_option maxRecDepth 100000 in
theorem c_X12_man {a w : Int32} (hM : D 12 = true) (h : mR T W Z x) : aCt l mX12_man (d + 4) D [.ref bM, .int a, .int w] x (fun v y => (∃ r, v = some (.int r) ∧ (manC T a w = 0 → r = qMan T Z a.toNatClampNeg w)) ∧ y.1 bM 2 = nI (manC T a w) ∧ mF x y) := by
  refine a_met (by decide) (Nat.le_of_ble_eq_true rfl) (fun v y q => Or.inl ⟨rfl, q.1.choose, q.1.choose_spec.1⟩) ?_
  have h0 := mR_0 h
  obtain ⟨ok, hZ, hT, hW, hS⟩ := h0
  have im := c_X12_isMan (l := l) (d := d + 3) (D := D) (a := a) hM hT
  have g2 : (aWr x bM 2 0).1 bM 2 = 0 := aWr_s _ _ _ _
  unfold manC
  by_cases g : zIn (T.1 1) a
  · rw [if_neg (fun e => e g)]
    rw [bI_t g] at im
    obtain ⟨m, hm, rfl⟩ := zIn_of (by have := ok.2.1; omega) g
    have m8 : m < 8 := by have := ok.2.1; omega
    rw [nI_clamp (by omega)]
    obtain ⟨s1, s2, s3, s4⟩ := hS.2.2.2 m hm
    have t2 := hT.2.2.2.2.2.2.2.2.2.1 m hm
    rw [show 8 * 0 + m = m by omega] at s1 s2 s3 s4
    by_cases gw : zIn 7 w
    · rw [if_neg (fun e => e gw)]
      have pz := mz_pinchOf (l := l) (d := d) (D := D) (i := 0) (m := m) hM (by decide) ok hZ hT hS hm
      refine a_aload_n (i := 0) dX12_man_0 rfl rfl ?_
      refine a_iconst (v := 0) dX12_man_1 (by decide) ?_
      refine pX12_175 rfl dX12_man_2 (isM_0 hM) ?_
      refine a_aload_n (i := 0) dX12_man_5 rfl rfl ?_
      refine a_iload_n (i := 1) dX12_man_6 rfl rfl ?_
      refine kX12_492 rfl dX12_man_7 (Nat.le_of_ble_eq_true rfl) (isM_0 hM) (im) ?_
      refine a_if_ne (tg := 19) dX12_man_10 (by decide) (fun c_10 => ?_) (fun c_10 => ?_)
      · refine a_iload_n (i := 2) dX12_man_19 rfl rfl ?_
        refine sX12_man_20 dX12_man_20 (fun s_20 => ?_) (fun s_20 => ?_) (fun s_20 => ?_) (fun s_20 => ?_) (fun s_20 => ?_) (fun s_20 => ?_) (fun s_20 => ?_) (fun s_20_0 s_20_1 s_20_2 s_20_3 s_20_4 s_20_5 s_20_6 => ?_)
        · refine a_aload_n (i := 0) dX12_man_64 rfl rfl ?_
          refine gX12_118 rfl dX12_man_65 (isM_0 hM) ?_
          refine a_iload_n (i := 1) dX12_man_68 rfl rfl ?_
          refine a_ialdN dX12_man_69 (isM_64 hM) (by first | with_reducible exact rfl | with_reducible exact ix8 _ _ | with_reducible exact ix12 _ _ | exact rfl) (by exact Nat.lt_of_lt_of_le m8 (by decide)) (by decide) ?_
          rw [s1]
          exact a_iret dX12_man_70 (by exact ⟨⟨_, rfl, fun _ => by rw [qMan, if_pos s_20]⟩, g2, mF_2⟩)
        · refine a_aload_n (i := 0) dX12_man_71 rfl rfl ?_
          refine gX12_39 rfl dX12_man_72 (isM_0 hM) ?_
          refine a_iload_n (i := 1) dX12_man_75 rfl rfl ?_
          refine a_ialdN dX12_man_76 (isM_31 hM) (by first | with_reducible exact rfl | with_reducible exact ix8 _ _ | with_reducible exact ix12 _ _ | exact rfl) (by exact Nat.lt_of_lt_of_le m8 (by decide)) (by decide) ?_
          rw [t2.2.2.1]
          exact a_iret dX12_man_77 (by exact ⟨⟨_, rfl, fun _ => by rw [s_20]; rfl⟩, g2, mF_2⟩)
        · refine a_aload_n (i := 0) dX12_man_78 rfl rfl ?_
          refine gX12_42 rfl dX12_man_79 (isM_0 hM) ?_
          refine a_iload_n (i := 1) dX12_man_82 rfl rfl ?_
          refine a_ialdN dX12_man_83 (isM_32 hM) (by first | with_reducible exact rfl | with_reducible exact ix8 _ _ | with_reducible exact ix12 _ _ | exact rfl) (by exact Nat.lt_of_lt_of_le m8 (by decide)) (by decide) ?_
          rw [t2.2.2.2.1]
          exact a_iret dX12_man_84 (by exact ⟨⟨_, rfl, fun _ => by rw [s_20]; rfl⟩, g2, mF_2⟩)
        · refine a_aload_n (i := 0) dX12_man_85 rfl rfl ?_
          refine gX12_121 rfl dX12_man_86 (isM_0 hM) ?_
          refine a_iload_n (i := 1) dX12_man_89 rfl rfl ?_
          refine a_ialdN dX12_man_90 (isM_65 hM) (by first | with_reducible exact rfl | with_reducible exact ix8 _ _ | with_reducible exact ix12 _ _ | exact rfl) (by exact Nat.lt_of_lt_of_le m8 (by decide)) (by decide) ?_
          rw [s2]
          exact a_iret dX12_man_91 (by exact ⟨⟨_, rfl, fun _ => by rw [s_20]; rfl⟩, g2, mF_2⟩)
        · refine a_aload_n (i := 0) dX12_man_92 rfl rfl ?_
          refine gX12_124 rfl dX12_man_93 (isM_0 hM) ?_
          refine a_iload_n (i := 1) dX12_man_96 rfl rfl ?_
          refine a_ialdN dX12_man_97 (isM_66 hM) (by first | with_reducible exact rfl | with_reducible exact ix8 _ _ | with_reducible exact ix12 _ _ | exact rfl) (by exact Nat.lt_of_lt_of_le m8 (by decide)) (by decide) ?_
          rw [s3]
          exact a_iret dX12_man_98 (by exact ⟨⟨_, rfl, fun _ => by rw [s_20]; rfl⟩, g2, mF_2⟩)
        · refine a_aload_n (i := 0) dX12_man_99 rfl rfl ?_
          refine gX12_127 rfl dX12_man_100 (isM_0 hM) ?_
          refine a_iload_n (i := 1) dX12_man_103 rfl rfl ?_
          refine a_zaldN dX12_man_104 (isM_67 hM) (by first | with_reducible exact rfl | with_reducible exact ix8 _ _ | with_reducible exact ix12 _ _ | exact rfl) (by exact Nat.lt_of_lt_of_le m8 (by decide)) (by decide) ?_
          rw [s4]
          refine a_if_eq (tg := 112) dX12_man_105 (by decide) (fun c_105 => ?_) (fun c_105 => ?_)
          · have e5 : (Z.2 0 0).testBit m = false := by by_cases e : (Z.2 0 0).testBit m = true; rw [if_pos e] at c_105; exact absurd c_105 (by decide); exact Bool.eq_false_iff.mpr e
            refine a_iconst (v := 0) dX12_man_112 (by decide) ?_
            exact a_iret dX12_man_113 (by exact ⟨⟨_, rfl, fun _ => by rw [s_20, show qMan T Z m 5 = (if (Z.2 0 0).testBit m then 1 else 0) from rfl, e5]; rfl⟩, g2, mF_2⟩)
          · have e5 : (Z.2 0 0).testBit m = true := by by_cases e : (Z.2 0 0).testBit m = true; exact e; rw [if_neg e] at c_105; exact absurd rfl c_105
            refine a_iconst (v := 1) dX12_man_108 (by decide) ?_
            refine a_goto (tg := 113) dX12_man_109 (by decide) ?_
            exact a_iret dX12_man_113 (by exact ⟨⟨_, rfl, fun _ => by rw [s_20, show qMan T Z m 5 = (if (Z.2 0 0).testBit m then 1 else 0) from rfl, e5]; rfl⟩, g2, mF_2⟩)
        · refine a_aload_n (i := 0) dX12_man_114 rfl rfl ?_
          refine a_iconst (v := 0) dX12_man_115 (by decide) ?_
          refine a_iload_n (i := 1) dX12_man_116 rfl rfl ?_
          refine kX12_443 rfl dX12_man_117 (Nat.le_of_ble_eq_true rfl) (isM_0 hM) (pz) ?_
          exact a_iret dX12_man_120 (by exact ⟨⟨_, rfl, fun _ => by rw [s_20]; rfl⟩, g2, mF_2⟩)
        · exact absurd gw (w7 s_20_0 s_20_1 s_20_2 s_20_3 s_20_4 s_20_5 s_20_6)
      · exact absurd c_10 (by decide)
    · rw [if_pos gw]
      have nw : ∀ k : Nat, k < 7 → ¬ w = nI k := fun k hk e => gw (by rw [e]; exact zIn_nI (by decide) hk)
      refine a_aload_n (i := 0) dX12_man_0 rfl rfl ?_
      refine a_iconst (v := 0) dX12_man_1 (by decide) ?_
      refine pX12_175 rfl dX12_man_2 (isM_0 hM) ?_
      refine a_aload_n (i := 0) dX12_man_5 rfl rfl ?_
      refine a_iload_n (i := 1) dX12_man_6 rfl rfl ?_
      refine kX12_492 rfl dX12_man_7 (Nat.le_of_ble_eq_true rfl) (isM_0 hM) (im) ?_
      refine a_if_ne (tg := 19) dX12_man_10 (by decide) (fun c_10 => ?_) (fun c_10 => ?_)
      · refine a_iload_n (i := 2) dX12_man_19 rfl rfl ?_
        refine sX12_man_20 dX12_man_20 (fun s_20 => ?_) (fun s_20 => ?_) (fun s_20 => ?_) (fun s_20 => ?_) (fun s_20 => ?_) (fun s_20 => ?_) (fun s_20 => ?_) (fun s_20_0 s_20_1 s_20_2 s_20_3 s_20_4 s_20_5 s_20_6 => ?_)
        · exact absurd s_20 (nw 0 (by decide))
        · exact absurd s_20 (nw 1 (by decide))
        · exact absurd s_20 (nw 2 (by decide))
        · exact absurd s_20 (nw 3 (by decide))
        · exact absurd s_20 (nw 4 (by decide))
        · exact absurd s_20 (nw 5 (by decide))
        · exact absurd s_20 (nw 6 (by decide))
        · refine a_aload_n (i := 0) dX12_man_121 rfl rfl ?_
          refine a_iconst (v := 2) dX12_man_122 (by decide) ?_
          refine kX12_495 rfl dX12_man_123 (Nat.le_of_ble_eq_true rfl) (isM_0 hM) (c_X12_fails (c := 2) hM) ?_
          exact a_iret dX12_man_126 (by exact ⟨⟨_, rfl, fun e => absurd e (by decide)⟩, aWr_s _ _ _ _, mF_22⟩)
      · exact absurd c_10 (by decide)
  · rw [if_pos g]
    rw [bI_f g] at im
    refine a_aload_n (i := 0) dX12_man_0 rfl rfl ?_
    refine a_iconst (v := 0) dX12_man_1 (by decide) ?_
    refine pX12_175 rfl dX12_man_2 (isM_0 hM) ?_
    refine a_aload_n (i := 0) dX12_man_5 rfl rfl ?_
    refine a_iload_n (i := 1) dX12_man_6 rfl rfl ?_
    refine kX12_492 rfl dX12_man_7 (Nat.le_of_ble_eq_true rfl) (isM_0 hM) (im) ?_
    refine a_if_ne (tg := 19) dX12_man_10 (by decide) (fun c_10 => ?_) (fun c_10 => ?_)
    · exact absurd rfl c_10
    · refine a_aload_n (i := 0) dX12_man_13 rfl rfl ?_
      refine a_iconst (v := 1) dX12_man_14 (by decide) ?_
      refine kX12_495 rfl dX12_man_15 (Nat.le_of_ble_eq_true rfl) (isM_0 hM) (c_X12_fails (c := 1) hM) ?_
      exact a_iret dX12_man_18 (by exact ⟨⟨_, rfl, fun e => absurd e (by decide)⟩, aWr_s _ _ _ _, mF_22⟩)
theorem sh_bit {g m : Nat} (hg : g < 256) (hm : m < 8) : nI g >>> (nI m &&& 31) &&& 1 = if g.testBit m then 1 else 0 := by
  have a := sh1_t (n := g) (k := m) (by omega) (by omega)
  by_cases e : g.testBit m = true
  · rw [if_pos e]; exact a.mpr e
  · rw [if_neg e]
    obtain ⟨j, hj, ej⟩ := pk_andE (nI g >>> (nI m &&& 31)) (m := 1) 1 (by decide)
    rw [ej]
    rcases (by omega : j = 0 ∨ j = 1) with rfl | rfl
    · rfl
    · exact absurd (a.mp (by rw [ej]; rfl)) e
set_option maxHeartbeats 4000000 in
set_option maxRecDepth 100000 in
theorem c_X11_manOk {a w : Int32} (hD : aDC D) (h : cR T W Z x t) (g0 : manC T a w = 0) : aDI l mX11_man (d + 3) D [.ref bLH, .int a, .int w] x (qMan T Z a.toNatClampNeg w) x := by
  refine a_metI (by decide) (Nat.le_of_ble_eq_true rfl) rfl ?_
  obtain ⟨ht, hp, ok, hZ, hT, hW, hS⟩ := h
  have im := c_X11_isMan (l := l) (d := d + 2) (D := D) (a := a) hD ht hp hT
  unfold manC at g0
  by_cases g : zIn (T.1 1) a
  · rw [if_neg (fun e => e g)] at g0
    rw [bI_t g] at im
    by_cases gw : zIn 7 w
    · obtain ⟨m, hm, rfl⟩ := zIn_of (by have := ok.2.1; omega) g
      have m8 : m < 8 := by have := ok.2.1; omega
      rw [nI_clamp (by omega)]
      obtain ⟨s1, s2, s3⟩ := hS.2.2.2 m hm
      have t2 := hT.2.2.2.2.2.2.2.2.2.2.1 m hm
      have wd0 := hS.2.1
      have z256 := hZ.1
      have pz := cz_pinchOf (l := l) (d := d + 1) (D := D) (b := bNow) (t := t) (m := m) hD hbNow ht ok hZ hT hS hm
      refine a_aload_n (i := 0) dX11_man_0 rfl rfl ?_
      refine a_iload_n (i := 1) dX11_man_1 rfl rfl ?_
      refine kX11_125 rfl dX11_man_2 (Nat.le_of_ble_eq_true rfl) (isLH_0 hD) (im) ?_
      refine a_if_ne (tg := 18) dX11_man_5 (by decide) (fun c_5 => ?_) (fun c_5 => ?_)
      · refine a_iload_n (i := 2) dX11_man_18 rfl rfl ?_
        refine sX11_man_19 dX11_man_19 (fun s_19 => ?_) (fun s_19 => ?_) (fun s_19 => ?_) (fun s_19 => ?_) (fun s_19 => ?_) (fun s_19 => ?_) (fun s_19 => ?_) (fun s_19_0 s_19_1 s_19_2 s_19_3 s_19_4 s_19_5 s_19_6 => ?_)
        · refine a_aload_n (i := 0) dX11_man_60 rfl rfl ?_
          refine gX11_30 rfl dX11_man_61 (isLH_0 hD) ?_
          refine gX11_135 rfl dX11_man_64 (isS_0 hD hbNow) ?_
          refine a_iload_n (i := 1) dX11_man_67 rfl rfl ?_
          refine a_ialdN dX11_man_68 (isS_10 hD hbNow) (by first | with_reducible exact rfl | with_reducible exact ix8 _ _ | with_reducible exact ix12 _ _ | exact rfl) (by exact m8) (by decide) ?_
          rw [s1]
          exact a_iret dX11_man_69 (by rw [qMan, if_pos s_19]; exact ⟨rfl, rfl⟩)
        · refine a_aload_n (i := 0) dX11_man_70 rfl rfl ?_
          refine gX11_23 rfl dX11_man_71 (isLH_0 hD) ?_
          rw [hp]
          refine gX11_138 rfl dX11_man_74 (isT_0 hD ht) ?_
          refine a_iload_n (i := 1) dX11_man_77 rfl rfl ?_
          refine a_ialdN dX11_man_78 (isT_8 hD ht) (by first | with_reducible exact rfl | with_reducible exact ix8 _ _ | with_reducible exact ix12 _ _ | exact rfl) (by exact m8) (by decide) ?_
          rw [t2.2.2.1]
          exact a_iret dX11_man_79 (by rw [s_19]; exact ⟨rfl, rfl⟩)
        · refine a_aload_n (i := 0) dX11_man_80 rfl rfl ?_
          refine gX11_23 rfl dX11_man_81 (isLH_0 hD) ?_
          rw [hp]
          refine gX11_141 rfl dX11_man_84 (isT_0 hD ht) ?_
          refine a_iload_n (i := 1) dX11_man_87 rfl rfl ?_
          refine a_ialdN dX11_man_88 (isT_9 hD ht) (by first | with_reducible exact rfl | with_reducible exact ix8 _ _ | with_reducible exact ix12 _ _ | exact rfl) (by exact m8) (by decide) ?_
          rw [t2.2.2.2.1]
          exact a_iret dX11_man_89 (by rw [s_19]; exact ⟨rfl, rfl⟩)
        · refine a_aload_n (i := 0) dX11_man_90 rfl rfl ?_
          refine gX11_30 rfl dX11_man_91 (isLH_0 hD) ?_
          refine gX11_144 rfl dX11_man_94 (isS_0 hD hbNow) ?_
          refine a_iload_n (i := 1) dX11_man_97 rfl rfl ?_
          refine a_ialdN dX11_man_98 (isS_11 hD hbNow) (by first | with_reducible exact rfl | with_reducible exact ix8 _ _ | with_reducible exact ix12 _ _ | exact rfl) (by exact m8) (by decide) ?_
          rw [s2]
          exact a_iret dX11_man_99 (by rw [s_19]; exact ⟨rfl, rfl⟩)
        · refine a_aload_n (i := 0) dX11_man_100 rfl rfl ?_
          refine gX11_30 rfl dX11_man_101 (isLH_0 hD) ?_
          refine gX11_147 rfl dX11_man_104 (isS_0 hD hbNow) ?_
          refine a_iload_n (i := 1) dX11_man_107 rfl rfl ?_
          refine a_ialdN dX11_man_108 (isS_12 hD hbNow) (by first | with_reducible exact rfl | with_reducible exact ix8 _ _ | with_reducible exact ix12 _ _ | exact rfl) (by exact m8) (by decide) ?_
          rw [s3]
          exact a_iret dX11_man_109 (by rw [s_19]; exact ⟨rfl, rfl⟩)
        · refine a_aload_n (i := 0) dX11_man_110 rfl rfl ?_
          refine gX11_30 rfl dX11_man_111 (isLH_0 hD) ?_
          refine gX11_150 rfl dX11_man_114 (isS_0 hD hbNow) ?_
          rw [wd0]
          refine a_iload_n (i := 1) dX11_man_117 rfl rfl ?_
          refine a_ishr dX11_man_118 ?_
          refine a_iconst (v := 1) dX11_man_119 (by decide) ?_
          refine a_iand dX11_man_120 ?_
          rw [sh_bit z256 m8]
          exact a_iret dX11_man_121 (by rw [s_19]; exact ⟨rfl, rfl⟩)
        · refine a_aload_n (i := 0) dX11_man_122 rfl rfl ?_
          refine gX11_30 rfl dX11_man_123 (isLH_0 hD) ?_
          refine a_aload_n (i := 0) dX11_man_126 rfl rfl ?_
          refine gX11_23 rfl dX11_man_127 (isLH_0 hD) ?_
          rw [hp]
          refine a_iload_n (i := 1) dX11_man_130 rfl rfl ?_
          refine kX11_153 rfl dX11_man_131 (Nat.le_of_ble_eq_true rfl) (isS_0 hD hbNow) (pz) ?_
          exact a_iret dX11_man_134 (by rw [s_19]; exact ⟨rfl, rfl⟩)
        · exact absurd gw (w7 s_19_0 s_19_1 s_19_2 s_19_3 s_19_4 s_19_5 s_19_6)
      · exact absurd c_5 (by decide)
    · rw [if_pos gw] at g0; exact absurd g0 (by decide)
  · rw [if_pos g] at g0; exact absurd g0 (by decide)
end qBS
