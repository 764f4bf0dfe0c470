/-! see, strike, known. p = (how many, what): (years, man, corns, at least); years 0: a strike of the one in man's place -/
theorem aWr_o (x : aS) {a n i j : Nat} (v : Int32) (h : ¬ (a = n ∧ i = j)) : (aWr x n j v).1 a i = x.1 a i := by
  by_cases e : a = n
  · subst e; exact aWr_j x a v (fun g => h ⟨rfl, g⟩)
  · rw [aWr_n x j v e]
abbrev zG : Type := Nat → Nat × Nat × Int32 × Bool
def sgOk (T : zT) (p : Nat × zG) : Prop := p.1 ≤ 24 ∧ ∀ i, i < p.1 → (p.2 i).1 ≤ 60 ∧ ((p.2 i).1 = 0 → (p.2 i).2.1 < i) ∧ (¬ (p.2 i).1 = 0 → (p.2 i).2.1 < T.1 1)
def rG (p : Nat × zG) (x : aS) : Prop := x.1 bSn 0 = nI p.1 ∧ ∀ i, i < p.1 → ((p.2 i).1 = 0 → x.1 (bSn + 7) i = nI (p.2 i).2.1) ∧ (¬ (p.2 i).1 = 0 → x.1 (bSn + 7) i = -1 ∧ x.1 (bSn + 3) i = nI (p.2 i).1 ∧ x.1 (bSn + 4) i = nI (p.2 i).2.1 ∧ x.1 (bSn + 5) i = (p.2 i).2.2.1 ∧ x.1 (bSn + 6) i = bI (p.2 i).2.2.2)
def rGM (p : Nat × zG) (x : aS) : Prop := x.1 bM 78 = nI p.1 ∧ ∀ i, i < p.1 → x.1 (bM + 81) (4 * i) = (if (p.2 i).1 = 0 then -1 else nI (p.2 i).1) ∧ x.1 (bM + 81) (4 * i + 1) = nI (p.2 i).2.1 ∧ (¬ (p.2 i).1 = 0 → x.1 (bM + 81) (4 * i + 2) = (p.2 i).2.2.1 ∧ x.1 (bM + 81) (4 * i + 3) = bI (p.2 i).2.2.2)
def zPush (p : Nat × zG) (e : Nat × Nat × Int32 × Bool) : Nat × zG := (p.1 + 1, fun i => if i = p.1 then e else p.2 i)
theorem zPush_o {p : Nat × zG} {e : Nat × Nat × Int32 × Bool} {i : Nat} (h : i < p.1) : (zPush p e).2 i = p.2 i := if_neg (by omega)
theorem zPush_s {p : Nat × zG} {e : Nat × Nat × Int32 × Bool} : (zPush p e).2 p.1 = e := if_pos rfl
theorem sgOk_push {T : zT} {p : Nat × zG} {e : Nat × Nat × Int32 × Bool} (h : sgOk T p) (h24 : p.1 < 24) (h1 : e.1 ≤ 60) (h2 : e.1 = 0 → e.2.1 < p.1) (h3 : ¬ e.1 = 0 → e.2.1 < T.1 1) : sgOk T (zPush p e) := by
  refine ⟨by show p.1 + 1 ≤ 24; omega, fun i hi => ?_⟩
  have hi2 : i < p.1 + 1 := hi
  by_cases ei : i = p.1
  · subst ei
    rw [zPush_s]
    exact ⟨h1, h2, h3⟩
  · rw [zPush_o (by omega)]
    exact h.2 i (by omega)
def cSn (x y : aS) : Prop := ∀ n, n / 256 ≠ 9 → y.1 n = x.1 n ∧ y.2 n = x.2 n
def mSn (x y : aS) : Prop := (∀ n j, ¬ n = bM + 81 → ¬ (n = bM ∧ (j = 2 ∨ j = 78 ∨ j = 79)) → y.1 n j = x.1 n j) ∧ y.2 = x.2
section qL
variable {l : Launch} {d : Nat} {D : Nat → Bool} {T : zT} {W : Nat → zL} {Z : zS} {t : Nat} {x : aS} {p : Nat × zG}
def sSee (x : aS) (S : Nat) (y m c : Int32) (b : Bool) : aS := aWr (aWr (aWr (aWr (aWr (aWr x (bSn + 3) S y) (bSn + 4) S m) (bSn + 5) S c) (bSn + 6) S (bI b)) (bSn + 7) S (-1)) bSn 0 (nI (S + 1))
set_option maxHeartbeats 4000000 in
set_option maxRecDepth 100000 in
theorem c_X5_noteSight {S : Nat} {y m c : Int32} {b : Bool} (hD : aDC D) (hs : x.1 bSn 0 = nI S) (h24 : S ≤ 24) : aDI l mX5_noteSight d D [.ref bSn, .int y, .int m, .int c, .int (bI b)] x (if S < 24 then nI S else -1) (if S < 24 then sSee x S y m c b else x) := by
  refine a_metI (by decide) (Nat.le_of_ble_eq_true rfl) rfl ?_
  by_cases q : S < 24
  · rw [if_pos q, if_pos q]
    refine a_aload_n (i := 0) dX5_noteSight_0 rfl rfl ?_
    refine gX5_35 rfl dX5_noteSight_1 (isSn_0 hD) ?_
    rw [hs]
    refine a_bipush (v := 24) dX5_noteSight_4 (by decide) ?_
    refine a_icmp_lt (tg := 11) dX5_noteSight_6 (by decide) (fun c_6 => ?_) (fun c_6 => ?_)
    · refine a_aload_n (i := 0) dX5_noteSight_11 rfl rfl ?_
      refine gX5_15 rfl dX5_noteSight_12 (isSn_0 hD) ?_
      refine a_aload_n (i := 0) dX5_noteSight_15 rfl rfl ?_
      refine gX5_35 rfl dX5_noteSight_16 (isSn_0 hD) ?_
      rw [hs]
      refine a_iload_n (i := 1) dX5_noteSight_19 rfl rfl ?_
      refine a_iastN dX5_noteSight_20 (isSn_3 hD) (by first | with_reducible exact rfl | with_reducible exact ix8 _ _ | with_reducible exact ix12 _ _ | exact rfl) (by omega) (by decide) ?_
      refine a_aload_n (i := 0) dX5_noteSight_21 rfl rfl ?_
      refine gX5_19 rfl dX5_noteSight_22 (isSn_0 hD) ?_
      refine a_aload_n (i := 0) dX5_noteSight_25 rfl rfl ?_
      refine gX5_35 rfl dX5_noteSight_26 (isSn_0 hD) ?_
      rw [aWr_n _ _ _ (by decide), hs]
      refine a_iload_n (i := 2) dX5_noteSight_29 rfl rfl ?_
      refine a_iastN dX5_noteSight_30 (isSn_4 hD) (by first | with_reducible exact rfl | with_reducible exact ix8 _ _ | with_reducible exact ix12 _ _ | exact rfl) (by omega) (by decide) ?_
      refine a_aload_n (i := 0) dX5_noteSight_31 rfl rfl ?_
      refine gX5_22 rfl dX5_noteSight_32 (isSn_0 hD) ?_
      refine a_aload_n (i := 0) dX5_noteSight_35 rfl rfl ?_
      refine gX5_35 rfl dX5_noteSight_36 (isSn_0 hD) ?_
      rw [aWr_n _ _ _ (by decide), aWr_n _ _ _ (by decide), hs]
      refine a_iload_n (i := 3) dX5_noteSight_39 rfl rfl ?_
      refine a_iastN dX5_noteSight_40 (isSn_5 hD) (by first | with_reducible exact rfl | with_reducible exact ix8 _ _ | with_reducible exact ix12 _ _ | exact rfl) (by omega) (by decide) ?_
      refine a_aload_n (i := 0) dX5_noteSight_41 rfl rfl ?_
      refine gX5_25 rfl dX5_noteSight_42 (isSn_0 hD) ?_
      refine a_aload_n (i := 0) dX5_noteSight_45 rfl rfl ?_
      refine gX5_35 rfl dX5_noteSight_46 (isSn_0 hD) ?_
      rw [aWr_n _ _ _ (by decide), aWr_n _ _ _ (by decide), aWr_n _ _ _ (by decide), hs]
      refine a_iload (i := 4) dX5_noteSight_49 rfl ?_
      refine a_zastN dX5_noteSight_51 (isSn_6 hD) (by first | with_reducible exact rfl | with_reducible exact ix8 _ _ | with_reducible exact ix12 _ _ | exact rfl) (by omega) (by decide) (by exact bI_01 _) ?_
      refine a_aload_n (i := 0) dX5_noteSight_52 rfl rfl ?_
      refine gX5_29 rfl dX5_noteSight_53 (isSn_0 hD) ?_
      refine a_aload_n (i := 0) dX5_noteSight_56 rfl rfl ?_
      refine gX5_35 rfl dX5_noteSight_57 (isSn_0 hD) ?_
      rw [aWr_n _ _ _ (by decide), aWr_n _ _ _ (by decide), aWr_n _ _ _ (by decide), aWr_n _ _ _ (by decide), hs]
      refine a_iconst (v := (-1)) dX5_noteSight_60 (by decide) ?_
      refine a_iastN dX5_noteSight_61 (isSn_7 hD) (by first | with_reducible exact rfl | with_reducible exact ix8 _ _ | with_reducible exact ix12 _ _ | exact rfl) (by omega) (by decide) ?_
      refine a_aload_n (i := 0) dX5_noteSight_62 rfl rfl ?_
      refine a_dup dX5_noteSight_63 rfl ?_
      refine gX5_35 rfl dX5_noteSight_64 (isSn_0 hD) ?_
      rw [aWr_n _ _ _ (by decide), aWr_n _ _ _ (by decide), aWr_n _ _ _ (by decide), aWr_n _ _ _ (by decide), aWr_n _ _ _ (by decide), hs]
      refine a_iconst (v := 1) dX5_noteSight_67 (by decide) ?_
      refine a_iadd dX5_noteSight_68 ?_
      rw [nI_1]
      refine pX5_35 rfl dX5_noteSight_69 (isSn_0 hD) ?_
      refine a_aload_n (i := 0) dX5_noteSight_72 rfl rfl ?_
      refine gX5_35 rfl dX5_noteSight_73 (isSn_0 hD) ?_
      rw [aWr_s]
      refine a_iconst (v := 1) dX5_noteSight_76 (by decide) ?_
      refine a_isub dX5_noteSight_77 ?_
      rw [nI_pred]
      exact a_iret dX5_noteSight_78 (by exact ⟨rfl, rfl⟩)
    · exact absurd (nI_lt q (by decide)) c_6
  · have : S = 24 := by omega
    subst this
    rw [if_neg q, if_neg q]
    refine a_aload_n (i := 0) dX5_noteSight_0 rfl rfl ?_
    refine gX5_35 rfl dX5_noteSight_1 (isSn_0 hD) ?_
    rw [hs]
    refine a_bipush (v := 24) dX5_noteSight_4 (by decide) ?_
    refine a_icmp_lt (tg := 11) dX5_noteSight_6 (by decide) (fun c_6 => ?_) (fun c_6 => ?_)
    · exact absurd c_6 (by decide)
    · refine a_iconst (v := (-1)) dX5_noteSight_9 (by decide) ?_
      exact a_iret dX5_noteSight_10 (by exact ⟨rfl, rfl⟩)
abbrev zSeeC (T : zT) (y m c : Int32) : Prop := (1 ≤ y ∧ y ≤ 60) ∧ zIn (T.1 1) m ∧ (0 ≤ c ∧ c ≤ 99)
def zSeeP (T : zT) (p : Nat × zG) (y m c : Int32) (b : Bool) : Nat × zG := if zSeeC T y m c ∧ p.1 < 24 then zPush p (y.toNatClampNeg, m.toNatClampNeg, c, b) else p
def qSee (T : zT) (p : Nat × zG) (y m c : Int32) : Int32 := if zSeeC T y m c ∧ p.1 < 24 then nI p.1 else -1
theorem y60_of {y : Int32} (h : 1 ≤ y ∧ y ≤ 60) : ∃ k, k ≤ 60 ∧ ¬ k = 0 ∧ y = nI k := by
  obtain ⟨k, hk, rfl⟩ := nI_of2 (x := y) (M := 60) (n := 60) (by decide) (Int32.not_lt.mpr (Int32.le_trans (by decide) h.1)) h.2
  refine ⟨k, hk, fun e => ?_, rfl⟩
  subst e
  exact absurd h.1 (by decide)
theorem rG_see {y m : Nat} {c : Int32} {b : Bool} (h : rG p x) (hy : ¬ y = 0) : rG (zPush p (y, m, c, b)) (sSee x p.1 (nI y) (nI m) c b) ∧ (sSee x p.1 (nI y) (nI m) c b).1 bSn 1 = x.1 bSn 1 ∧ cSn x (sSee x p.1 (nI y) (nI m) c b) := by
  refine ⟨⟨?_, fun i hi => ?_⟩, ?_, fun n hn => ?_⟩
  · unfold sSee; rw [aWr_s]; rfl
  · have hi2 : i < p.1 + 1 := hi
    by_cases ei : i = p.1
    · subst ei
      rw [zPush_s]
      refine ⟨fun g => absurd g hy, fun _ => ?_⟩
      unfold sSee
      refine ⟨?_, ?_, ?_, ?_, ?_⟩
      · rw [aWr_n _ _ _ (by decide), aWr_s]
      · rw [aWr_n _ _ _ (by decide), aWr_n _ _ _ (by decide), aWr_n _ _ _ (by decide), aWr_n _ _ _ (by decide), aWr_n _ _ _ (by decide), aWr_s]
      · rw [aWr_n _ _ _ (by decide), aWr_n _ _ _ (by decide), aWr_n _ _ _ (by decide), aWr_n _ _ _ (by decide), aWr_s]
      · rw [aWr_n _ _ _ (by decide), aWr_n _ _ _ (by decide), aWr_n _ _ _ (by decide), aWr_s]
      · rw [aWr_n _ _ _ (by decide), aWr_n _ _ _ (by decide), aWr_s]
    · rw [zPush_o (by omega)]
      have e : ∀ k, k = 3 ∨ k = 4 ∨ k = 5 ∨ k = 6 ∨ k = 7 → (sSee x p.1 (nI y) (nI m) c b).1 (bSn + k) i = x.1 (bSn + k) i := by
        intro k hk
        unfold sSee
        rw [aWr_o _ _ (by omega), aWr_o _ _ (by omega), aWr_o _ _ (by omega), aWr_o _ _ (by omega), aWr_o _ _ (by omega), aWr_o _ _ (by omega)]
      obtain ⟨g1, g2⟩ := h.2 i (by omega)
      refine ⟨fun g => ?_, fun g => ?_⟩
      · rw [e 7 (by omega)]; exact g1 g
      · rw [e 7 (by omega), e 3 (by omega), e 4 (by omega), e 5 (by omega), e 6 (by omega)]; exact g2 g
  · unfold sSee; rw [aWr_j _ _ _ (by decide), aWr_n _ _ _ (by decide), aWr_n _ _ _ (by decide), aWr_n _ _ _ (by decide), aWr_n _ _ _ (by decide), aWr_n _ _ _ (by decide)]
  · refine ⟨?_, rfl⟩
    unfold sSee
    rw [aWr_n _ _ _ (fun e => hn (by subst e; decide)), aWr_n _ _ _ (fun e => hn (by subst e; decide)), aWr_n _ _ _ (fun e => hn (by subst e; decide)), aWr_n _ _ _ (fun e => hn (by subst e; decide)), aWr_n _ _ _ (fun e => hn (by subst e; decide)), aWr_n _ _ _ (fun e => hn (by subst e; decide))]
theorem cSn_r : cSn x x := fun _ _ => ⟨rfl, rfl⟩
set_option maxHeartbeats 4000000 in
set_option maxRecDepth 100000 in
theorem c_X11_see {y m c : Int32} {b : Bool} (hD : aDC D) (h : cR T W Z x t) (hg : rG p x) (hk : p.1 ≤ 24) : aCt l mX11_see (d + 1) D [.ref bLH, .int y, .int m, .int c, .int (bI b)] x (fun v z => v = some (.int (qSee T p y m c)) ∧ rG (zSeeP T p y m c b) z ∧ z.1 bSn 1 = x.1 bSn 1 ∧ cSn x z) := by
  obtain ⟨ht, hp, ok, hZ, hT, hW, hS⟩ := h
  have h8 := ok.2.1
  refine a_met (by decide) (Nat.le_of_ble_eq_true rfl) (fun v y q => Or.inl ⟨rfl, _, q.1⟩) ?_
  unfold qSee zSeeP
  by_cases q : zSeeC T y m c
  · have hc := c_X5_noteSight (l := l) (d := d) (D := D) (y := y) (m := m) (c := c) (b := b) hD hg.1 hk
    obtain ⟨q1, q2, q3⟩ := q
    by_cases q24 : p.1 < 24
    · rw [if_pos ⟨⟨q1, q2, q3⟩, q24⟩, if_pos ⟨⟨q1, q2, q3⟩, q24⟩]
      rw [if_pos q24, if_pos q24] at hc
      obtain ⟨Y, hY, hY0, rfl⟩ := y60_of q1
      obtain ⟨M, hM, rfl⟩ := zIn_of (by omega) q2
      rw [nI_clamp (by omega), nI_clamp (by omega)]
      have r := rG_see (m := M) (c := c) (b := b) hg hY0
      refine a_iload_n (i := 1) dX11_see_0 rfl rfl ?_
      refine a_iconst (v := 1) dX11_see_1 (by decide) ?_
      refine a_icmp_lt (tg := 29) dX11_see_2 (by decide) (fun c_2 => ?_) (fun c_2 => ?_)
      · exact absurd q1.1 (Int32.not_le.mpr c_2)
      · refine a_iload_n (i := 1) dX11_see_5 rfl rfl ?_
        refine a_bipush (v := 60) dX11_see_6 (by decide) ?_
        refine a_icmp_gt (tg := 29) dX11_see_8 (by decide) (fun c_8 => ?_) (fun c_8 => ?_)
        · exact absurd q1.2 (Int32.not_le.mpr c_8)
        · refine a_aload_n (i := 0) dX11_see_11 rfl rfl ?_
          refine a_iload_n (i := 2) dX11_see_12 rfl rfl ?_
          refine kX11_125 rfl dX11_see_13 (Nat.le_of_ble_eq_true rfl) (isLH_0 hD) (c_X11_isMan hD ht hp hT) ?_
          refine a_if_eq (tg := 29) dX11_see_16 (by decide) (fun c_16 => ?_) (fun c_16 => ?_)
          · exact absurd c_16 (bI_p.mpr q2)
          · refine a_iload_n (i := 3) dX11_see_19 rfl rfl ?_
            refine a_if_lt (tg := 29) dX11_see_20 (by decide) (fun c_20 => ?_) (fun c_20 => ?_)
            · exact absurd q3.1 (Int32.not_le.mpr c_20)
            · refine a_iload_n (i := 3) dX11_see_23 rfl rfl ?_
              refine a_bipush (v := 99) dX11_see_24 (by decide) ?_
              refine a_icmp_le (tg := 31) dX11_see_26 (by decide) (fun c_26 => ?_) (fun c_26 => ?_)
              · refine a_aload_n (i := 0) dX11_see_31 rfl rfl ?_
                refine gX11_50 rfl dX11_see_32 (isLH_0 hD) ?_
                refine a_iload_n (i := 1) dX11_see_35 rfl rfl ?_
                refine a_iload_n (i := 2) dX11_see_36 rfl rfl ?_
                refine a_iload_n (i := 3) dX11_see_37 rfl rfl ?_
                refine a_iload (i := 4) dX11_see_38 rfl ?_
                refine kX11_334 rfl dX11_see_40 (Nat.le_of_ble_eq_true rfl) (isSn_0 hD) (hc) ?_
                exact a_iret dX11_see_43 (by exact ⟨rfl, r⟩)
              · exact absurd q3.2 c_26
    · rw [if_neg (fun g => q24 g.2), if_neg (fun g => q24 g.2)]
      rw [if_neg q24, if_neg q24] at hc
      refine a_iload_n (i := 1) dX11_see_0 rfl rfl ?_
      refine a_iconst (v := 1) dX11_see_1 (by decide) ?_
      refine a_icmp_lt (tg := 29) dX11_see_2 (by decide) (fun c_2 => ?_) (fun c_2 => ?_)
      · exact absurd q1.1 (Int32.not_le.mpr c_2)
      · refine a_iload_n (i := 1) dX11_see_5 rfl rfl ?_
        refine a_bipush (v := 60) dX11_see_6 (by decide) ?_
        refine a_icmp_gt (tg := 29) dX11_see_8 (by decide) (fun c_8 => ?_) (fun c_8 => ?_)
        · exact absurd q1.2 (Int32.not_le.mpr c_8)
        · refine a_aload_n (i := 0) dX11_see_11 rfl rfl ?_
          refine a_iload_n (i := 2) dX11_see_12 rfl rfl ?_
          refine kX11_125 rfl dX11_see_13 (Nat.le_of_ble_eq_true rfl) (isLH_0 hD) (c_X11_isMan hD ht hp hT) ?_
          refine a_if_eq (tg := 29) dX11_see_16 (by decide) (fun c_16 => ?_) (fun c_16 => ?_)
          · exact absurd c_16 (bI_p.mpr q2)
          · refine a_iload_n (i := 3) dX11_see_19 rfl rfl ?_
            refine a_if_lt (tg := 29) dX11_see_20 (by decide) (fun c_20 => ?_) (fun c_20 => ?_)
            · exact absurd q3.1 (Int32.not_le.mpr c_20)
            · refine a_iload_n (i := 3) dX11_see_23 rfl rfl ?_
              refine a_bipush (v := 99) dX11_see_24 (by decide) ?_
              refine a_icmp_le (tg := 31) dX11_see_26 (by decide) (fun c_26 => ?_) (fun c_26 => ?_)
              · refine a_aload_n (i := 0) dX11_see_31 rfl rfl ?_
                refine gX11_50 rfl dX11_see_32 (isLH_0 hD) ?_
                refine a_iload_n (i := 1) dX11_see_35 rfl rfl ?_
                refine a_iload_n (i := 2) dX11_see_36 rfl rfl ?_
                refine a_iload_n (i := 3) dX11_see_37 rfl rfl ?_
                refine a_iload (i := 4) dX11_see_38 rfl ?_
                refine kX11_334 rfl dX11_see_40 (Nat.le_of_ble_eq_true rfl) (isSn_0 hD) (hc) ?_
                exact a_iret dX11_see_43 (by exact ⟨rfl, hg, rfl, cSn_r⟩)
              · exact absurd q3.2 c_26
  · rw [if_neg (fun g => q g.1), if_neg (fun g => q g.1)]
    refine a_iload_n (i := 1) dX11_see_0 rfl rfl ?_
    refine a_iconst (v := 1) dX11_see_1 (by decide) ?_
    refine a_icmp_lt (tg := 29) dX11_see_2 (by decide) (fun c_2 => ?_) (fun c_2 => ?_)
    · refine a_iconst (v := (-1)) dX11_see_29 (by decide) ?_
      exact a_iret dX11_see_30 (by exact ⟨rfl, hg, rfl, cSn_r⟩)
    · refine a_iload_n (i := 1) dX11_see_5 rfl rfl ?_
      refine a_bipush (v := 60) dX11_see_6 (by decide) ?_
      refine a_icmp_gt (tg := 29) dX11_see_8 (by decide) (fun c_8 => ?_) (fun c_8 => ?_)
      · refine a_iconst (v := (-1)) dX11_see_29 (by decide) ?_
        exact a_iret dX11_see_30 (by exact ⟨rfl, hg, rfl, cSn_r⟩)
      · refine a_aload_n (i := 0) dX11_see_11 rfl rfl ?_
        refine a_iload_n (i := 2) dX11_see_12 rfl rfl ?_
        refine kX11_125 rfl dX11_see_13 (Nat.le_of_ble_eq_true rfl) (isLH_0 hD) (c_X11_isMan hD ht hp hT) ?_
        refine a_if_eq (tg := 29) dX11_see_16 (by decide) (fun c_16 => ?_) (fun c_16 => ?_)
        · refine a_iconst (v := (-1)) dX11_see_29 (by decide) ?_
          exact a_iret dX11_see_30 (by exact ⟨rfl, hg, rfl, cSn_r⟩)
        · refine a_iload_n (i := 3) dX11_see_19 rfl rfl ?_
          refine a_if_lt (tg := 29) dX11_see_20 (by decide) (fun c_20 => ?_) (fun c_20 => ?_)
          · refine a_iconst (v := (-1)) dX11_see_29 (by decide) ?_
            exact a_iret dX11_see_30 (by exact ⟨rfl, hg, rfl, cSn_r⟩)
          · refine a_iload_n (i := 3) dX11_see_23 rfl rfl ?_
            refine a_bipush (v := 99) dX11_see_24 (by decide) ?_
            refine a_icmp_le (tg := 31) dX11_see_26 (by decide) (fun c_26 => ?_) (fun c_26 => ?_)
            · exact absurd ⟨⟨Int32.not_lt.mp c_2, Int32.not_lt.mp c_8⟩, bI_p.mp c_16, Int32.not_lt.mp c_20, c_26⟩ q
            · refine a_iconst (v := (-1)) dX11_see_29 (by decide) ?_
              exact a_iret dX11_see_30 (by exact ⟨rfl, hg, rfl, cSn_r⟩)
def mNote (x : aS) (S : Nat) (t m u w : Int32) : aS := aWr (aWr (aWr (aWr (aWr x (bM + 81) (4 * S) t) (bM + 81) (4 * S + 1) m) (bM + 81) (4 * S + 2) u) (bM + 81) (4 * S + 3) w) bM 78 (nI (S + 1))
theorem il4 (a : Nat) : 4 * nI a = nI (4 * a) := by rw [show (4 : Int32) = nI 4 from rfl, pk_mul]
set_option maxHeartbeats 4000000 in
set_option maxRecDepth 100000 in
theorem c_X12_noted {S : Nat} {t m u w : Int32} (hM : D 12 = true) (hs : x.1 bM 78 = nI S) (h24 : S < 24) : aDI l mX12_noted d D [.ref bM, .int t, .int m, .int u, .int w] x (nI S) (mNote x S t m u w) := by
  refine a_metI (by decide) (Nat.le_of_ble_eq_true rfl) rfl ?_
  have i1 : nI (4 * S) + 1 = nI (4 * S + 1) := nI_add _ 1
  have i2 : nI (4 * S) + 2 = nI (4 * S + 2) := nI_add _ 2
  have i3 : nI (4 * S) + 3 = nI (4 * S + 3) := nI_add _ 3
  refine a_aload_n (i := 0) dX12_noted_0 rfl rfl ?_
  refine gX12_148 rfl dX12_noted_1 (isM_0 hM) ?_
  refine a_iconst (v := 4) dX12_noted_4 (by decide) ?_
  refine a_aload_n (i := 0) dX12_noted_5 rfl rfl ?_
  refine gX12_398 rfl dX12_noted_6 (isM_0 hM) ?_
  rw [hs]
  refine a_imul dX12_noted_9 ?_
  rw [il4]
  refine a_iload_n (i := 1) dX12_noted_10 rfl rfl ?_
  refine a_iastN dX12_noted_11 (isM_81 hM) (by first | with_reducible exact rfl | with_reducible exact ix8 _ _ | with_reducible exact ix12 _ _ | exact rfl) (by omega) (by decide) ?_
  refine a_aload_n (i := 0) dX12_noted_12 rfl rfl ?_
  refine gX12_148 rfl dX12_noted_13 (isM_0 hM) ?_
  refine a_iconst (v := 4) dX12_noted_16 (by decide) ?_
  refine a_aload_n (i := 0) dX12_noted_17 rfl rfl ?_
  refine gX12_398 rfl dX12_noted_18 (isM_0 hM) ?_
  rw [aWr_n _ _ _ (by decide), hs]
  refine a_imul dX12_noted_21 ?_
  rw [il4]
  refine a_iconst (v := 1) dX12_noted_22 (by decide) ?_
  refine a_iadd dX12_noted_23 ?_
  rw [i1]
  refine a_iload_n (i := 2) dX12_noted_24 rfl rfl ?_
  refine a_iastN dX12_noted_25 (isM_81 hM) (by first | with_reducible exact rfl | with_reducible exact ix8 _ _ | with_reducible exact ix12 _ _ | exact rfl) (by omega) (by decide) ?_
  refine a_aload_n (i := 0) dX12_noted_26 rfl rfl ?_
  refine gX12_148 rfl dX12_noted_27 (isM_0 hM) ?_
  refine a_iconst (v := 4) dX12_noted_30 (by decide) ?_
  refine a_aload_n (i := 0) dX12_noted_31 rfl rfl ?_
  refine gX12_398 rfl dX12_noted_32 (isM_0 hM) ?_
  rw [aWr_n _ _ _ (by decide), aWr_n _ _ _ (by decide), hs]
  refine a_imul dX12_noted_35 ?_
  rw [il4]
  refine a_iconst (v := 2) dX12_noted_36 (by decide) ?_
  refine a_iadd dX12_noted_37 ?_
  rw [i2]
  refine a_iload_n (i := 3) dX12_noted_38 rfl rfl ?_
  refine a_iastN dX12_noted_39 (isM_81 hM) (by first | with_reducible exact rfl | with_reducible exact ix8 _ _ | with_reducible exact ix12 _ _ | exact rfl) (by omega) (by decide) ?_
  refine a_aload_n (i := 0) dX12_noted_40 rfl rfl ?_
  refine gX12_148 rfl dX12_noted_41 (isM_0 hM) ?_
  refine a_iconst (v := 4) dX12_noted_44 (by decide) ?_
  refine a_aload_n (i := 0) dX12_noted_45 rfl rfl ?_
  refine gX12_398 rfl dX12_noted_46 (isM_0 hM) ?_
  rw [aWr_n _ _ _ (by decide), aWr_n _ _ _ (by decide), aWr_n _ _ _ (by decide), hs]
  refine a_imul dX12_noted_49 ?_
  rw [il4]
  refine a_iconst (v := 3) dX12_noted_50 (by decide) ?_
  refine a_iadd dX12_noted_51 ?_
  rw [i3]
  refine a_iload (i := 4) dX12_noted_52 rfl ?_
  refine a_iastN dX12_noted_54 (isM_81 hM) (by first | with_reducible exact rfl | with_reducible exact ix8 _ _ | with_reducible exact ix12 _ _ | exact rfl) (by omega) (by decide) ?_
  refine a_aload_n (i := 0) dX12_noted_55 rfl rfl ?_
  refine a_dup dX12_noted_56 rfl ?_
  refine gX12_398 rfl dX12_noted_57 (isM_0 hM) ?_
  rw [aWr_n _ _ _ (by decide), aWr_n _ _ _ (by decide), aWr_n _ _ _ (by decide), aWr_n _ _ _ (by decide), hs]
  refine a_iconst (v := 1) dX12_noted_60 (by decide) ?_
  refine a_iadd dX12_noted_61 ?_
  rw [nI_1]
  refine pX12_398 rfl dX12_noted_62 (isM_0 hM) ?_
  refine a_aload_n (i := 0) dX12_noted_65 rfl rfl ?_
  refine gX12_398 rfl dX12_noted_66 (isM_0 hM) ?_
  rw [aWr_s]
  refine a_iconst (v := 1) dX12_noted_69 (by decide) ?_
  refine a_isub dX12_noted_70 ?_
  rw [nI_pred]
  exact a_iret dX12_noted_71 (by exact ⟨rfl, rfl⟩)
theorem rGM_note {e : Nat × Nat × Int32 × Bool} {t u w : Int32} (h : rGM p x) (ht : t = if e.1 = 0 then -1 else nI e.1) (hu : ¬ e.1 = 0 → u = e.2.2.1 ∧ w = bI e.2.2.2) : rGM (zPush p e) (mNote x p.1 t (nI e.2.1) u w) ∧ (mNote x p.1 t (nI e.2.1) u w).1 bM 79 = x.1 bM 79 ∧ mSn x (mNote x p.1 t (nI e.2.1) u w) := by
  have e0 : ∀ j, (mNote x p.1 t (nI e.2.1) u w).1 (bM + 81) j = if j = 4 * p.1 + 3 then w else if j = 4 * p.1 + 2 then u else if j = 4 * p.1 + 1 then nI e.2.1 else if j = 4 * p.1 then t else x.1 (bM + 81) j := by
    intro j
    unfold mNote
    rw [aWr_n _ _ _ (by decide)]
    first | rfl | simp [aWr]
  refine ⟨⟨?_, fun i hi => ?_⟩, ?_, fun n j h1 h2 => ?_, rfl⟩
  · unfold mNote; rw [aWr_s]; rfl
  · have hi2 : i < p.1 + 1 := hi
    by_cases ei : i = p.1
    · subst ei
      rw [zPush_s]
      refine ⟨?_, ?_, fun g => ⟨?_, ?_⟩⟩
      · rw [e0, if_neg (by omega), if_neg (by omega), if_neg (by omega), if_pos rfl, ht]
      · rw [e0, if_neg (by omega), if_neg (by omega), if_pos rfl]
      · rw [e0, if_neg (by omega), if_pos rfl, (hu g).1]
      · rw [e0, if_pos rfl, (hu g).2]
    · rw [zPush_o (by omega)]
      have e1 : ∀ k, k < 4 → (mNote x p.1 t (nI e.2.1) u w).1 (bM + 81) (4 * i + k) = x.1 (bM + 81) (4 * i + k) := fun k hk => by rw [e0, if_neg (by omega), if_neg (by omega), if_neg (by omega), if_neg (by omega)]
      have e10 : (mNote x p.1 t (nI e.2.1) u w).1 (bM + 81) (4 * i) = x.1 (bM + 81) (4 * i) := e1 0 (by omega)
      rw [e10, e1 1 (by omega), e1 2 (by omega), e1 3 (by omega)]
      exact h.2 i (by omega)
  · unfold mNote; rw [aWr_j _ _ _ (by decide), aWr_n _ _ _ (by decide), aWr_n _ _ _ (by decide), aWr_n _ _ _ (by decide), aWr_n _ _ _ (by decide)]
  · unfold mNote
    by_cases en : n = bM
    · subst en
      rw [aWr_j _ _ _ (fun e => h2 ⟨rfl, Or.inr (Or.inl e)⟩), aWr_n _ _ _ (by decide), aWr_n _ _ _ (by decide), aWr_n _ _ _ (by decide), aWr_n _ _ _ (by decide)]
    · rw [aWr_n _ _ _ en, aWr_n _ _ _ h1, aWr_n _ _ _ h1, aWr_n _ _ _ h1, aWr_n _ _ _ h1]
theorem mSn_0 : mSn x (aWr x bM 2 0) := ⟨fun n j _ h2 => by
  by_cases e : n = bM
  · subst e; exact aWr_j _ _ _ (fun e => h2 ⟨rfl, Or.inl e⟩)
  · rw [aWr_n _ _ _ e], rfl⟩
theorem mSn_t {y z : aS} (h1 : mSn x y) (h2 : mSn y z) : mSn x z := ⟨fun n j a b => (h2.1 n j a b).trans (h1.1 n j a b), h2.2.trans h1.2⟩
theorem rGM_0 (h : rGM p x) : rGM p (aWr x bM 2 0) := by
  refine ⟨by rw [aWr_j _ _ _ (by decide)]; exact h.1, fun i hi => ?_⟩
  rw [aWr_n _ _ _ (by decide)]
  exact h.2 i hi
set_option maxHeartbeats 4000000 in
set_option maxRecDepth 100000 in
theorem c_X12_see {y m c : Int32} {b : Bool} (hM : D 12 = true) (h : mR T W Z x) (hg : rGM p x) (hk : p.1 ≤ 24) : aCt l mX12_see (d + 1) D [.ref bM, .int y, .int m, .int c, .int (bI b)] x (fun v z => v = some (.int (qSee T p y m c)) ∧ rGM (zSeeP T p y m c b) z ∧ z.1 bM 79 = x.1 bM 79 ∧ mSn x z) := by
  obtain ⟨ok, hZ, hT, hW, hS⟩ := mR_0 h
  have h8 := ok.2.1
  have hg0 := rGM_0 hg
  have hs0 : mSn x (aWr x bM 2 0) := mSn_0
  have h79 : (aWr x bM 2 0).1 bM 79 = x.1 bM 79 := aWr_j _ _ _ (by decide)
  refine a_met (by decide) (Nat.le_of_ble_eq_true rfl) (fun v y q => Or.inl ⟨rfl, _, q.1⟩) ?_
  refine a_aload_n (i := 0) dX12_see_0 rfl rfl ?_
  refine a_iconst (v := 0) dX12_see_1 (by decide) ?_
  refine pX12_175 rfl dX12_see_2 (isM_0 hM) ?_
  refine a_loc [(0, .ref bM), (1, .int y), (2, .int m), (3, .int c), (4, .int (bI b))] rfl ?_
  generalize aWr x bM 2 0 = w at *
  unfold qSee zSeeP
  by_cases q : zSeeC T y m c
  · obtain ⟨q1, q2, q3⟩ := q
    by_cases q24 : p.1 < 24
    · rw [if_pos ⟨⟨q1, q2, q3⟩, q24⟩, if_pos ⟨⟨q1, q2, q3⟩, q24⟩]
      obtain ⟨Y, hY, hY0, rfl⟩ := y60_of q1
      obtain ⟨M, hM2, rfl⟩ := zIn_of (by omega) q2
      rw [nI_clamp (by omega), nI_clamp (by omega)]
      have r := rGM_note (e := (Y, M, c, b)) (t := nI Y) (u := c) (w := bI b) hg0 (by rw [if_neg hY0]) (fun _ => ⟨rfl, rfl⟩)
      have n24 : ¬ nI p.1 = 24 := fun g => absurd ((nI_eq (a := p.1) (b := 24) (by omega) (by decide)).mp g) (by omega)
      cases b with
      | false =>
        refine a_aload_n (i := 0) dX12_see_5 rfl rfl ?_
        refine gX12_398 rfl dX12_see_6 (isM_0 hM) ?_
        rw [hg0.1]
        refine a_bipush (v := 24) dX12_see_9 (by decide) ?_
        refine a_icmp_eq (tg := 42) dX12_see_11 (by decide) (fun c_11 => ?_) (fun c_11 => ?_)
        · exact absurd c_11 n24
        · refine a_iload_n (i := 1) dX12_see_14 rfl rfl ?_
          refine a_iconst (v := 1) dX12_see_15 (by decide) ?_
          refine a_bipush (v := 60) dX12_see_16 (by decide) ?_
          refine kX12_220 rfl dX12_see_18 (Nat.le_of_ble_eq_true rfl) (c_X12_isIn) ?_
          refine a_if_eq (tg := 42) dX12_see_21 (by decide) (fun c_21 => ?_) (fun c_21 => ?_)
          · exact absurd c_21 (bI_p.mpr q1)
          · refine a_aload_n (i := 0) dX12_see_24 rfl rfl ?_
            refine a_iload_n (i := 2) dX12_see_25 rfl rfl ?_
            refine kX12_492 rfl dX12_see_26 (Nat.le_of_ble_eq_true rfl) (isM_0 hM) (c_X12_isMan hM hT) ?_
            refine a_if_eq (tg := 42) dX12_see_29 (by decide) (fun c_29 => ?_) (fun c_29 => ?_)
            · exact absurd c_29 (bI_p.mpr q2)
            · refine a_iload_n (i := 3) dX12_see_32 rfl rfl ?_
              refine a_iconst (v := 0) dX12_see_33 (by decide) ?_
              refine a_bipush (v := 99) dX12_see_34 (by decide) ?_
              refine kX12_220 rfl dX12_see_36 (Nat.le_of_ble_eq_true rfl) (c_X12_isIn) ?_
              refine a_if_ne (tg := 46) dX12_see_39 (by decide) (fun c_39 => ?_) (fun c_39 => ?_)
              · refine a_aload_n (i := 0) dX12_see_46 rfl rfl ?_
                refine a_iload_n (i := 1) dX12_see_47 rfl rfl ?_
                refine a_iload_n (i := 2) dX12_see_48 rfl rfl ?_
                refine a_iload_n (i := 3) dX12_see_49 rfl rfl ?_
                refine a_iload (i := 4) dX12_see_50 rfl ?_
                refine a_if_eq (tg := 59) dX12_see_52 (by decide) (fun c_52 => ?_) (fun c_52 => ?_)
                · refine a_iconst (v := 0) dX12_see_59 (by decide) ?_
                  refine kX12_553 rfl dX12_see_60 (Nat.le_of_ble_eq_true rfl) (isM_0 hM) (c_X12_noted hM hg0.1 q24) ?_
                  exact a_iret dX12_see_63 (by exact ⟨rfl, r.1, r.2.1.trans h79, mSn_t hs0 r.2.2⟩)
                · exact absurd rfl c_52
              · exact absurd c_39 (bI_p.mpr q3)
      | true =>
        refine a_aload_n (i := 0) dX12_see_5 rfl rfl ?_
        refine gX12_398 rfl dX12_see_6 (isM_0 hM) ?_
        rw [hg0.1]
        refine a_bipush (v := 24) dX12_see_9 (by decide) ?_
        refine a_icmp_eq (tg := 42) dX12_see_11 (by decide) (fun c_11 => ?_) (fun c_11 => ?_)
        · exact absurd c_11 n24
        · refine a_iload_n (i := 1) dX12_see_14 rfl rfl ?_
          refine a_iconst (v := 1) dX12_see_15 (by decide) ?_
          refine a_bipush (v := 60) dX12_see_16 (by decide) ?_
          refine kX12_220 rfl dX12_see_18 (Nat.le_of_ble_eq_true rfl) (c_X12_isIn) ?_
          refine a_if_eq (tg := 42) dX12_see_21 (by decide) (fun c_21 => ?_) (fun c_21 => ?_)
          · exact absurd c_21 (bI_p.mpr q1)
          · refine a_aload_n (i := 0) dX12_see_24 rfl rfl ?_
            refine a_iload_n (i := 2) dX12_see_25 rfl rfl ?_
            refine kX12_492 rfl dX12_see_26 (Nat.le_of_ble_eq_true rfl) (isM_0 hM) (c_X12_isMan hM hT) ?_
            refine a_if_eq (tg := 42) dX12_see_29 (by decide) (fun c_29 => ?_) (fun c_29 => ?_)
            · exact absurd c_29 (bI_p.mpr q2)
            · refine a_iload_n (i := 3) dX12_see_32 rfl rfl ?_
              refine a_iconst (v := 0) dX12_see_33 (by decide) ?_
              refine a_bipush (v := 99) dX12_see_34 (by decide) ?_
              refine kX12_220 rfl dX12_see_36 (Nat.le_of_ble_eq_true rfl) (c_X12_isIn) ?_
              refine a_if_ne (tg := 46) dX12_see_39 (by decide) (fun c_39 => ?_) (fun c_39 => ?_)
              · refine a_aload_n (i := 0) dX12_see_46 rfl rfl ?_
                refine a_iload_n (i := 1) dX12_see_47 rfl rfl ?_
                refine a_iload_n (i := 2) dX12_see_48 rfl rfl ?_
                refine a_iload_n (i := 3) dX12_see_49 rfl rfl ?_
                refine a_iload (i := 4) dX12_see_50 rfl ?_
                refine a_if_eq (tg := 59) dX12_see_52 (by decide) (fun c_52 => ?_) (fun c_52 => ?_)
                · exact absurd c_52 (by decide)
                · refine a_iconst (v := 1) dX12_see_55 (by decide) ?_
                  refine a_goto (tg := 60) dX12_see_56 (by decide) ?_
                  refine kX12_553 rfl dX12_see_60 (Nat.le_of_ble_eq_true rfl) (isM_0 hM) (c_X12_noted hM hg0.1 q24) ?_
                  exact a_iret dX12_see_63 (by exact ⟨rfl, r.1, r.2.1.trans h79, mSn_t hs0 r.2.2⟩)
              · exact absurd c_39 (bI_p.mpr q3)
    · rw [if_neg (fun g => q24 g.2), if_neg (fun g => q24 g.2)]
      have e24 : p.1 = 24 := by omega
      have n24 : nI p.1 = 24 := by rw [e24]; rfl
      refine a_aload_n (i := 0) dX12_see_5 rfl rfl ?_
      refine gX12_398 rfl dX12_see_6 (isM_0 hM) ?_
      rw [hg0.1]
      refine a_bipush (v := 24) dX12_see_9 (by decide) ?_
      refine a_icmp_eq (tg := 42) dX12_see_11 (by decide) (fun c_11 => ?_) (fun c_11 => ?_)
      · refine a_iconst (v := (-1)) dX12_see_42 (by decide) ?_
        refine a_goto (tg := 63) dX12_see_43 (by decide) ?_
        exact a_iret dX12_see_63 (by exact ⟨rfl, hg0, h79, hs0⟩)
      · exact absurd n24 c_11
  · rw [if_neg (fun g => q g.1), if_neg (fun g => q g.1)]
    refine a_aload_n (i := 0) dX12_see_5 rfl rfl ?_
    refine gX12_398 rfl dX12_see_6 (isM_0 hM) ?_
    rw [hg0.1]
    refine a_bipush (v := 24) dX12_see_9 (by decide) ?_
    refine a_icmp_eq (tg := 42) dX12_see_11 (by decide) (fun c_11 => ?_) (fun c_11 => ?_)
    · refine a_iconst (v := (-1)) dX12_see_42 (by decide) ?_
      refine a_goto (tg := 63) dX12_see_43 (by decide) ?_
      exact a_iret dX12_see_63 (by exact ⟨rfl, hg0, h79, hs0⟩)
    · refine a_iload_n (i := 1) dX12_see_14 rfl rfl ?_
      refine a_iconst (v := 1) dX12_see_15 (by decide) ?_
      refine a_bipush (v := 60) dX12_see_16 (by decide) ?_
      refine kX12_220 rfl dX12_see_18 (Nat.le_of_ble_eq_true rfl) (c_X12_isIn) ?_
      refine a_if_eq (tg := 42) dX12_see_21 (by decide) (fun c_21 => ?_) (fun c_21 => ?_)
      · refine a_iconst (v := (-1)) dX12_see_42 (by decide) ?_
        refine a_goto (tg := 63) dX12_see_43 (by decide) ?_
        exact a_iret dX12_see_63 (by exact ⟨rfl, hg0, h79, hs0⟩)
      · refine a_aload_n (i := 0) dX12_see_24 rfl rfl ?_
        refine a_iload_n (i := 2) dX12_see_25 rfl rfl ?_
        refine kX12_492 rfl dX12_see_26 (Nat.le_of_ble_eq_true rfl) (isM_0 hM) (c_X12_isMan hM hT) ?_
        refine a_if_eq (tg := 42) dX12_see_29 (by decide) (fun c_29 => ?_) (fun c_29 => ?_)
        · refine a_iconst (v := (-1)) dX12_see_42 (by decide) ?_
          refine a_goto (tg := 63) dX12_see_43 (by decide) ?_
          exact a_iret dX12_see_63 (by exact ⟨rfl, hg0, h79, hs0⟩)
        · refine a_iload_n (i := 3) dX12_see_32 rfl rfl ?_
          refine a_iconst (v := 0) dX12_see_33 (by decide) ?_
          refine a_bipush (v := 99) dX12_see_34 (by decide) ?_
          refine kX12_220 rfl dX12_see_36 (Nat.le_of_ble_eq_true rfl) (c_X12_isIn) ?_
          refine a_if_ne (tg := 46) dX12_see_39 (by decide) (fun c_39 => ?_) (fun c_39 => ?_)
          · exact absurd ⟨bI_p.mp c_21, bI_p.mp c_29, bI_p.mp c_39⟩ q
          · refine a_iconst (v := (-1)) dX12_see_42 (by decide) ?_
            refine a_goto (tg := 63) dX12_see_43 (by decide) ?_
            exact a_iret dX12_see_63 (by exact ⟨rfl, hg0, h79, hs0⟩)
/-! strike -/
abbrev zStC (p : Nat × zG) (k : Int32) : Prop := zIn p.1 k ∧ p.1 < 24
def zStP (p : Nat × zG) (k : Int32) : Nat × zG := if zStC p k then zPush p (0, k.toNatClampNeg, 0, false) else p
def qStrike (p : Nat × zG) (k : Int32) : Int32 := if zStC p k then nI p.1 else -1
def sStr (x : aS) (S : Nat) (k : Int32) : aS := aWr (aWr x (bSn + 7) S k) bSn 0 (nI (S + 1))
theorem rG_str {k : Nat} (h : rG p x) : rG (zPush p (0, k, 0, false)) (sStr x p.1 (nI k)) ∧ (sStr x p.1 (nI k)).1 bSn 1 = x.1 bSn 1 ∧ cSn x (sStr x p.1 (nI k)) := by
  refine ⟨⟨?_, fun i hi => ?_⟩, ?_, fun n hn => ?_⟩
  · unfold sStr; rw [aWr_s]; rfl
  · have hi2 : i < p.1 + 1 := hi
    by_cases ei : i = p.1
    · subst ei
      rw [zPush_s]
      refine ⟨fun _ => ?_, fun g => absurd rfl g⟩
      unfold sStr
      rw [aWr_n _ _ _ (by decide), aWr_s]
    · rw [zPush_o (by omega)]
      have e : ∀ k2, k2 = 3 ∨ k2 = 4 ∨ k2 = 5 ∨ k2 = 6 ∨ k2 = 7 → (sStr x p.1 (nI k)).1 (bSn + k2) i = x.1 (bSn + k2) i := by
        intro k hk
        unfold sStr
        rw [aWr_o _ _ (by omega), aWr_o _ _ (by omega)]
      obtain ⟨g1, g2⟩ := h.2 i (by omega)
      refine ⟨fun g => ?_, fun g => ?_⟩
      · rw [e 7 (by omega)]; exact g1 g
      · rw [e 7 (by omega), e 3 (by omega), e 4 (by omega), e 5 (by omega), e 6 (by omega)]; exact g2 g
  · unfold sStr; rw [aWr_j _ _ _ (by decide), aWr_n _ _ _ (by decide)]
  · refine ⟨?_, rfl⟩
    unfold sStr
    rw [aWr_n _ _ _ (fun e => hn (by subst e; decide)), aWr_n _ _ _ (fun e => hn (by subst e; decide))]
set_option maxHeartbeats 4000000 in
set_option maxRecDepth 100000 in
theorem c_X5_noteStrike {S : Nat} {k : Int32} (hD : aDC D) (hs : x.1 bSn 0 = nI S) (h24 : S ≤ 24) : aDI l mX5_noteStrike d D [.ref bSn, .int k] x (if S < 24 then nI S else -1) (if S < 24 then sStr x S k else x) := by
  refine a_metI (by decide) (Nat.le_of_ble_eq_true rfl) rfl ?_
  by_cases q : S < 24
  · rw [if_pos q, if_pos q]
    refine a_aload_n (i := 0) dX5_noteStrike_0 rfl rfl ?_
    refine gX5_35 rfl dX5_noteStrike_1 (isSn_0 hD) ?_
    rw [hs]
    refine a_bipush (v := 24) dX5_noteStrike_4 (by decide) ?_
    refine a_icmp_lt (tg := 11) dX5_noteStrike_6 (by decide) (fun c_6 => ?_) (fun c_6 => ?_)
    · refine a_aload_n (i := 0) dX5_noteStrike_11 rfl rfl ?_
      refine gX5_29 rfl dX5_noteStrike_12 (isSn_0 hD) ?_
      refine a_aload_n (i := 0) dX5_noteStrike_15 rfl rfl ?_
      refine gX5_35 rfl dX5_noteStrike_16 (isSn_0 hD) ?_
      rw [hs]
      refine a_iload_n (i := 1) dX5_noteStrike_19 rfl rfl ?_
      refine a_iastN dX5_noteStrike_20 (isSn_7 hD) (by first | with_reducible exact rfl | with_reducible exact ix8 _ _ | with_reducible exact ix12 _ _ | exact rfl) (by omega) (by decide) ?_
      refine a_aload_n (i := 0) dX5_noteStrike_21 rfl rfl ?_
      refine a_dup dX5_noteStrike_22 rfl ?_
      refine gX5_35 rfl dX5_noteStrike_23 (isSn_0 hD) ?_
      rw [aWr_n _ _ _ (by decide), hs]
      refine a_iconst (v := 1) dX5_noteStrike_26 (by decide) ?_
      refine a_iadd dX5_noteStrike_27 ?_
      rw [nI_1]
      refine pX5_35 rfl dX5_noteStrike_28 (isSn_0 hD) ?_
      refine a_aload_n (i := 0) dX5_noteStrike_31 rfl rfl ?_
      refine gX5_35 rfl dX5_noteStrike_32 (isSn_0 hD) ?_
      rw [aWr_s]
      refine a_iconst (v := 1) dX5_noteStrike_35 (by decide) ?_
      refine a_isub dX5_noteStrike_36 ?_
      rw [nI_pred]
      exact a_iret dX5_noteStrike_37 (by exact ⟨rfl, rfl⟩)
    · exact absurd (nI_lt q (by decide)) c_6
  · have : S = 24 := by omega
    subst this
    rw [if_neg q, if_neg q]
    refine a_aload_n (i := 0) dX5_noteStrike_0 rfl rfl ?_
    refine gX5_35 rfl dX5_noteStrike_1 (isSn_0 hD) ?_
    rw [hs]
    refine a_bipush (v := 24) dX5_noteStrike_4 (by decide) ?_
    refine a_icmp_lt (tg := 11) dX5_noteStrike_6 (by decide) (fun c_6 => ?_) (fun c_6 => ?_)
    · exact absurd c_6 (by decide)
    · refine a_iconst (v := (-1)) dX5_noteStrike_9 (by decide) ?_
      exact a_iret dX5_noteStrike_10 (by exact ⟨rfl, rfl⟩)
set_option maxHeartbeats 4000000 in
set_option maxRecDepth 100000 in
theorem c_X11_strike {k : Int32} (hD : aDC D) (hg : rG p x) (hk : p.1 ≤ 24) : aCt l mX11_strike (d + 1) D [.ref bLH, .int k] x (fun v z => v = some (.int (qStrike p k)) ∧ rG (zStP p k) z ∧ z.1 bSn 1 = x.1 bSn 1 ∧ cSn x z) := by
  refine a_met (by decide) (Nat.le_of_ble_eq_true rfl) (fun v y q => Or.inl ⟨rfl, _, q.1⟩) ?_
  unfold qStrike zStP
  have hc := c_X5_noteStrike (l := l) (d := d) (D := D) (k := k) hD hg.1 hk
  by_cases q : zIn p.1 k
  · by_cases q24 : p.1 < 24
    · rw [if_pos ⟨q, q24⟩, if_pos ⟨q, q24⟩]
      rw [if_pos q24, if_pos q24] at hc
      obtain ⟨K, hK, rfl⟩ := zIn_of (by omega) q
      rw [nI_clamp (by omega)]
      have r := rG_str (k := K) hg
      refine a_iload_n (i := 1) dX11_strike_0 rfl rfl ?_
      refine a_if_lt (tg := 15) dX11_strike_1 (by decide) (fun c_1 => ?_) (fun c_1 => ?_)
      · exact absurd q.1 (Int32.not_le.mpr c_1)
      · refine a_iload_n (i := 1) dX11_strike_4 rfl rfl ?_
        refine a_aload_n (i := 0) dX11_strike_5 rfl rfl ?_
        refine gX11_50 rfl dX11_strike_6 (isLH_0 hD) ?_
        refine gX11_240 rfl dX11_strike_9 (isSn_0 hD) ?_
        rw [hg.1]
        refine a_icmp_lt (tg := 17) dX11_strike_12 (by decide) (fun c_12 => ?_) (fun c_12 => ?_)
        · refine a_aload_n (i := 0) dX11_strike_17 rfl rfl ?_
          refine gX11_50 rfl dX11_strike_18 (isLH_0 hD) ?_
          refine a_iload_n (i := 1) dX11_strike_21 rfl rfl ?_
          refine kX11_338 rfl dX11_strike_22 (Nat.le_of_ble_eq_true rfl) (isSn_0 hD) (hc) ?_
          exact a_iret dX11_strike_25 (by exact ⟨rfl, r⟩)
        · exact absurd q.2 c_12
    · rw [if_neg (fun g => q24 g.2), if_neg (fun g => q24 g.2)]
      rw [if_neg q24, if_neg q24] at hc
      refine a_iload_n (i := 1) dX11_strike_0 rfl rfl ?_
      refine a_if_lt (tg := 15) dX11_strike_1 (by decide) (fun c_1 => ?_) (fun c_1 => ?_)
      · exact absurd q.1 (Int32.not_le.mpr c_1)
      · refine a_iload_n (i := 1) dX11_strike_4 rfl rfl ?_
        refine a_aload_n (i := 0) dX11_strike_5 rfl rfl ?_
        refine gX11_50 rfl dX11_strike_6 (isLH_0 hD) ?_
        refine gX11_240 rfl dX11_strike_9 (isSn_0 hD) ?_
        rw [hg.1]
        refine a_icmp_lt (tg := 17) dX11_strike_12 (by decide) (fun c_12 => ?_) (fun c_12 => ?_)
        · refine a_aload_n (i := 0) dX11_strike_17 rfl rfl ?_
          refine gX11_50 rfl dX11_strike_18 (isLH_0 hD) ?_
          refine a_iload_n (i := 1) dX11_strike_21 rfl rfl ?_
          refine kX11_338 rfl dX11_strike_22 (Nat.le_of_ble_eq_true rfl) (isSn_0 hD) (hc) ?_
          exact a_iret dX11_strike_25 (by exact ⟨rfl, hg, rfl, cSn_r⟩)
        · exact absurd q.2 c_12
  · rw [if_neg (fun g => q g.1), if_neg (fun g => q g.1)]
    refine a_iload_n (i := 1) dX11_strike_0 rfl rfl ?_
    refine a_if_lt (tg := 15) dX11_strike_1 (by decide) (fun c_1 => ?_) (fun c_1 => ?_)
    · refine a_iconst (v := (-1)) dX11_strike_15 (by decide) ?_
      exact a_iret dX11_strike_16 (by exact ⟨rfl, hg, rfl, cSn_r⟩)
    · refine a_iload_n (i := 1) dX11_strike_4 rfl rfl ?_
      refine a_aload_n (i := 0) dX11_strike_5 rfl rfl ?_
      refine gX11_50 rfl dX11_strike_6 (isLH_0 hD) ?_
      refine gX11_240 rfl dX11_strike_9 (isSn_0 hD) ?_
      rw [hg.1]
      refine a_icmp_lt (tg := 17) dX11_strike_12 (by decide) (fun c_12 => ?_) (fun c_12 => ?_)
      · exact absurd ⟨Int32.not_lt.mp c_1, c_12⟩ q
      · refine a_iconst (v := (-1)) dX11_strike_15 (by decide) ?_
        exact a_iret dX11_strike_16 (by exact ⟨rfl, hg, rfl, cSn_r⟩)
set_option maxHeartbeats 4000000 in
set_option maxRecDepth 100000 in
theorem c_X12_strike {k : Int32} (hM : D 12 = true) (hg : rGM p x) (hk : p.1 ≤ 24) : aCt l mX12_strike (d + 1) D [.ref bM, .int k] x (fun v z => v = some (.int (qStrike p k)) ∧ rGM (zStP p k) z ∧ z.1 bM 79 = x.1 bM 79 ∧ mSn x z) := by
  have hg0 := rGM_0 hg
  have hs0 : mSn x (aWr x bM 2 0) := mSn_0
  have h79 : (aWr x bM 2 0).1 bM 79 = x.1 bM 79 := aWr_j _ _ _ (by decide)
  refine a_met (by decide) (Nat.le_of_ble_eq_true rfl) (fun v y q => Or.inl ⟨rfl, _, q.1⟩) ?_
  refine a_aload_n (i := 0) dX12_strike_0 rfl rfl ?_
  refine a_iconst (v := 0) dX12_strike_1 (by decide) ?_
  refine pX12_175 rfl dX12_strike_2 (isM_0 hM) ?_
  refine a_loc [(0, .ref bM), (1, .int k)] rfl ?_
  generalize aWr x bM 2 0 = w at *
  unfold qStrike zStP
  by_cases q24 : p.1 < 24
  · have n24 : ¬ nI p.1 = 24 := fun g => absurd ((nI_eq (a := p.1) (b := 24) (by omega) (by decide)).mp g) (by omega)
    by_cases q : zIn p.1 k
    · rw [if_pos ⟨q, q24⟩, if_pos ⟨q, q24⟩]
      obtain ⟨K, hK, rfl⟩ := zIn_of (by omega) q
      rw [nI_clamp (by omega)]
      have r := rGM_note (e := (0, K, 0, false)) (t := -1) (u := 0) (w := 0) hg0 rfl (fun g => absurd rfl g)
      refine a_aload_n (i := 0) dX12_strike_5 rfl rfl ?_
      refine gX12_398 rfl dX12_strike_6 (isM_0 hM) ?_
      rw [hg0.1]
      refine a_bipush (v := 24) dX12_strike_9 (by decide) ?_
      refine a_icmp_eq (tg := 26) dX12_strike_11 (by decide) (fun c_11 => ?_) (fun c_11 => ?_)
      · exact absurd c_11 n24
      · refine a_iload_n (i := 1) dX12_strike_14 rfl rfl ?_
        refine a_if_lt (tg := 26) dX12_strike_15 (by decide) (fun c_15 => ?_) (fun c_15 => ?_)
        · exact absurd q.1 (Int32.not_le.mpr c_15)
        · refine a_iload_n (i := 1) dX12_strike_18 rfl rfl ?_
          refine a_aload_n (i := 0) dX12_strike_19 rfl rfl ?_
          refine gX12_398 rfl dX12_strike_20 (isM_0 hM) ?_
          rw [hg0.1]
          refine a_icmp_lt (tg := 30) dX12_strike_23 (by decide) (fun c_23 => ?_) (fun c_23 => ?_)
          · refine a_aload_n (i := 0) dX12_strike_30 rfl rfl ?_
            refine a_iconst (v := (-1)) dX12_strike_31 (by decide) ?_
            refine a_iload_n (i := 1) dX12_strike_32 rfl rfl ?_
            refine a_iconst (v := 0) dX12_strike_33 (by decide) ?_
            refine a_iconst (v := 0) dX12_strike_34 (by decide) ?_
            refine kX12_553 rfl dX12_strike_35 (Nat.le_of_ble_eq_true rfl) (isM_0 hM) (c_X12_noted hM hg0.1 q24) ?_
            exact a_iret dX12_strike_38 (by exact ⟨rfl, r.1, r.2.1.trans h79, mSn_t hs0 r.2.2⟩)
          · exact absurd q.2 c_23
    · rw [if_neg (fun g => q g.1), if_neg (fun g => q g.1)]
      refine a_aload_n (i := 0) dX12_strike_5 rfl rfl ?_
      refine gX12_398 rfl dX12_strike_6 (isM_0 hM) ?_
      rw [hg0.1]
      refine a_bipush (v := 24) dX12_strike_9 (by decide) ?_
      refine a_icmp_eq (tg := 26) dX12_strike_11 (by decide) (fun c_11 => ?_) (fun c_11 => ?_)
      · exact absurd c_11 n24
      · refine a_iload_n (i := 1) dX12_strike_14 rfl rfl ?_
        refine a_if_lt (tg := 26) dX12_strike_15 (by decide) (fun c_15 => ?_) (fun c_15 => ?_)
        · refine a_iconst (v := (-1)) dX12_strike_26 (by decide) ?_
          refine a_goto (tg := 38) dX12_strike_27 (by decide) ?_
          exact a_iret dX12_strike_38 (by exact ⟨rfl, hg0, h79, hs0⟩)
        · refine a_iload_n (i := 1) dX12_strike_18 rfl rfl ?_
          refine a_aload_n (i := 0) dX12_strike_19 rfl rfl ?_
          refine gX12_398 rfl dX12_strike_20 (isM_0 hM) ?_
          rw [hg0.1]
          refine a_icmp_lt (tg := 30) dX12_strike_23 (by decide) (fun c_23 => ?_) (fun c_23 => ?_)
          · exact absurd ⟨Int32.not_lt.mp c_15, c_23⟩ q
          · refine a_iconst (v := (-1)) dX12_strike_26 (by decide) ?_
            refine a_goto (tg := 38) dX12_strike_27 (by decide) ?_
            exact a_iret dX12_strike_38 (by exact ⟨rfl, hg0, h79, hs0⟩)
  · rw [if_neg (fun g => q24 g.2), if_neg (fun g => q24 g.2)]
    have n24 : nI p.1 = 24 := by rw [show p.1 = 24 by omega]; rfl
    refine a_aload_n (i := 0) dX12_strike_5 rfl rfl ?_
    refine gX12_398 rfl dX12_strike_6 (isM_0 hM) ?_
    rw [hg0.1]
    refine a_bipush (v := 24) dX12_strike_9 (by decide) ?_
    refine a_icmp_eq (tg := 26) dX12_strike_11 (by decide) (fun c_11 => ?_) (fun c_11 => ?_)
    · refine a_iconst (v := (-1)) dX12_strike_26 (by decide) ?_
      refine a_goto (tg := 38) dX12_strike_27 (by decide) ?_
      exact a_iret dX12_strike_38 (by exact ⟨rfl, hg0, h79, hs0⟩)
    · exact absurd n24 c_11
/-! known -/
abbrev zKnC (p : Nat × zG) (n : Int32) : Prop := -1 ≤ n ∧ n ≤ nI p.1
set_option maxHeartbeats 4000000 in
set_option maxRecDepth 100000 in
theorem c_X11_known {n : Int32} (hD : aDC D) (hg : rG p x) : aDI l mX11_known d D [.ref bLH, .int n] x (bI (decide (zKnC p n))) (if zKnC p n then aWr x bSn 1 n else x) := by
  refine a_metZ (by decide) (Nat.le_of_ble_eq_true rfl) rfl (bI_01 _) ?_
  by_cases q : zKnC p n
  · rw [if_pos q, bI_t q]
    refine a_iload_n (i := 1) dX11_known_0 rfl rfl ?_
    refine a_iconst (v := (-1)) dX11_known_1 (by decide) ?_
    refine a_icmp_lt (tg := 16) dX11_known_2 (by decide) (fun c_2 => ?_) (fun c_2 => ?_)
    · exact absurd q.1 (Int32.not_le.mpr c_2)
    · refine a_iload_n (i := 1) dX11_known_5 rfl rfl ?_
      refine a_aload_n (i := 0) dX11_known_6 rfl rfl ?_
      refine gX11_50 rfl dX11_known_7 (isLH_0 hD) ?_
      refine gX11_240 rfl dX11_known_10 (isSn_0 hD) ?_
      rw [hg.1]
      refine a_icmp_le (tg := 18) dX11_known_13 (by decide) (fun c_13 => ?_) (fun c_13 => ?_)
      · refine a_aload_n (i := 0) dX11_known_18 rfl rfl ?_
        refine gX11_50 rfl dX11_known_19 (isLH_0 hD) ?_
        refine a_iload_n (i := 1) dX11_known_22 rfl rfl ?_
        refine pX11_341 rfl dX11_known_23 (isSn_0 hD) ?_
        refine a_iconst (v := 1) dX11_known_26 (by decide) ?_
        exact a_iret dX11_known_27 (by exact ⟨rfl, rfl⟩)
      · exact absurd q.2 c_13
  · rw [if_neg q, bI_f q]
    refine a_iload_n (i := 1) dX11_known_0 rfl rfl ?_
    refine a_iconst (v := (-1)) dX11_known_1 (by decide) ?_
    refine a_icmp_lt (tg := 16) dX11_known_2 (by decide) (fun c_2 => ?_) (fun c_2 => ?_)
    · refine a_iconst (v := 0) dX11_known_16 (by decide) ?_
      exact a_iret dX11_known_17 (by exact ⟨rfl, rfl⟩)
    · refine a_iload_n (i := 1) dX11_known_5 rfl rfl ?_
      refine a_aload_n (i := 0) dX11_known_6 rfl rfl ?_
      refine gX11_50 rfl dX11_known_7 (isLH_0 hD) ?_
      refine gX11_240 rfl dX11_known_10 (isSn_0 hD) ?_
      rw [hg.1]
      refine a_icmp_le (tg := 18) dX11_known_13 (by decide) (fun c_13 => ?_) (fun c_13 => ?_)
      · exact absurd ⟨Int32.not_lt.mp c_2, c_13⟩ q
      · refine a_iconst (v := 0) dX11_known_16 (by decide) ?_
        exact a_iret dX11_known_17 (by exact ⟨rfl, rfl⟩)
set_option maxHeartbeats 4000000 in
set_option maxRecDepth 100000 in
theorem c_X12_known {n : Int32} (hM : D 12 = true) (hg : rGM p x) : aDI l mX12_known (d + 1) D [.ref bM, .int n] x (bI (decide (zKnC p n))) (if zKnC p n then aWr (aWr x bM 2 0) bM 79 n else aWr x bM 2 0) := by
  have e : (aWr x bM 2 0).1 bM 78 = nI p.1 := by rw [aWr_j _ _ _ (by decide)]; exact hg.1
  refine a_metZ (by decide) (Nat.le_of_ble_eq_true rfl) rfl (bI_01 _) ?_
  by_cases q : zKnC p n
  · rw [if_pos q, bI_t q]
    refine a_aload_n (i := 0) dX12_known_0 rfl rfl ?_
    refine a_iconst (v := 0) dX12_known_1 (by decide) ?_
    refine pX12_175 rfl dX12_known_2 (isM_0 hM) ?_
    refine a_iload_n (i := 1) dX12_known_5 rfl rfl ?_
    refine a_iconst (v := (-1)) dX12_known_6 (by decide) ?_
    refine a_aload_n (i := 0) dX12_known_7 rfl rfl ?_
    refine gX12_398 rfl dX12_known_8 (isM_0 hM) ?_
    rw [e]
    refine kX12_220 rfl dX12_known_11 (Nat.le_of_ble_eq_true rfl) (c_X12_isIn) ?_
    refine a_if_ne (tg := 19) dX12_known_14 (by decide) (fun c_14 => ?_) (fun c_14 => ?_)
    · refine a_aload_n (i := 0) dX12_known_19 rfl rfl ?_
      refine a_iload_n (i := 1) dX12_known_20 rfl rfl ?_
      refine pX12_145 rfl dX12_known_21 (isM_0 hM) ?_
      refine a_iconst (v := 1) dX12_known_24 (by decide) ?_
      exact a_iret dX12_known_25 (by exact ⟨rfl, rfl⟩)
    · exact absurd c_14 (bI_p.mpr q)
  · rw [if_neg q, bI_f q]
    refine a_aload_n (i := 0) dX12_known_0 rfl rfl ?_
    refine a_iconst (v := 0) dX12_known_1 (by decide) ?_
    refine pX12_175 rfl dX12_known_2 (isM_0 hM) ?_
    refine a_iload_n (i := 1) dX12_known_5 rfl rfl ?_
    refine a_iconst (v := (-1)) dX12_known_6 (by decide) ?_
    refine a_aload_n (i := 0) dX12_known_7 rfl rfl ?_
    refine gX12_398 rfl dX12_known_8 (isM_0 hM) ?_
    rw [e]
    refine kX12_220 rfl dX12_known_11 (Nat.le_of_ble_eq_true rfl) (c_X12_isIn) ?_
    refine a_if_ne (tg := 19) dX12_known_14 (by decide) (fun c_14 => ?_) (fun c_14 => ?_)
    · exact absurd (bI_p.mp c_14) q
    · refine a_iconst (v := 0) dX12_known_17 (by decide) ?_
      exact a_iret dX12_known_18 (by exact ⟨rfl, rfl⟩)
end qL
