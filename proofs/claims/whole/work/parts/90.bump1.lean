/-! bumps, ask: the class -/
theorem jmax_n {a b : Nat} (ha : a < 2 ^ 31) (hb : b < 2 ^ 31) : jmax (nI a) (nI b) = nI (max a b) := by
  unfold jmax
  by_cases h : a < b
  · rw [if_pos (nI_lt h hb), Nat.max_eq_right (by omega)]
  · rw [if_neg (nI_nlt (by omega) ha), Nat.max_eq_left (by omega)]
/-- frame of what asks of what was seen -/
def cFs (x y : aS) : Prop := ∀ n, n / 256 ≠ 7 → n / 256 ≠ 8 → n / 256 ≠ 11 → n ≠ bSn + 8 → y.1 n = x.1 n ∧ y.2 n = x.2 n
section qY
variable {l : Launch} {d : Nat} {D : Nat → Bool} {T : zT} {W : Nat → zL} {Z : zS} {t : Nat} {x : aS} {p : Nat × zG} {c : Nat → Bool} {K : Nat}
theorem cFs_t {y z : aS} (h1 : cFs x y) (h2 : cFs y z) : cFs x z := fun n a b c e => ⟨(h2 n a b c e).1.trans (h1 n a b c e).1, (h2 n a b c e).2.trans (h1 n a b c e).2⟩
theorem cFs_y {y : aS} (h : aFy bTr x y) : cFs x y := fun n a b _ _ => h n a b
theorem cFs_R {y : aS} (hF : cFs x y) (h : cR T W Z x t) : cR T W Z y t := cR_o (fun n g => (hF n (by omega) (by omega) (by omega) (fun e => by rw [e] at g; exact absurd g (by decide))).1) h
/-- what counts, as a row of the class -/
def rCt (c : Nat → Bool) (x : aS) : Prop := ∀ i, i < 24 → x.1 (bSn + 8) i = bI (c i)
theorem rG_o {y : aS} (e : ∀ n, n / 256 = 9 → n ≠ bSn + 8 → y.1 n = x.1 n) (h : rG p x) : rG p y := by
  refine ⟨by rw [e _ (by decide) (by decide)]; exact h.1, fun i hi => ?_⟩
  rw [e _ (by decide) (by decide), e _ (by decide) (by decide), e _ (by decide) (by decide), e _ (by decide) (by decide), e _ (by decide) (by decide)]
  exact h.2 i hi
set_option maxHeartbeats 4000000 in
set_option maxRecDepth 100000 in
theorem c_X5_sift {k : Int32} (hD : aDC D) (ok : sgOk T p) (hg : rG p x) (hk : x.1 bSn 1 = k) (hK : (if k = -1 then nI p.1 else k) = nI K) (hKp : K ≤ p.1) : aCt l mX5_sift (d + 1) D [.ref bSn] x (fun v y => v = none ∧ rCt (zCt p K) y ∧ (∀ n, n ≠ bSn + 8 → y.1 n = x.1 n) ∧ y.2 = x.2) := by
  have p24 := ok.1
  have hkn := c_X5_knownNow (l := l) (d := d) hD hg.1 hk
  rw [hK] at hkn
  refine a_met (by decide) (Nat.le_of_ble_eq_true rfl) (fun v y q => Or.inr (Or.inr (Or.inr ⟨rfl, q.1⟩))) ?_
  have B : ∀ (j : Nat), j ≤ K → ∀ (c : Nat → Bool) (y : aS), rCt c y → (∀ n, n ≠ bSn + 8 → y.1 n = x.1 n) → y.2 = x.2 → aV l mX5_sift (d + 1) D none 39 [(0, .ref bSn), (2, .int (nI j - 1))] [] y (fun v y => v = none ∧ rCt (zSf p j c) y ∧ (∀ n, n ≠ bSn + 8 → y.1 n = x.1 n) ∧ y.2 = x.2) := by
    intro j
    induction j with
    | zero =>
      intro _ c y h1 h2 h3
      refine a_iload_n (i := 2) dX5_sift_39 rfl rfl ?_
      refine a_if_lt (tg := 80) dX5_sift_40 (by decide) (fun c_40 => ?_) (fun c_40 => ?_)
      · exact a_vret dX5_sift_80 (by exact ⟨rfl, h1, h2, h3⟩)
      · exact absurd (by decide) c_40
    | succ j ih =>
      intro hj c y h1 h2 h3
      rw [nI_pred]
      have e1 := h1 j (by omega)
      obtain ⟨g1, g2⟩ := hg.2 j (by omega)
      have m1 : nI j + -1 = nI j - 1 := (Int32.sub_eq_add_neg _ _).symm
      show aV _ _ _ _ _ _ _ _ _ (fun v y => v = none ∧ rCt (zSf p j (if c j = true ∧ (p.2 j).1 = 0 then (fun i => if i = (p.2 j).2.1 then false else c i) else c)) y ∧ _)
      cases hc : c j with
      | false =>
        rw [hc] at e1
        rw [if_neg (fun q => absurd q.1 (by decide))]
        have ih2 := ih (by omega) c y h1 h2 h3
        refine a_iload_n (i := 2) dX5_sift_39 rfl rfl ?_
        refine a_if_lt (tg := 80) dX5_sift_40 (by decide) (fun c_40 => ?_) (fun c_40 => ?_)
        · exact absurd c_40 (nI_pos (by omega))
        · refine a_aload_n (i := 0) dX5_sift_43 rfl rfl ?_
          refine gX5_32 rfl dX5_sift_44 (isSn_0 hD) ?_
          refine a_iload_n (i := 2) dX5_sift_47 rfl rfl ?_
          refine a_zaldN dX5_sift_48 (isSn_8 hD) (by first | with_reducible exact rfl | with_reducible exact ix8 _ _ | with_reducible exact ix12 _ _ | exact rfl) (by omega) (by decide) ?_
          rw [e1]
          refine a_if_eq (tg := 74) dX5_sift_49 (by decide) (fun c_49 => ?_) (fun c_49 => ?_)
          · refine a_iincK (i := 2) (u := (-1)) dX5_sift_74 rfl (by decide) (by decide) ?_
            refine a_goto (tg := 39) dX5_sift_77 (by decide) ?_
            rw [m1]; exact a_loc _ rfl ih2
          · exact absurd rfl c_49
      | true =>
        rw [hc] at e1
        by_cases q : (p.2 j).1 = 0
        · rw [if_pos ⟨rfl, q⟩]
          have es : y.1 (bSn + 7) j = nI (p.2 j).2.1 := by rw [h2 _ (by decide)]; exact g1 q
          have lt := (ok.2 j (by omega)).2.1 q
          have nn : ¬ nI (p.2 j).2.1 = -1 := fun g => absurd (show nI (p.2 j).2.1 < 0 by rw [g]; decide) (nI_pos (by omega))
          have ih2 := ih (by omega) (fun i => if i = (p.2 j).2.1 then false else c i) (aWr y (bSn + 8) (p.2 j).2.1 0) (fun i hi => by
            by_cases e : i = (p.2 j).2.1
            · subst e; rw [aWr_s]; simp [bI]
            · rw [aWr_j _ _ _ e, h1 i hi]; simp [e]) (fun n hn => by rw [aWr_n _ _ _ hn, h2 n hn]) h3
          refine a_iload_n (i := 2) dX5_sift_39 rfl rfl ?_
          refine a_if_lt (tg := 80) dX5_sift_40 (by decide) (fun c_40 => ?_) (fun c_40 => ?_)
          · exact absurd c_40 (nI_pos (by omega))
          · refine a_aload_n (i := 0) dX5_sift_43 rfl rfl ?_
            refine gX5_32 rfl dX5_sift_44 (isSn_0 hD) ?_
            refine a_iload_n (i := 2) dX5_sift_47 rfl rfl ?_
            refine a_zaldN dX5_sift_48 (isSn_8 hD) (by first | with_reducible exact rfl | with_reducible exact ix8 _ _ | with_reducible exact ix12 _ _ | exact rfl) (by omega) (by decide) ?_
            rw [e1]
            refine a_if_eq (tg := 74) dX5_sift_49 (by decide) (fun c_49 => ?_) (fun c_49 => ?_)
            · exact absurd c_49 (by decide)
            · refine a_aload_n (i := 0) dX5_sift_52 rfl rfl ?_
              refine gX5_29 rfl dX5_sift_53 (isSn_0 hD) ?_
              refine a_iload_n (i := 2) dX5_sift_56 rfl rfl ?_
              refine a_ialdN dX5_sift_57 (isSn_7 hD) (by first | with_reducible exact rfl | with_reducible exact ix8 _ _ | with_reducible exact ix12 _ _ | exact rfl) (by omega) (by decide) ?_
              rw [es]
              refine a_iconst (v := (-1)) dX5_sift_58 (by decide) ?_
              refine a_icmp_eq (tg := 74) dX5_sift_59 (by decide) (fun c_59 => ?_) (fun c_59 => ?_)
              · exact absurd c_59 nn
              · refine a_aload_n (i := 0) dX5_sift_62 rfl rfl ?_
                refine gX5_32 rfl dX5_sift_63 (isSn_0 hD) ?_
                refine a_aload_n (i := 0) dX5_sift_66 rfl rfl ?_
                refine gX5_29 rfl dX5_sift_67 (isSn_0 hD) ?_
                refine a_iload_n (i := 2) dX5_sift_70 rfl rfl ?_
                refine a_ialdN dX5_sift_71 (isSn_7 hD) (by first | with_reducible exact rfl | with_reducible exact ix8 _ _ | with_reducible exact ix12 _ _ | exact rfl) (by omega) (by decide) ?_
                rw [es]
                refine a_iconst (v := 0) dX5_sift_72 (by decide) ?_
                refine a_zastN dX5_sift_73 (isSn_8 hD) (by first | with_reducible exact rfl | with_reducible exact ix8 _ _ | with_reducible exact ix12 _ _ | exact rfl) (by omega) (by decide) (by first | exact Or.inl rfl | exact Or.inr rfl | assumption) ?_
                refine a_iincK (i := 2) (u := (-1)) dX5_sift_74 rfl (by decide) (by decide) ?_
                refine a_goto (tg := 39) dX5_sift_77 (by decide) ?_
                rw [m1]; exact a_loc _ rfl ih2
        · rw [if_neg (fun z => q z.2)]
          have es : y.1 (bSn + 7) j = -1 := by rw [h2 _ (by decide)]; exact (g2 q).1
          have ih2 := ih (by omega) c y h1 h2 h3
          refine a_iload_n (i := 2) dX5_sift_39 rfl rfl ?_
          refine a_if_lt (tg := 80) dX5_sift_40 (by decide) (fun c_40 => ?_) (fun c_40 => ?_)
          · exact absurd c_40 (nI_pos (by omega))
          · refine a_aload_n (i := 0) dX5_sift_43 rfl rfl ?_
            refine gX5_32 rfl dX5_sift_44 (isSn_0 hD) ?_
            refine a_iload_n (i := 2) dX5_sift_47 rfl rfl ?_
            refine a_zaldN dX5_sift_48 (isSn_8 hD) (by first | with_reducible exact rfl | with_reducible exact ix8 _ _ | with_reducible exact ix12 _ _ | exact rfl) (by omega) (by decide) ?_
            rw [e1]
            refine a_if_eq (tg := 74) dX5_sift_49 (by decide) (fun c_49 => ?_) (fun c_49 => ?_)
            · exact absurd c_49 (by decide)
            · refine a_aload_n (i := 0) dX5_sift_52 rfl rfl ?_
              refine gX5_29 rfl dX5_sift_53 (isSn_0 hD) ?_
              refine a_iload_n (i := 2) dX5_sift_56 rfl rfl ?_
              refine a_ialdN dX5_sift_57 (isSn_7 hD) (by first | with_reducible exact rfl | with_reducible exact ix8 _ _ | with_reducible exact ix12 _ _ | exact rfl) (by omega) (by decide) ?_
              rw [es]
              refine a_iconst (v := (-1)) dX5_sift_58 (by decide) ?_
              refine a_icmp_eq (tg := 74) dX5_sift_59 (by decide) (fun c_59 => ?_) (fun c_59 => ?_)
              · refine a_iincK (i := 2) (u := (-1)) dX5_sift_74 rfl (by decide) (by decide) ?_
                refine a_goto (tg := 39) dX5_sift_77 (by decide) ?_
                rw [m1]; exact a_loc _ rfl ih2
              · exact absurd rfl c_59
  have A : ∀ (f i : Nat), i + f = 24 → ∀ y : aS, (∀ j, j < i → y.1 (bSn + 8) j = bI (decide (j < K))) → (∀ n, n ≠ bSn + 8 → y.1 n = x.1 n) → y.2 = x.2 → aV l mX5_sift (d + 1) D none 7 [(0, .ref bSn), (1, .int (nI K)), (2, .int (nI i))] [] y (fun v y => v = none ∧ rCt (zCt p K) y ∧ (∀ n, n ≠ bSn + 8 → y.1 n = x.1 n) ∧ y.2 = x.2) := by
    intro f
    induction f with
    | zero =>
      intro i hi y h1 h2 h3
      rw [Nat.add_zero] at hi
      subst hi
      refine a_iload_n (i := 2) dX5_sift_7 rfl rfl ?_
      refine a_bipush (v := 24) dX5_sift_8 (by decide) ?_
      refine a_icmp_ge (tg := 35) dX5_sift_10 (by decide) (fun c_10 => ?_) (fun c_10 => ?_)
      · refine a_iload_n (i := 1) dX5_sift_35 rfl rfl ?_
        refine a_iconst (v := 1) dX5_sift_36 (by decide) ?_
        refine a_isub dX5_sift_37 ?_
        refine a_istore_n (i := 2) dX5_sift_38 rfl (by decide) ?_
        exact a_loc _ rfl (B K (Nat.le_refl _) _ y h1 h2 h3)
      · exact absurd (Int32.le_refl _) c_10
    | succ f ih =>
      intro i hi y h1 h2 h3
      have ih2 := fun v (hv : v = bI (decide (i < K))) => ih (i + 1) (by omega) (aWr y (bSn + 8) i v) (fun j hj => by
        by_cases e : j = i
        · subst e; rw [aWr_s, hv]
        · rw [aWr_j _ _ _ e, h1 j (by omega)]) (fun n hn => by rw [aWr_n _ _ _ hn, h2 n hn]) h3
      by_cases q : i < K
      · refine a_iload_n (i := 2) dX5_sift_7 rfl rfl ?_
        refine a_bipush (v := 24) dX5_sift_8 (by decide) ?_
        refine a_icmp_ge (tg := 35) dX5_sift_10 (by decide) (fun c_10 => ?_) (fun c_10 => ?_)
        · exact absurd c_10 (nI_ge (show i < 24 by omega) (by decide))
        · refine a_aload_n (i := 0) dX5_sift_13 rfl rfl ?_
          refine gX5_32 rfl dX5_sift_14 (isSn_0 hD) ?_
          refine a_iload_n (i := 2) dX5_sift_17 rfl rfl ?_
          refine a_iload_n (i := 2) dX5_sift_18 rfl rfl ?_
          refine a_iload_n (i := 1) dX5_sift_19 rfl rfl ?_
          refine a_icmp_ge (tg := 27) dX5_sift_20 (by decide) (fun c_20 => ?_) (fun c_20 => ?_)
          · exact absurd c_20 (nI_ge q (by omega))
          · refine a_iconst (v := 1) dX5_sift_23 (by decide) ?_
            refine a_goto (tg := 28) dX5_sift_24 (by decide) ?_
            refine a_zastN dX5_sift_28 (isSn_8 hD) (by first | with_reducible exact rfl | with_reducible exact ix8 _ _ | with_reducible exact ix12 _ _ | exact rfl) (by omega) (by decide) (by first | exact Or.inl rfl | exact Or.inr rfl | assumption) ?_
            refine a_iincK (i := 2) (u := 1) dX5_sift_29 rfl (by decide) (by decide) ?_
            refine a_goto (tg := 7) dX5_sift_32 (by decide) ?_
            rw [nI_1]; exact a_loc _ rfl (ih2 1 (by rw [decide_eq_true q]; rfl))
      · refine a_iload_n (i := 2) dX5_sift_7 rfl rfl ?_
        refine a_bipush (v := 24) dX5_sift_8 (by decide) ?_
        refine a_icmp_ge (tg := 35) dX5_sift_10 (by decide) (fun c_10 => ?_) (fun c_10 => ?_)
        · exact absurd c_10 (nI_ge (show i < 24 by omega) (by decide))
        · refine a_aload_n (i := 0) dX5_sift_13 rfl rfl ?_
          refine gX5_32 rfl dX5_sift_14 (isSn_0 hD) ?_
          refine a_iload_n (i := 2) dX5_sift_17 rfl rfl ?_
          refine a_iload_n (i := 2) dX5_sift_18 rfl rfl ?_
          refine a_iload_n (i := 1) dX5_sift_19 rfl rfl ?_
          refine a_icmp_ge (tg := 27) dX5_sift_20 (by decide) (fun c_20 => ?_) (fun c_20 => ?_)
          · refine a_iconst (v := 0) dX5_sift_27 (by decide) ?_
            refine a_zastN dX5_sift_28 (isSn_8 hD) (by first | with_reducible exact rfl | with_reducible exact ix8 _ _ | with_reducible exact ix12 _ _ | exact rfl) (by omega) (by decide) (by first | exact Or.inl rfl | exact Or.inr rfl | assumption) ?_
            refine a_iincK (i := 2) (u := 1) dX5_sift_29 rfl (by decide) (by decide) ?_
            refine a_goto (tg := 7) dX5_sift_32 (by decide) ?_
            rw [nI_1]; exact a_loc _ rfl (ih2 0 (by rw [decide_eq_false q]; rfl))
          · exact absurd (nI_le (show K ≤ i by omega) (by omega)) c_20
  refine a_aload_n (i := 0) dX5_sift_0 rfl rfl ?_
  refine kX5_38 rfl dX5_sift_1 (Nat.le_of_ble_eq_true rfl) (isSn_0 hD) (hkn) ?_
  refine a_istore_n (i := 1) dX5_sift_4 rfl (by decide) ?_
  refine a_iconst (v := 0) dX5_sift_5 (by decide) ?_
  refine a_istore_n (i := 2) dX5_sift_6 rfl (by decide) ?_
  exact a_loc _ rfl (A 24 0 rfl x (fun j hj => absurd hj (by omega)) (fun _ _ => rfl) rfl)
set_option maxHeartbeats 4000000 in
set_option maxRecDepth 100000 in
theorem c_X5_isSight {i : Nat} (hD : aDC D) (ok : sgOk T p) (hg : rG p x) (hc : rCt c x) (hi : i < p.1) : aDI l mX5_isSight d D [.ref bSn, .int (nI i)] x (bI (c i && !decide ((p.2 i).1 = 0))) x := by
  have p24 := ok.1
  have e1 := hc i (by omega)
  obtain ⟨g1, g2⟩ := hg.2 i hi
  refine a_metZ (by decide) (Nat.le_of_ble_eq_true rfl) rfl (bI_01 _) ?_
  cases hci : c i with
  | false =>
    rw [hci] at e1
    refine a_aload_n (i := 0) dX5_isSight_0 rfl rfl ?_
    refine gX5_32 rfl dX5_isSight_1 (isSn_0 hD) ?_
    refine a_iload_n (i := 1) dX5_isSight_4 rfl rfl ?_
    refine a_zaldN dX5_isSight_5 (isSn_8 hD) (by first | with_reducible exact rfl | with_reducible exact ix8 _ _ | with_reducible exact ix12 _ _ | exact rfl) (by omega) (by decide) ?_
    rw [e1]
    refine a_if_eq (tg := 23) dX5_isSight_6 (by decide) (fun c_6 => ?_) (fun c_6 => ?_)
    · refine a_iconst (v := 0) dX5_isSight_23 (by decide) ?_
      exact a_iret dX5_isSight_24 (by exact ⟨rfl, rfl⟩)
    · exact absurd rfl c_6
  | true =>
    rw [hci] at e1
    by_cases q : (p.2 i).1 = 0
    · have es := g1 q
      have lt := (ok.2 i hi).2.1 q
      have nn : ¬ nI (p.2 i).2.1 = -1 := fun g => absurd (show nI (p.2 i).2.1 < 0 by rw [g]; decide) (nI_pos (by omega))
      rw [decide_eq_true q]
      refine a_aload_n (i := 0) dX5_isSight_0 rfl rfl ?_
      refine gX5_32 rfl dX5_isSight_1 (isSn_0 hD) ?_
      refine a_iload_n (i := 1) dX5_isSight_4 rfl rfl ?_
      refine a_zaldN dX5_isSight_5 (isSn_8 hD) (by first | with_reducible exact rfl | with_reducible exact ix8 _ _ | with_reducible exact ix12 _ _ | exact rfl) (by omega) (by decide) ?_
      rw [e1]
      refine a_if_eq (tg := 23) dX5_isSight_6 (by decide) (fun c_6 => ?_) (fun c_6 => ?_)
      · exact absurd c_6 (by decide)
      · refine a_aload_n (i := 0) dX5_isSight_9 rfl rfl ?_
        refine gX5_29 rfl dX5_isSight_10 (isSn_0 hD) ?_
        refine a_iload_n (i := 1) dX5_isSight_13 rfl rfl ?_
        refine a_ialdN dX5_isSight_14 (isSn_7 hD) (by first | with_reducible exact rfl | with_reducible exact ix8 _ _ | with_reducible exact ix12 _ _ | exact rfl) (by omega) (by decide) ?_
        rw [es]
        refine a_iconst (v := (-1)) dX5_isSight_15 (by decide) ?_
        refine a_icmp_ne (tg := 23) dX5_isSight_16 (by decide) (fun c_16 => ?_) (fun c_16 => ?_)
        · refine a_iconst (v := 0) dX5_isSight_23 (by decide) ?_
          exact a_iret dX5_isSight_24 (by exact ⟨rfl, rfl⟩)
        · exact absurd c_16 nn
    · have es := (g2 q).1
      rw [decide_eq_false q]
      refine a_aload_n (i := 0) dX5_isSight_0 rfl rfl ?_
      refine gX5_32 rfl dX5_isSight_1 (isSn_0 hD) ?_
      refine a_iload_n (i := 1) dX5_isSight_4 rfl rfl ?_
      refine a_zaldN dX5_isSight_5 (isSn_8 hD) (by first | with_reducible exact rfl | with_reducible exact ix8 _ _ | with_reducible exact ix12 _ _ | exact rfl) (by omega) (by decide) ?_
      rw [e1]
      refine a_if_eq (tg := 23) dX5_isSight_6 (by decide) (fun c_6 => ?_) (fun c_6 => ?_)
      · exact absurd c_6 (by decide)
      · refine a_aload_n (i := 0) dX5_isSight_9 rfl rfl ?_
        refine gX5_29 rfl dX5_isSight_10 (isSn_0 hD) ?_
        refine a_iload_n (i := 1) dX5_isSight_13 rfl rfl ?_
        refine a_ialdN dX5_isSight_14 (isSn_7 hD) (by first | with_reducible exact rfl | with_reducible exact ix8 _ _ | with_reducible exact ix12 _ _ | exact rfl) (by omega) (by decide) ?_
        rw [es]
        refine a_iconst (v := (-1)) dX5_isSight_15 (by decide) ?_
        refine a_icmp_ne (tg := 23) dX5_isSight_16 (by decide) (fun c_16 => ?_) (fun c_16 => ?_)
        · exact absurd rfl c_16
        · refine a_iconst (v := 1) dX5_isSight_19 (by decide) ?_
          refine a_goto (tg := 24) dX5_isSight_20 (by decide) ?_
          exact a_iret dX5_isSight_24 (by exact ⟨rfl, rfl⟩)
set_option maxHeartbeats 4000000 in
set_option maxRecDepth 100000 in
theorem c_X5_latestYear (hD : aDC D) (ok : sgOk T p) (hg : rG p x) (hc : rCt c x) : aDI l mX5_latestYear (d + 1) D [.ref bSn] x (nI (zLy p c)) x := by
  have p24 := ok.1
  have e0 := hg.1
  refine a_metI (by decide) (Nat.le_of_ble_eq_true rfl) rfl ?_
  have L : ∀ (f i : Nat), i + f = p.1 → ∀ a, a ≤ 60 → aV l mX5_latestYear (d + 1) D none 4 [(0, .ref bSn), (1, .int (nI a)), (2, .int (nI i))] [] x (fun v y => v = some (.int (nI (lp (fun i a => if c i = true ∧ ¬ (p.2 i).1 = 0 then max a (p.2 i).1 else a) i f a))) ∧ y = x) := by
    intro f
    induction f with
    | zero =>
      intro i hi a ha
      rw [Nat.add_zero] at hi
      subst hi
      refine a_iload_n (i := 2) dX5_latestYear_4 rfl rfl ?_
      refine a_aload_n (i := 0) dX5_latestYear_5 rfl rfl ?_
      refine gX5_35 rfl dX5_latestYear_6 (isSn_0 hD) ?_
      rw [e0]
      refine a_icmp_ge (tg := 37) dX5_latestYear_9 (by decide) (fun c_9 => ?_) (fun c_9 => ?_)
      · refine a_iload_n (i := 1) dX5_latestYear_37 rfl rfl ?_
        exact a_iret dX5_latestYear_38 (by exact ⟨rfl, rfl⟩)
      · exact absurd (Int32.le_refl _) c_9
    | succ f ih =>
      intro i hi a ha
      have iN : i < p.1 := by omega
      have hs := c_X5_isSight (l := l) (d := d) hD ok hg hc iN
      have y60 := (ok.2 i iN).1
      show aV _ _ _ _ _ _ _ _ _ (fun v y => v = some (.int (nI (lp (fun i a => if c i = true ∧ ¬ (p.2 i).1 = 0 then max a (p.2 i).1 else a) (i + 1) f (if c i = true ∧ ¬ (p.2 i).1 = 0 then max a (p.2 i).1 else a)))) ∧ y = x)
      by_cases q : c i = true ∧ ¬ (p.2 i).1 = 0
      · rw [if_pos q]
        rw [q.1, decide_eq_false q.2] at hs
        have ey := ((hg.2 i iN).2 q.2).2.1
        have em : jmax (nI a) (nI (p.2 i).1) = nI (max a (p.2 i).1) := jmax_n (by omega) (by omega)
        unfold jmax at em
        have ih2 := ih (i + 1) (by omega) (max a (p.2 i).1) (by omega)
        refine a_iload_n (i := 2) dX5_latestYear_4 rfl rfl ?_
        refine a_aload_n (i := 0) dX5_latestYear_5 rfl rfl ?_
        refine gX5_35 rfl dX5_latestYear_6 (isSn_0 hD) ?_
        rw [e0]
        refine a_icmp_ge (tg := 37) dX5_latestYear_9 (by decide) (fun c_9 => ?_) (fun c_9 => ?_)
        · exact absurd c_9 (nI_ge iN (by omega))
        · refine a_aload_n (i := 0) dX5_latestYear_12 rfl rfl ?_
          refine a_iload_n (i := 2) dX5_latestYear_13 rfl rfl ?_
          refine kX5_42 rfl dX5_latestYear_14 (Nat.le_of_ble_eq_true rfl) (isSn_0 hD) (hs) ?_
          refine a_if_eq (tg := 31) dX5_latestYear_17 (by decide) (fun c_17 => ?_) (fun c_17 => ?_)
          · exact absurd c_17 (by decide)
          · refine a_iload_n (i := 1) dX5_latestYear_20 rfl rfl ?_
            refine a_aload_n (i := 0) dX5_latestYear_21 rfl rfl ?_
            refine gX5_15 rfl dX5_latestYear_22 (isSn_0 hD) ?_
            refine a_iload_n (i := 2) dX5_latestYear_25 rfl rfl ?_
            refine a_ialdN dX5_latestYear_26 (isSn_3 hD) (by first | with_reducible exact rfl | with_reducible exact ix8 _ _ | with_reducible exact ix12 _ _ | exact rfl) (by omega) (by decide) ?_
            rw [ey]
            refine kX5_46 rfl dX5_latestYear_27 (Nat.le_of_ble_eq_true rfl) ?_
            rw [em]
            refine a_istore_n (i := 1) dX5_latestYear_30 rfl (by decide) ?_
            refine a_iincK (i := 2) (u := 1) dX5_latestYear_31 rfl (by decide) (by decide) ?_
            refine a_goto (tg := 4) dX5_latestYear_34 (by decide) ?_
            rw [nI_1]; exact a_loc _ rfl ih2
      · rw [if_neg q]
        have hz : (c i && !decide ((p.2 i).1 = 0)) = false := by
          cases hc : c i with
          | false => rfl
          | true => rw [decide_eq_true (Classical.byContradiction (fun g => q ⟨hc, g⟩))]; rfl
        rw [hz] at hs
        have ih2 := ih (i + 1) (by omega) a ha
        refine a_iload_n (i := 2) dX5_latestYear_4 rfl rfl ?_
        refine a_aload_n (i := 0) dX5_latestYear_5 rfl rfl ?_
        refine gX5_35 rfl dX5_latestYear_6 (isSn_0 hD) ?_
        rw [e0]
        refine a_icmp_ge (tg := 37) dX5_latestYear_9 (by decide) (fun c_9 => ?_) (fun c_9 => ?_)
        · exact absurd c_9 (nI_ge iN (by omega))
        · refine a_aload_n (i := 0) dX5_latestYear_12 rfl rfl ?_
          refine a_iload_n (i := 2) dX5_latestYear_13 rfl rfl ?_
          refine kX5_42 rfl dX5_latestYear_14 (Nat.le_of_ble_eq_true rfl) (isSn_0 hD) (hs) ?_
          refine a_if_eq (tg := 31) dX5_latestYear_17 (by decide) (fun c_17 => ?_) (fun c_17 => ?_)
          · refine a_iincK (i := 2) (u := 1) dX5_latestYear_31 rfl (by decide) (by decide) ?_
            refine a_goto (tg := 4) dX5_latestYear_34 (by decide) ?_
            rw [nI_1]; exact a_loc _ rfl ih2
          · exact absurd rfl c_17
  refine a_iconst (v := 0) dX5_latestYear_0 (by decide) ?_
  refine a_istore_n (i := 1) dX5_latestYear_1 rfl (by decide) ?_
  refine a_iconst (v := 0) dX5_latestYear_2 (by decide) ?_
  refine a_istore_n (i := 2) dX5_latestYear_3 rfl (by decide) ?_
  exact a_loc _ rfl (L p.1 0 (Nat.zero_add _) 0 (by omega))
set_option maxHeartbeats 4000000 in
set_option maxRecDepth 100000 in
theorem c_X5_holdsIn {n : Nat} (hD : aDC D) (tk : zTok T) (ok : sgOk T p) (hg : rG p x) (hc : rCt c x) (hS : rS T Z x bTr) (hn : 0 < n) (hn2 : n ≤ 60) : aDI l mX5_holdsIn (d + 1) D [.ref bSn, .int (nI n), .ref bTr] x (bI (!zAny (zBad p c n Z) 0 p.1)) x := by
  have p24 := ok.1
  have h8 := tk.2.1
  have e0 := hg.1
  refine a_metZ (by decide) (Nat.le_of_ble_eq_true rfl) rfl (bI_01 _) ?_
  have L : ∀ (f i : Nat), i + f = p.1 → aV l mX5_holdsIn (d + 1) D none 2 [(0, .ref bSn), (1, .int (nI n)), (2, .ref bTr), (3, .int (nI i))] [] x (fun v y => v = some (.int (bI (!zAny (zBad p c n Z) i f))) ∧ y = x) := by
    intro f
    induction f with
    | zero =>
      intro i hi
      rw [Nat.add_zero] at hi
      subst hi
      refine a_iload_n (i := 3) dX5_holdsIn_2 rfl rfl ?_
      refine a_aload_n (i := 0) dX5_holdsIn_3 rfl rfl ?_
      refine gX5_35 rfl dX5_holdsIn_4 (isSn_0 hD) ?_
      rw [e0]
      refine a_icmp_ge (tg := 70) dX5_holdsIn_7 (by decide) (fun c_7 => ?_) (fun c_7 => ?_)
      · refine a_iconst (v := 1) dX5_holdsIn_70 (by decide) ?_
        exact a_iret dX5_holdsIn_71 (by exact ⟨rfl, rfl⟩)
      · exact absurd (Int32.le_refl _) c_7
    | succ f ih =>
      intro i hi
      have iN : i < p.1 := by omega
      have hs := c_X5_isSight (l := l) (d := d) hD ok hg hc iN
      have y60 := (ok.2 i iN).1
      have ih2 := ih (i + 1) (by omega)
      show aV _ _ _ _ _ _ _ _ _ (fun v y => v = some (.int (bI (!(zBad p c n Z i || zAny (zBad p c n Z) (i + 1) f)))) ∧ y = x)
      by_cases q : c i = true ∧ ¬ (p.2 i).1 = 0
      · rw [q.1, decide_eq_false q.2] at hs
        obtain ⟨_, ey, em, ec, ea⟩ := (hg.2 i iN).2 q.2
        have mF := (ok.2 i iN).2.2 q.2
        by_cases qn : (p.2 i).1 = n
        · have ex := (hS.2.2.2 _ mF).2.2
          have eb : zBad p c n Z i = (decide ((p.2 i).2.2.1 ≤ Z.1 4 (p.2 i).2.1) != (p.2 i).2.2.2) := by unfold zBad; rw [q.1, decide_eq_true qn]; rfl
          rw [eb]
          by_cases qc : (p.2 i).2.2.1 ≤ Z.1 4 (p.2 i).2.1
          · rw [decide_eq_true qc]
            cases hb : (p.2 i).2.2.2 with
            | true =>
              rw [hb] at ea
              refine a_iload_n (i := 3) dX5_holdsIn_2 rfl rfl ?_
              refine a_aload_n (i := 0) dX5_holdsIn_3 rfl rfl ?_
              refine gX5_35 rfl dX5_holdsIn_4 (isSn_0 hD) ?_
              rw [e0]
              refine a_icmp_ge (tg := 70) dX5_holdsIn_7 (by decide) (fun c_7 => ?_) (fun c_7 => ?_)
              · exact absurd c_7 (nI_ge iN (by omega))
              · refine a_aload_n (i := 0) dX5_holdsIn_10 rfl rfl ?_
                refine a_iload_n (i := 3) dX5_holdsIn_11 rfl rfl ?_
                refine kX5_42 rfl dX5_holdsIn_12 (Nat.le_of_ble_eq_true rfl) (isSn_0 hD) (hs) ?_
                refine a_if_eq (tg := 64) dX5_holdsIn_15 (by decide) (fun c_15 => ?_) (fun c_15 => ?_)
                · exact absurd c_15 (by decide)
                · refine a_aload_n (i := 0) dX5_holdsIn_18 rfl rfl ?_
                  refine gX5_15 rfl dX5_holdsIn_19 (isSn_0 hD) ?_
                  refine a_iload_n (i := 3) dX5_holdsIn_22 rfl rfl ?_
                  refine a_ialdN dX5_holdsIn_23 (isSn_3 hD) (by first | with_reducible exact rfl | with_reducible exact ix8 _ _ | with_reducible exact ix12 _ _ | exact rfl) (by omega) (by decide) ?_
                  rw [ey]
                  refine a_iload_n (i := 1) dX5_holdsIn_24 rfl rfl ?_
                  refine a_icmp_ne (tg := 64) dX5_holdsIn_25 (by decide) (fun c_25 => ?_) (fun c_25 => ?_)
                  · exact absurd (by rw [qn]) c_25
                  · refine a_aload_n (i := 2) dX5_holdsIn_28 rfl rfl ?_
                    refine gX5_52 rfl dX5_holdsIn_29 (isS_0 hD hbTr) ?_
                    refine a_aload_n (i := 0) dX5_holdsIn_32 rfl rfl ?_
                    refine gX5_19 rfl dX5_holdsIn_33 (isSn_0 hD) ?_
                    refine a_iload_n (i := 3) dX5_holdsIn_36 rfl rfl ?_
                    refine a_ialdN dX5_holdsIn_37 (isSn_4 hD) (by first | with_reducible exact rfl | with_reducible exact ix8 _ _ | with_reducible exact ix12 _ _ | exact rfl) (by omega) (by decide) ?_
                    rw [em]
                    refine a_ialdN dX5_holdsIn_38 (isS_12 hD hbTr) (by first | with_reducible exact rfl | with_reducible exact ix8 _ _ | with_reducible exact ix12 _ _ | exact rfl) (by omega) (by decide) ?_
                    rw [ex]
                    refine a_aload_n (i := 0) dX5_holdsIn_39 rfl rfl ?_
                    refine gX5_22 rfl dX5_holdsIn_40 (isSn_0 hD) ?_
                    refine a_iload_n (i := 3) dX5_holdsIn_43 rfl rfl ?_
                    refine a_ialdN dX5_holdsIn_44 (isSn_5 hD) (by first | with_reducible exact rfl | with_reducible exact ix8 _ _ | with_reducible exact ix12 _ _ | exact rfl) (by omega) (by decide) ?_
                    rw [ec]
                    refine a_icmp_lt (tg := 52) dX5_holdsIn_45 (by decide) (fun c_45 => ?_) (fun c_45 => ?_)
                    · exact absurd qc (Int32.not_le.mpr c_45)
                    · refine a_iconst (v := 1) dX5_holdsIn_48 (by decide) ?_
                      refine a_goto (tg := 53) dX5_holdsIn_49 (by decide) ?_
                      refine a_aload_n (i := 0) dX5_holdsIn_53 rfl rfl ?_
                      refine gX5_25 rfl dX5_holdsIn_54 (isSn_0 hD) ?_
                      refine a_iload_n (i := 3) dX5_holdsIn_57 rfl rfl ?_
                      refine a_zaldN dX5_holdsIn_58 (isSn_6 hD) (by first | with_reducible exact rfl | with_reducible exact ix8 _ _ | with_reducible exact ix12 _ _ | exact rfl) (by omega) (by decide) ?_
                      rw [ea]
                      refine a_icmp_eq (tg := 64) dX5_holdsIn_59 (by decide) (fun c_59 => ?_) (fun c_59 => ?_)
                      · refine a_iincK (i := 3) (u := 1) dX5_holdsIn_64 rfl (by decide) (by decide) ?_
                        refine a_goto (tg := 2) dX5_holdsIn_67 (by decide) ?_
                        rw [nI_1]; exact a_loc _ rfl ih2
                      · exact absurd rfl c_59
            | false =>
              rw [hb] at ea
              refine a_iload_n (i := 3) dX5_holdsIn_2 rfl rfl ?_
              refine a_aload_n (i := 0) dX5_holdsIn_3 rfl rfl ?_
              refine gX5_35 rfl dX5_holdsIn_4 (isSn_0 hD) ?_
              rw [e0]
              refine a_icmp_ge (tg := 70) dX5_holdsIn_7 (by decide) (fun c_7 => ?_) (fun c_7 => ?_)
              · exact absurd c_7 (nI_ge iN (by omega))
              · refine a_aload_n (i := 0) dX5_holdsIn_10 rfl rfl ?_
                refine a_iload_n (i := 3) dX5_holdsIn_11 rfl rfl ?_
                refine kX5_42 rfl dX5_holdsIn_12 (Nat.le_of_ble_eq_true rfl) (isSn_0 hD) (hs) ?_
                refine a_if_eq (tg := 64) dX5_holdsIn_15 (by decide) (fun c_15 => ?_) (fun c_15 => ?_)
                · exact absurd c_15 (by decide)
                · refine a_aload_n (i := 0) dX5_holdsIn_18 rfl rfl ?_
                  refine gX5_15 rfl dX5_holdsIn_19 (isSn_0 hD) ?_
                  refine a_iload_n (i := 3) dX5_holdsIn_22 rfl rfl ?_
                  refine a_ialdN dX5_holdsIn_23 (isSn_3 hD) (by first | with_reducible exact rfl | with_reducible exact ix8 _ _ | with_reducible exact ix12 _ _ | exact rfl) (by omega) (by decide) ?_
                  rw [ey]
                  refine a_iload_n (i := 1) dX5_holdsIn_24 rfl rfl ?_
                  refine a_icmp_ne (tg := 64) dX5_holdsIn_25 (by decide) (fun c_25 => ?_) (fun c_25 => ?_)
                  · exact absurd (by rw [qn]) c_25
                  · refine a_aload_n (i := 2) dX5_holdsIn_28 rfl rfl ?_
                    refine gX5_52 rfl dX5_holdsIn_29 (isS_0 hD hbTr) ?_
                    refine a_aload_n (i := 0) dX5_holdsIn_32 rfl rfl ?_
                    refine gX5_19 rfl dX5_holdsIn_33 (isSn_0 hD) ?_
                    refine a_iload_n (i := 3) dX5_holdsIn_36 rfl rfl ?_
                    refine a_ialdN dX5_holdsIn_37 (isSn_4 hD) (by first | with_reducible exact rfl | with_reducible exact ix8 _ _ | with_reducible exact ix12 _ _ | exact rfl) (by omega) (by decide) ?_
                    rw [em]
                    refine a_ialdN dX5_holdsIn_38 (isS_12 hD hbTr) (by first | with_reducible exact rfl | with_reducible exact ix8 _ _ | with_reducible exact ix12 _ _ | exact rfl) (by omega) (by decide) ?_
                    rw [ex]
                    refine a_aload_n (i := 0) dX5_holdsIn_39 rfl rfl ?_
                    refine gX5_22 rfl dX5_holdsIn_40 (isSn_0 hD) ?_
                    refine a_iload_n (i := 3) dX5_holdsIn_43 rfl rfl ?_
                    refine a_ialdN dX5_holdsIn_44 (isSn_5 hD) (by first | with_reducible exact rfl | with_reducible exact ix8 _ _ | with_reducible exact ix12 _ _ | exact rfl) (by omega) (by decide) ?_
                    rw [ec]
                    refine a_icmp_lt (tg := 52) dX5_holdsIn_45 (by decide) (fun c_45 => ?_) (fun c_45 => ?_)
                    · exact absurd qc (Int32.not_le.mpr c_45)
                    · refine a_iconst (v := 1) dX5_holdsIn_48 (by decide) ?_
                      refine a_goto (tg := 53) dX5_holdsIn_49 (by decide) ?_
                      refine a_aload_n (i := 0) dX5_holdsIn_53 rfl rfl ?_
                      refine gX5_25 rfl dX5_holdsIn_54 (isSn_0 hD) ?_
                      refine a_iload_n (i := 3) dX5_holdsIn_57 rfl rfl ?_
                      refine a_zaldN dX5_holdsIn_58 (isSn_6 hD) (by first | with_reducible exact rfl | with_reducible exact ix8 _ _ | with_reducible exact ix12 _ _ | exact rfl) (by omega) (by decide) ?_
                      rw [ea]
                      refine a_icmp_eq (tg := 64) dX5_holdsIn_59 (by decide) (fun c_59 => ?_) (fun c_59 => ?_)
                      · exact absurd c_59 (by decide)
                      · refine a_iconst (v := 0) dX5_holdsIn_62 (by decide) ?_
                        exact a_iret dX5_holdsIn_63 (by exact ⟨rfl, rfl⟩)
          · rw [decide_eq_false qc]
            cases hb : (p.2 i).2.2.2 with
            | true =>
              rw [hb] at ea
              refine a_iload_n (i := 3) dX5_holdsIn_2 rfl rfl ?_
              refine a_aload_n (i := 0) dX5_holdsIn_3 rfl rfl ?_
              refine gX5_35 rfl dX5_holdsIn_4 (isSn_0 hD) ?_
              rw [e0]
              refine a_icmp_ge (tg := 70) dX5_holdsIn_7 (by decide) (fun c_7 => ?_) (fun c_7 => ?_)
              · exact absurd c_7 (nI_ge iN (by omega))
              · refine a_aload_n (i := 0) dX5_holdsIn_10 rfl rfl ?_
                refine a_iload_n (i := 3) dX5_holdsIn_11 rfl rfl ?_
                refine kX5_42 rfl dX5_holdsIn_12 (Nat.le_of_ble_eq_true rfl) (isSn_0 hD) (hs) ?_
                refine a_if_eq (tg := 64) dX5_holdsIn_15 (by decide) (fun c_15 => ?_) (fun c_15 => ?_)
                · exact absurd c_15 (by decide)
                · refine a_aload_n (i := 0) dX5_holdsIn_18 rfl rfl ?_
                  refine gX5_15 rfl dX5_holdsIn_19 (isSn_0 hD) ?_
                  refine a_iload_n (i := 3) dX5_holdsIn_22 rfl rfl ?_
                  refine a_ialdN dX5_holdsIn_23 (isSn_3 hD) (by first | with_reducible exact rfl | with_reducible exact ix8 _ _ | with_reducible exact ix12 _ _ | exact rfl) (by omega) (by decide) ?_
                  rw [ey]
                  refine a_iload_n (i := 1) dX5_holdsIn_24 rfl rfl ?_
                  refine a_icmp_ne (tg := 64) dX5_holdsIn_25 (by decide) (fun c_25 => ?_) (fun c_25 => ?_)
                  · exact absurd (by rw [qn]) c_25
                  · refine a_aload_n (i := 2) dX5_holdsIn_28 rfl rfl ?_
                    refine gX5_52 rfl dX5_holdsIn_29 (isS_0 hD hbTr) ?_
                    refine a_aload_n (i := 0) dX5_holdsIn_32 rfl rfl ?_
                    refine gX5_19 rfl dX5_holdsIn_33 (isSn_0 hD) ?_
                    refine a_iload_n (i := 3) dX5_holdsIn_36 rfl rfl ?_
                    refine a_ialdN dX5_holdsIn_37 (isSn_4 hD) (by first | with_reducible exact rfl | with_reducible exact ix8 _ _ | with_reducible exact ix12 _ _ | exact rfl) (by omega) (by decide) ?_
                    rw [em]
                    refine a_ialdN dX5_holdsIn_38 (isS_12 hD hbTr) (by first | with_reducible exact rfl | with_reducible exact ix8 _ _ | with_reducible exact ix12 _ _ | exact rfl) (by omega) (by decide) ?_
                    rw [ex]
                    refine a_aload_n (i := 0) dX5_holdsIn_39 rfl rfl ?_
                    refine gX5_22 rfl dX5_holdsIn_40 (isSn_0 hD) ?_
                    refine a_iload_n (i := 3) dX5_holdsIn_43 rfl rfl ?_
                    refine a_ialdN dX5_holdsIn_44 (isSn_5 hD) (by first | with_reducible exact rfl | with_reducible exact ix8 _ _ | with_reducible exact ix12 _ _ | exact rfl) (by omega) (by decide) ?_
                    rw [ec]
                    refine a_icmp_lt (tg := 52) dX5_holdsIn_45 (by decide) (fun c_45 => ?_) (fun c_45 => ?_)
                    · refine a_iconst (v := 0) dX5_holdsIn_52 (by decide) ?_
                      refine a_aload_n (i := 0) dX5_holdsIn_53 rfl rfl ?_
                      refine gX5_25 rfl dX5_holdsIn_54 (isSn_0 hD) ?_
                      refine a_iload_n (i := 3) dX5_holdsIn_57 rfl rfl ?_
                      refine a_zaldN dX5_holdsIn_58 (isSn_6 hD) (by first | with_reducible exact rfl | with_reducible exact ix8 _ _ | with_reducible exact ix12 _ _ | exact rfl) (by omega) (by decide) ?_
                      rw [ea]
                      refine a_icmp_eq (tg := 64) dX5_holdsIn_59 (by decide) (fun c_59 => ?_) (fun c_59 => ?_)
                      · exact absurd c_59 (by decide)
                      · refine a_iconst (v := 0) dX5_holdsIn_62 (by decide) ?_
                        exact a_iret dX5_holdsIn_63 (by exact ⟨rfl, rfl⟩)
                    · exact absurd (Int32.not_lt.mp c_45) qc
            | false =>
              rw [hb] at ea
              refine a_iload_n (i := 3) dX5_holdsIn_2 rfl rfl ?_
              refine a_aload_n (i := 0) dX5_holdsIn_3 rfl rfl ?_
              refine gX5_35 rfl dX5_holdsIn_4 (isSn_0 hD) ?_
              rw [e0]
              refine a_icmp_ge (tg := 70) dX5_holdsIn_7 (by decide) (fun c_7 => ?_) (fun c_7 => ?_)
              · exact absurd c_7 (nI_ge iN (by omega))
              · refine a_aload_n (i := 0) dX5_holdsIn_10 rfl rfl ?_
                refine a_iload_n (i := 3) dX5_holdsIn_11 rfl rfl ?_
                refine kX5_42 rfl dX5_holdsIn_12 (Nat.le_of_ble_eq_true rfl) (isSn_0 hD) (hs) ?_
                refine a_if_eq (tg := 64) dX5_holdsIn_15 (by decide) (fun c_15 => ?_) (fun c_15 => ?_)
                · exact absurd c_15 (by decide)
                · refine a_aload_n (i := 0) dX5_holdsIn_18 rfl rfl ?_
                  refine gX5_15 rfl dX5_holdsIn_19 (isSn_0 hD) ?_
                  refine a_iload_n (i := 3) dX5_holdsIn_22 rfl rfl ?_
                  refine a_ialdN dX5_holdsIn_23 (isSn_3 hD) (by first | with_reducible exact rfl | with_reducible exact ix8 _ _ | with_reducible exact ix12 _ _ | exact rfl) (by omega) (by decide) ?_
                  rw [ey]
                  refine a_iload_n (i := 1) dX5_holdsIn_24 rfl rfl ?_
                  refine a_icmp_ne (tg := 64) dX5_holdsIn_25 (by decide) (fun c_25 => ?_) (fun c_25 => ?_)
                  · exact absurd (by rw [qn]) c_25
                  · refine a_aload_n (i := 2) dX5_holdsIn_28 rfl rfl ?_
                    refine gX5_52 rfl dX5_holdsIn_29 (isS_0 hD hbTr) ?_
                    refine a_aload_n (i := 0) dX5_holdsIn_32 rfl rfl ?_
                    refine gX5_19 rfl dX5_holdsIn_33 (isSn_0 hD) ?_
                    refine a_iload_n (i := 3) dX5_holdsIn_36 rfl rfl ?_
                    refine a_ialdN dX5_holdsIn_37 (isSn_4 hD) (by first | with_reducible exact rfl | with_reducible exact ix8 _ _ | with_reducible exact ix12 _ _ | exact rfl) (by omega) (by decide) ?_
                    rw [em]
                    refine a_ialdN dX5_holdsIn_38 (isS_12 hD hbTr) (by first | with_reducible exact rfl | with_reducible exact ix8 _ _ | with_reducible exact ix12 _ _ | exact rfl) (by omega) (by decide) ?_
                    rw [ex]
                    refine a_aload_n (i := 0) dX5_holdsIn_39 rfl rfl ?_
                    refine gX5_22 rfl dX5_holdsIn_40 (isSn_0 hD) ?_
                    refine a_iload_n (i := 3) dX5_holdsIn_43 rfl rfl ?_
                    refine a_ialdN dX5_holdsIn_44 (isSn_5 hD) (by first | with_reducible exact rfl | with_reducible exact ix8 _ _ | with_reducible exact ix12 _ _ | exact rfl) (by omega) (by decide) ?_
                    rw [ec]
                    refine a_icmp_lt (tg := 52) dX5_holdsIn_45 (by decide) (fun c_45 => ?_) (fun c_45 => ?_)
                    · refine a_iconst (v := 0) dX5_holdsIn_52 (by decide) ?_
                      refine a_aload_n (i := 0) dX5_holdsIn_53 rfl rfl ?_
                      refine gX5_25 rfl dX5_holdsIn_54 (isSn_0 hD) ?_
                      refine a_iload_n (i := 3) dX5_holdsIn_57 rfl rfl ?_
                      refine a_zaldN dX5_holdsIn_58 (isSn_6 hD) (by first | with_reducible exact rfl | with_reducible exact ix8 _ _ | with_reducible exact ix12 _ _ | exact rfl) (by omega) (by decide) ?_
                      rw [ea]
                      refine a_icmp_eq (tg := 64) dX5_holdsIn_59 (by decide) (fun c_59 => ?_) (fun c_59 => ?_)
                      · refine a_iincK (i := 3) (u := 1) dX5_holdsIn_64 rfl (by decide) (by decide) ?_
                        refine a_goto (tg := 2) dX5_holdsIn_67 (by decide) ?_
                        rw [nI_1]; exact a_loc _ rfl ih2
                      · exact absurd rfl c_59
                    · exact absurd (Int32.not_lt.mp c_45) qc
        · have eb : zBad p c n Z i = false := by unfold zBad; rw [decide_eq_false qn, Bool.false_and, Bool.and_false]
          rw [eb, Bool.false_or]
          refine a_iload_n (i := 3) dX5_holdsIn_2 rfl rfl ?_
          refine a_aload_n (i := 0) dX5_holdsIn_3 rfl rfl ?_
          refine gX5_35 rfl dX5_holdsIn_4 (isSn_0 hD) ?_
          rw [e0]
          refine a_icmp_ge (tg := 70) dX5_holdsIn_7 (by decide) (fun c_7 => ?_) (fun c_7 => ?_)
          · exact absurd c_7 (nI_ge iN (by omega))
          · refine a_aload_n (i := 0) dX5_holdsIn_10 rfl rfl ?_
            refine a_iload_n (i := 3) dX5_holdsIn_11 rfl rfl ?_
            refine kX5_42 rfl dX5_holdsIn_12 (Nat.le_of_ble_eq_true rfl) (isSn_0 hD) (hs) ?_
            refine a_if_eq (tg := 64) dX5_holdsIn_15 (by decide) (fun c_15 => ?_) (fun c_15 => ?_)
            · exact absurd c_15 (by decide)
            · refine a_aload_n (i := 0) dX5_holdsIn_18 rfl rfl ?_
              refine gX5_15 rfl dX5_holdsIn_19 (isSn_0 hD) ?_
              refine a_iload_n (i := 3) dX5_holdsIn_22 rfl rfl ?_
              refine a_ialdN dX5_holdsIn_23 (isSn_3 hD) (by first | with_reducible exact rfl | with_reducible exact ix8 _ _ | with_reducible exact ix12 _ _ | exact rfl) (by omega) (by decide) ?_
              rw [ey]
              refine a_iload_n (i := 1) dX5_holdsIn_24 rfl rfl ?_
              refine a_icmp_ne (tg := 64) dX5_holdsIn_25 (by decide) (fun c_25 => ?_) (fun c_25 => ?_)
              · refine a_iincK (i := 3) (u := 1) dX5_holdsIn_64 rfl (by decide) (by decide) ?_
                refine a_goto (tg := 2) dX5_holdsIn_67 (by decide) ?_
                rw [nI_1]; exact a_loc _ rfl ih2
              · exact absurd ((nI_eq (by omega) (by omega)).mp c_25) qn
      · have hz : (c i && !decide ((p.2 i).1 = 0)) = false := by
          cases hc : c i with
          | false => rfl
          | true => rw [decide_eq_true (Classical.byContradiction (fun g => q ⟨hc, g⟩))]; rfl
        have eb : zBad p c n Z i = false := by
          unfold zBad
          cases hc : c i with
          | false => rfl
          | true =>
            have : (p.2 i).1 = 0 := Classical.byContradiction (fun g => q ⟨hc, g⟩)
            rw [decide_eq_false (show ¬ (p.2 i).1 = n by omega)]; rfl
        rw [hz] at hs
        rw [eb, Bool.false_or]
        refine a_iload_n (i := 3) dX5_holdsIn_2 rfl rfl ?_
        refine a_aload_n (i := 0) dX5_holdsIn_3 rfl rfl ?_
        refine gX5_35 rfl dX5_holdsIn_4 (isSn_0 hD) ?_
        rw [e0]
        refine a_icmp_ge (tg := 70) dX5_holdsIn_7 (by decide) (fun c_7 => ?_) (fun c_7 => ?_)
        · exact absurd c_7 (nI_ge iN (by omega))
        · refine a_aload_n (i := 0) dX5_holdsIn_10 rfl rfl ?_
          refine a_iload_n (i := 3) dX5_holdsIn_11 rfl rfl ?_
          refine kX5_42 rfl dX5_holdsIn_12 (Nat.le_of_ble_eq_true rfl) (isSn_0 hD) (hs) ?_
          refine a_if_eq (tg := 64) dX5_holdsIn_15 (by decide) (fun c_15 => ?_) (fun c_15 => ?_)
          · refine a_iincK (i := 3) (u := 1) dX5_holdsIn_64 rfl (by decide) (by decide) ?_
            refine a_goto (tg := 2) dX5_holdsIn_67 (by decide) ?_
            rw [nI_1]; exact a_loc _ rfl ih2
          · exact absurd rfl c_15
  refine a_iconst (v := 0) dX5_holdsIn_0 (by decide) ?_
  refine a_istore_n (i := 3) dX5_holdsIn_1 rfl (by decide) ?_
  exact a_loc _ rfl (L p.1 0 (Nat.zero_add _))
theorem rCt_y {y : aS} (hF : aFy bTr x y) (h : rCt c x) : rCt c y := fun i hi => by rw [(hF _ (by decide) (by decide)).1]; exact h i hi
theorem rG_y {y : aS} (hF : aFy bTr x y) (h : rG p x) : rG p y := rG_o (fun n hn _ => (hF n (by rw [hn]; decide) (by omega)).1) h
/-- the trial at first, with another bump -/
theorem begin_b {m b : Nat} (h : cT T W x t) : rS T (zB0 T m b) (aWr (sBegin x t bTr (T.1 0) (T.1 1)) (bTr + 11) m (nI b)) bTr ∧ aFy bTr x (aWr (sBegin x t bTr (T.1 0) (T.1 1)) (bTr + 11) m (nI b)) := by
  obtain ⟨ht, _, ok, hT, _⟩ := h
  have S1 := rS_begin ht hbTr ok hT
  have F1 : aFy bTr x (sBegin x t bTr (T.1 0) (T.1 1)) := by
    unfold sBegin sBegin0
    refine aFy_t (aFy_t (aFy_t (aFy_t (aFy_t (aFy_w rfl) (aFy_w rfl)) (aFy_w rfl)) (aFy_w rfl)) (aFy_bareAll hbTr)) (aFy_lp (fun i y => ?_) _ _ _)
    unfold sBegin1
    exact aFy_t (aFy_t (aFy_w (by decide)) (aFy_w (by decide))) (aFy_w (by decide))
  refine ⟨?_, aFy_t F1 (aFy_w (by decide))⟩
  obtain ⟨q1, q2, q3, q4⟩ := S1
  refine ⟨fun i hi => ?_, ?_, fun g hg => ?_, fun n hn => ?_⟩
  · rw [aWr_n _ _ _ (by decide), q1 i hi]; simp [zB0, zui]
  · rw [aWr_n _ _ _ (by decide), q2]; rfl
  · rw [aWr_n _ _ _ (by decide), aWr_n _ _ _ (by decide), aWr_n _ _ _ (by decide), aWr_n _ _ _ (by decide), aWr_n _ _ _ (by decide)]
    exact q3 g hg
  · rw [aWr_n (a := bTr + 10) _ _ _ (by decide), aWr_n (a := bTr + 12) _ _ _ (by decide)]
    obtain ⟨a1, a2, a3⟩ := q4 n hn
    refine ⟨a1, ?_, by rw [a3]; simp [zB0, zui]⟩
    by_cases e : n = m
    · subst e; rw [aWr_s]; simp [zB0, zui]
    · rw [aWr_j _ _ _ e, a2]; simp [zB0, zui, e]
set_option maxHeartbeats 4000000 in
set_option maxRecDepth 100000 in
theorem c_X11_fitsWhatIsKnown {m b : Nat} (hD : aDC D) (h : cT T W x t) (ok : sgOk T p) (hg : rG p x) (hc : rCt c x) (hm : m < T.1 1) : aCt l mX11_fitsWhatIsKnown (d + 5) D [.ref bLH, .int (nI m), .int (nI b)] x (fun v y => v = some (.int (bI (zFit T W p c m b))) ∧ aFy bTr x y) := by
  have hh := h
  obtain ⟨ht, hp, tk, hT, hW⟩ := h
  have h6 := tk.1
  have h8 := tk.2.1
  obtain ⟨S0, F0⟩ := begin_b (m := m) (b := b) hh
  have ly := (zLy_ok (c := c) ok).1
  refine a_met (by decide) (Nat.le_of_ble_eq_true rfl) (fun v y q => Or.inr (Or.inl ⟨rfl, _, q.1, bI_01 _⟩)) ?_
  rw [← zFit_c (T := T) (W := W) (m := m) (b := b) (c := c) ok]
  have L : ∀ (f n : Nat), n + f = zLy p c + 1 → 0 < n → ∀ (Y : zS) (y : aS), zOk T Y → rS T Y y bTr → aFy bTr x y → aV l mX11_fitsWhatIsKnown (d + 5) D none 32 [(0, .ref bLH), (3, .int (nI (zLy p c))), (4, .int (nI n))] [] y (fun v y => v = some (.int (bI (zHd T W p c f n Y))) ∧ aFy bTr x y) := by
    intro f
    induction f with
    | zero =>
      intro n hn n0 Y y hY hS hF
      rw [Nat.add_zero] at hn
      refine a_iload (i := 4) dX11_fitsWhatIsKnown_32 rfl ?_
      refine a_iload_n (i := 3) dX11_fitsWhatIsKnown_34 rfl rfl ?_
      refine a_icmp_gt (tg := 78) dX11_fitsWhatIsKnown_35 (by decide) (fun c_35 => ?_) (fun c_35 => ?_)
      · refine a_iconst (v := 1) dX11_fitsWhatIsKnown_78 (by decide) ?_
        exact a_iret dX11_fitsWhatIsKnown_79 (by exact ⟨rfl, hF⟩)
      · exact absurd (nI_lt (show zLy p c < n by omega) (by omega)) c_35
    | succ f ih =>
      intro n hn n0 Y y hY hS hF
      obtain ⟨_, hpy, _, hTy, hWy⟩ := cT_y hbTr hF hh
      show aV _ _ _ _ _ _ _ _ _ (fun v y => v = some (.int (bI (if zAny (zBad p c n (zYear T W 5 Y)) 0 p.1 = true then false else zHd T W p c f (n + 1) (zYear T W 5 Y)))) ∧ aFy bTr x y)
      have G : ∀ z : aS, zOk T (zYear T W 5 Y) → rS T (zYear T W 5 Y) z bTr → aFy bTr x z → aV l mX11_fitsWhatIsKnown (d + 5) D none 54 [(0, .ref bLH), (3, .int (nI (zLy p c))), (4, .int (nI n))] [] z (fun v y => v = some (.int (bI (if zAny (zBad p c n (zYear T W 5 Y)) 0 p.1 = true then false else zHd T W p c f (n + 1) (zYear T W 5 Y)))) ∧ aFy bTr x y) := by
        intro z hZz hSz hFz
        have hq := c_X5_holdsIn (l := l) (d := d + 3) (n := n) hD tk ok (rG_y hFz hg) (rCt_y hFz hc) hSz n0 (by omega)
        have ih2 := ih (n + 1) (by omega) (by omega) _ z hZz hSz hFz
        cases q : zAny (zBad p c n (zYear T W 5 Y)) 0 p.1 with
        | true =>
          rw [q] at hq
          refine a_aload_n (i := 0) dX11_fitsWhatIsKnown_54 rfl rfl ?_
          refine gX11_50 rfl dX11_fitsWhatIsKnown_55 (isLH_0 hD) ?_
          refine a_iload (i := 4) dX11_fitsWhatIsKnown_58 rfl ?_
          refine a_aload_n (i := 0) dX11_fitsWhatIsKnown_60 rfl rfl ?_
          refine gX11_37 rfl dX11_fitsWhatIsKnown_61 (isLH_0 hD) ?_
          refine kX11_356 rfl dX11_fitsWhatIsKnown_64 (Nat.le_of_ble_eq_true rfl) (isSn_0 hD) (hq) ?_
          refine a_if_ne (tg := 72) dX11_fitsWhatIsKnown_67 (by decide) (fun c_67 => ?_) (fun c_67 => ?_)
          · exact absurd rfl c_67
          · refine a_iconst (v := 0) dX11_fitsWhatIsKnown_70 (by decide) ?_
            exact a_iret dX11_fitsWhatIsKnown_71 (by exact ⟨rfl, hFz⟩)
        | false =>
          rw [q] at hq
          rw [if_neg (by decide)]
          refine a_aload_n (i := 0) dX11_fitsWhatIsKnown_54 rfl rfl ?_
          refine gX11_50 rfl dX11_fitsWhatIsKnown_55 (isLH_0 hD) ?_
          refine a_iload (i := 4) dX11_fitsWhatIsKnown_58 rfl ?_
          refine a_aload_n (i := 0) dX11_fitsWhatIsKnown_60 rfl rfl ?_
          refine gX11_37 rfl dX11_fitsWhatIsKnown_61 (isLH_0 hD) ?_
          refine kX11_356 rfl dX11_fitsWhatIsKnown_64 (Nat.le_of_ble_eq_true rfl) (isSn_0 hD) (hq) ?_
          refine a_if_ne (tg := 72) dX11_fitsWhatIsKnown_67 (by decide) (fun c_67 => ?_) (fun c_67 => ?_)
          · refine a_iincK (i := 4) (u := 1) dX11_fitsWhatIsKnown_72 rfl (by decide) (by decide) ?_
            refine a_goto (tg := 32) dX11_fitsWhatIsKnown_75 (by decide) ?_
            rw [nI_1]; exact a_loc _ rfl ih2
          · exact absurd c_67 (by decide)
      refine a_iload (i := 4) dX11_fitsWhatIsKnown_32 rfl ?_
      refine a_iload_n (i := 3) dX11_fitsWhatIsKnown_34 rfl rfl ?_
      refine a_icmp_gt (tg := 78) dX11_fitsWhatIsKnown_35 (by decide) (fun c_35 => ?_) (fun c_35 => ?_)
      · exact absurd c_35 (nI_nlt (show n ≤ zLy p c by omega) (by omega))
      · refine a_aload_n (i := 0) dX11_fitsWhatIsKnown_38 rfl rfl ?_
        refine gX11_43 rfl dX11_fitsWhatIsKnown_39 (isLH_0 hD) ?_
        refine a_aload_n (i := 0) dX11_fitsWhatIsKnown_42 rfl rfl ?_
        refine gX11_23 rfl dX11_fitsWhatIsKnown_43 (isLH_0 hD) ?_
        rw [hpy]
        refine a_aload_n (i := 0) dX11_fitsWhatIsKnown_46 rfl rfl ?_
        refine gX11_37 rfl dX11_fitsWhatIsKnown_47 (isLH_0 hD) ?_
        refine a_iconst (v := 5) dX11_fitsWhatIsKnown_50 (by decide) ?_
        refine kgX11_272 rfl dX11_fitsWhatIsKnown_51 (Nat.le_of_ble_eq_true rfl) (isYr_0 hD) (c_X10_pass (way := 5) hD hbTr ht tk hY hTy hWy hS (by decide)) ?_
        rintro v z ⟨rfl, hSz, hZz, hFz⟩
        exact a_loc _ rfl (G z hZz hSz (aFy_t hF hFz))
  have hly := c_X5_latestYear (l := l) (d := d + 3) (p := p) hD ok (rG_y F0 hg) (rCt_y F0 hc)
  refine a_aload_n (i := 0) dX11_fitsWhatIsKnown_0 rfl rfl ?_
  refine gX11_37 rfl dX11_fitsWhatIsKnown_1 (isLH_0 hD) ?_
  refine a_aload_n (i := 0) dX11_fitsWhatIsKnown_4 rfl rfl ?_
  refine gX11_23 rfl dX11_fitsWhatIsKnown_5 (isLH_0 hD) ?_
  rw [hp]
  refine kX11_87 rfl dX11_fitsWhatIsKnown_8 (Nat.le_of_ble_eq_true rfl) (isS_0 hD hbTr) (c_X6_begin hD hbTr ht hT.1 h6 hT.2.1 h8) ?_
  refine a_aload_n (i := 0) dX11_fitsWhatIsKnown_11 rfl rfl ?_
  refine gX11_37 rfl dX11_fitsWhatIsKnown_12 (isLH_0 hD) ?_
  refine gX11_144 rfl dX11_fitsWhatIsKnown_15 (isS_0 hD hbTr) ?_
  refine a_iload_n (i := 1) dX11_fitsWhatIsKnown_18 rfl rfl ?_
  refine a_iload_n (i := 2) dX11_fitsWhatIsKnown_19 rfl rfl ?_
  refine a_iastN dX11_fitsWhatIsKnown_20 (isS_11 hD hbTr) (by first | with_reducible exact rfl | with_reducible exact ix8 _ _ | with_reducible exact ix12 _ _ | exact rfl) (by omega) (by decide) ?_
  refine a_aload_n (i := 0) dX11_fitsWhatIsKnown_21 rfl rfl ?_
  refine gX11_50 rfl dX11_fitsWhatIsKnown_22 (isLH_0 hD) ?_
  refine kX11_353 rfl dX11_fitsWhatIsKnown_25 (Nat.le_of_ble_eq_true rfl) (isSn_0 hD) (hly) ?_
  refine a_istore_n (i := 3) dX11_fitsWhatIsKnown_28 rfl (by decide) ?_
  refine a_iconst (v := 1) dX11_fitsWhatIsKnown_29 (by decide) ?_
  refine a_istore (i := 4) dX11_fitsWhatIsKnown_30 (by decide) ?_
  exact a_loc _ rfl (L (zLy p c) 1 (by omega) (by decide) (zB0 T m b) _ (zOk_0 tk) S0 F0)
set_option maxHeartbeats 4000000 in
set_option maxRecDepth 100000 in
theorem c_X11_possibleBumps {m : Nat} {k : Int32} (hD : aDC D) (h : cT T W x t) (ok : sgOk T p) (hg : rG p x) (hk : x.1 bSn 1 = k) (hK : (if k = -1 then nI p.1 else k) = nI K) (hKp : K ≤ p.1) (hm : m < T.1 1) : aCt l mX11_possibleBumps (d + 6) D [.ref bLH, .int (nI m)] x (fun v y => v = some (.int (nI (bN (zFit T W p (zCt p K) m) 21))) ∧ cFs x y) := by
  refine a_met (by decide) (Nat.le_of_ble_eq_true rfl) (fun v y q => Or.inl ⟨rfl, _, q.1⟩) ?_
  have L : ∀ X : aS, cT T W X t → rG p X → rCt (zCt p K) X → cFs x X → ∀ (f b : Nat), b + f = 21 → ∀ y : aS, aFy bTr X y → aV l mX11_possibleBumps (d + 6) D none 11 [(0, .ref bLH), (1, .int (nI m)), (2, .int (nI (bN (zFit T W p (zCt p K) m) b))), (3, .int (nI b))] [] y (fun v y => v = some (.int (nI (bN (zFit T W p (zCt p K) m) 21))) ∧ cFs x y) := by
    intro X hX hgX hcX hFX f
    induction f with
    | zero =>
      intro b hb y hF
      rw [Nat.add_zero] at hb
      subst hb
      refine a_iload_n (i := 3) dX11_possibleBumps_11 rfl rfl ?_
      refine a_bipush (v := 20) dX11_possibleBumps_12 (by decide) ?_
      refine a_icmp_gt (tg := 38) dX11_possibleBumps_14 (by decide) (fun c_14 => ?_) (fun c_14 => ?_)
      · refine a_iload_n (i := 2) dX11_possibleBumps_38 rfl rfl ?_
        exact a_iret dX11_possibleBumps_39 (by exact ⟨rfl, cFs_t hFX (cFs_y hF)⟩)
      · exact absurd (by decide) c_14
    | succ f ih =>
      intro b hb y hF
      have hq := c_X11_fitsWhatIsKnown (l := l) (d := d) (m := m) (b := b) hD (cT_y hbTr hF hX) ok (rG_y hF hgX) (rCt_y hF hcX) hm
      have ob := bN_or (B := zFit T W p (zCt p K) m) (k := b) (by omega)
      cases q : zFit T W p (zCt p K) m b with
      | true =>
        rw [q] at hq
        have eb : bN (zFit T W p (zCt p K) m) (b + 1) = bN (zFit T W p (zCt p K) m) b ||| 2 ^ b := if_pos q
        rw [← eb] at ob
        refine a_iload_n (i := 3) dX11_possibleBumps_11 rfl rfl ?_
        refine a_bipush (v := 20) dX11_possibleBumps_12 (by decide) ?_
        refine a_icmp_gt (tg := 38) dX11_possibleBumps_14 (by decide) (fun c_14 => ?_) (fun c_14 => ?_)
        · exact absurd c_14 (nI_nlt (show b ≤ 20 by omega) (by decide))
        · refine a_aload_n (i := 0) dX11_possibleBumps_17 rfl rfl ?_
          refine a_iload_n (i := 1) dX11_possibleBumps_18 rfl rfl ?_
          refine a_iload_n (i := 3) dX11_possibleBumps_19 rfl rfl ?_
          refine kgX11_350 rfl dX11_possibleBumps_20 (Nat.le_of_ble_eq_true rfl) (isLH_0 hD) (hq) ?_
          rintro v z ⟨rfl, hFz⟩
          refine a_if_eq (tg := 32) dX11_possibleBumps_23 (by decide) (fun c_23 => ?_) (fun c_23 => ?_)
          · exact absurd c_23 (by decide)
          · refine a_iload_n (i := 2) dX11_possibleBumps_26 rfl rfl ?_
            refine a_iconst (v := 1) dX11_possibleBumps_27 (by decide) ?_
            refine a_iload_n (i := 3) dX11_possibleBumps_28 rfl rfl ?_
            refine a_ishl dX11_possibleBumps_29 ?_
            refine a_ior dX11_possibleBumps_30 ?_
            rw [ob]
            refine a_istore_n (i := 2) dX11_possibleBumps_31 rfl (by decide) ?_
            refine a_iincK (i := 3) (u := 1) dX11_possibleBumps_32 rfl (by decide) (by decide) ?_
            refine a_goto (tg := 11) dX11_possibleBumps_35 (by decide) ?_
            rw [nI_1]; exact a_loc _ rfl (ih (b + 1) (by omega) z (aFy_t hF hFz))
      | false =>
        rw [q] at hq
        have eb : bN (zFit T W p (zCt p K) m) (b + 1) = bN (zFit T W p (zCt p K) m) b := if_neg (by rw [q]; decide)
        have ih2 := ih (b + 1) (by omega)
        rw [eb] at ih2
        refine a_iload_n (i := 3) dX11_possibleBumps_11 rfl rfl ?_
        refine a_bipush (v := 20) dX11_possibleBumps_12 (by decide) ?_
        refine a_icmp_gt (tg := 38) dX11_possibleBumps_14 (by decide) (fun c_14 => ?_) (fun c_14 => ?_)
        · exact absurd c_14 (nI_nlt (show b ≤ 20 by omega) (by decide))
        · refine a_aload_n (i := 0) dX11_possibleBumps_17 rfl rfl ?_
          refine a_iload_n (i := 1) dX11_possibleBumps_18 rfl rfl ?_
          refine a_iload_n (i := 3) dX11_possibleBumps_19 rfl rfl ?_
          refine kgX11_350 rfl dX11_possibleBumps_20 (Nat.le_of_ble_eq_true rfl) (isLH_0 hD) (hq) ?_
          rintro v z ⟨rfl, hFz⟩
          refine a_if_eq (tg := 32) dX11_possibleBumps_23 (by decide) (fun c_23 => ?_) (fun c_23 => ?_)
          · refine a_iincK (i := 3) (u := 1) dX11_possibleBumps_32 rfl (by decide) (by decide) ?_
            refine a_goto (tg := 11) dX11_possibleBumps_35 (by decide) ?_
            rw [nI_1]; exact a_loc _ rfl (ih2 z (aFy_t hF hFz))
          · exact absurd rfl c_23
  have G : ∀ X : aS, (∀ n, n ≠ bSn + 8 → X.1 n = x.1 n) → X.2 = x.2 → cT T W X t ∧ rG p X ∧ cFs x X := fun X h1 h2 => by
    obtain ⟨ht, hp, tk, hT, hW⟩ := h
    have et : ∀ k, k < 256 → X.1 (t + k) = x.1 (t + k) := fun k hk => h1 _ (by rcases ht with rfl | rfl <;> unfold bSn <;> omega)
    exact ⟨⟨ht, by rw [h1 _ (by decide)]; exact hp, tk, rT_same et tk hT, rW_same et hW⟩, rG_o (fun n _ hn => h1 n hn) hg, fun n _ _ _ e => ⟨h1 n e, by rw [h2]⟩⟩
  refine a_aload_n (i := 0) dX11_possibleBumps_0 rfl rfl ?_
  refine gX11_50 rfl dX11_possibleBumps_1 (isLH_0 hD) ?_
  refine kgX11_347 rfl dX11_possibleBumps_4 (Nat.le_of_ble_eq_true rfl) (isSn_0 hD) (c_X5_sift (T := T) hD ok hg hk hK hKp) ?_
  rintro v X ⟨rfl, hcX, h1X, h2X⟩
  obtain ⟨g1, g2, g3⟩ := G X h1X h2X
  refine a_iconst (v := 0) dX11_possibleBumps_7 (by decide) ?_
  refine a_istore_n (i := 2) dX11_possibleBumps_8 rfl (by decide) ?_
  refine a_iconst (v := 0) dX11_possibleBumps_9 (by decide) ?_
  refine a_istore_n (i := 3) dX11_possibleBumps_10 rfl (by decide) ?_
  exact a_loc _ rfl (L X g1 g2 hcX g3 21 0 rfl X aFy_r)
def qBumps (T : zT) (W : Nat → zL) (p : Nat × zG) (K : Nat) (a : Int32) : Int32 := if zIn (T.1 1) a then nI (bN (zFit T W p (zCt p K) a.toNatClampNeg) 21) else -1
theorem cFs_r : cFs x x := fun _ _ _ _ _ => ⟨rfl, rfl⟩
set_option maxHeartbeats 4000000 in
set_option maxRecDepth 100000 in
theorem c_X11_bumps {a k : Int32} (hD : aDC D) (h : cR T W Z x t) (ok : sgOk T p) (hg : rG p x) (hk : x.1 bSn 1 = k) (hK : (if k = -1 then nI p.1 else k) = nI K) (hKp : K ≤ p.1) : aCt l mX11_bumps (d + 7) D [.ref bLH, .int a] x (fun v y => v = some (.int (qBumps T W p K a)) ∧ cFs x y) := by
  have hh := h
  obtain ⟨ht, hp, tk, hZ, hT, hW, hS⟩ := h
  have h8 := tk.2.1
  refine a_met (by decide) (Nat.le_of_ble_eq_true rfl) (fun v y q => Or.inl ⟨rfl, _, q.1⟩) ?_
  unfold qBumps
  by_cases q : zIn (T.1 1) a
  · rw [if_pos q]
    obtain ⟨A, hA, rfl⟩ := zIn_of (by omega) q
    rw [nI_clamp (by omega)]
    refine a_aload_n (i := 0) dX11_bumps_0 rfl rfl ?_
    refine a_iload_n (i := 1) dX11_bumps_1 rfl rfl ?_
    refine kX11_125 rfl dX11_bumps_2 (Nat.le_of_ble_eq_true rfl) (isLH_0 hD) (c_X11_isMan hD ht hp hT) ?_
    refine a_if_eq (tg := 16) dX11_bumps_5 (by decide) (fun c_5 => ?_) (fun c_5 => ?_)
    · exact absurd c_5 (bI_p.mpr q)
    · refine a_aload_n (i := 0) dX11_bumps_8 rfl rfl ?_
      refine a_iload_n (i := 1) dX11_bumps_9 rfl rfl ?_
      refine kgX11_344 rfl dX11_bumps_10 (Nat.le_of_ble_eq_true rfl) (isLH_0 hD) (c_X11_possibleBumps hD (cR_T hh) ok hg hk hK hKp hA) ?_
      rintro v y ⟨rfl, hF⟩
      refine a_goto (tg := 17) dX11_bumps_13 (by decide) ?_
      exact a_iret dX11_bumps_17 (by exact ⟨rfl, hF⟩)
  · rw [if_neg q]
    refine a_aload_n (i := 0) dX11_bumps_0 rfl rfl ?_
    refine a_iload_n (i := 1) dX11_bumps_1 rfl rfl ?_
    refine kX11_125 rfl dX11_bumps_2 (Nat.le_of_ble_eq_true rfl) (isLH_0 hD) (c_X11_isMan hD ht hp hT) ?_
    refine a_if_eq (tg := 16) dX11_bumps_5 (by decide) (fun c_5 => ?_) (fun c_5 => ?_)
    · refine a_iconst (v := (-1)) dX11_bumps_16 (by decide) ?_
      exact a_iret dX11_bumps_17 (by exact ⟨rfl, cFs_r⟩)
    · exact absurd (bI_p.mp c_5) q
end qY
