/-! bumps, ask: the model (2) -/
section qAB
variable {l : Launch} {d : Nat} {D : Nat → Bool} {T : zT} {W : Nat → zL} {Z : zS} {t : Nat} {x : aS} {p : Nat × zG} {c : Nat → Bool} {K : Nat}
theorem mF_82 {y : aS} (h1 : ∀ n, n ≠ bM + 82 → y.1 n = x.1 n) (h2 : y.2 = x.2) : mF x y := ⟨fun n j g => by rw [h1 n (fun e => g (Or.inr (Or.inr (Or.inr (Or.inr (Or.inr (Or.inl e)))))))], fun n _ _ => by rw [h2]⟩
theorem mF_83 {y : aS} {j : Nat} {v : Int32} (h : mF x y) : mF x (aWr y (bM + 83) j v) := mF_t h (mF_w (Or.inr (Or.inr (Or.inr (Or.inr (Or.inr (Or.inr rfl)))))))
set_option maxHeartbeats 4000000 in
set_option maxRecDepth 100000 in
theorem c_X12_bumpBits {m : Nat} {k : Int32} (hM : D 12 = true) (h : mQ T W Z x) (ok : sgOk T p) (hs : mSe p k x) (hk1 : -1 ≤ k) (hK : (if k = -1 then nI p.1 else k) = nI K) (hKp : K ≤ p.1) (hm : m < T.1 1) : aCt l mX12_bumpBits (d + 8) D [.ref bM, .int (nI m)] x (fun v y => v = some (.int (nI (bN (zFit T W p (zCt p K) m) 21))) ∧ mF x y) := by
  have p24 := ok.1
  refine a_met (by decide) (Nat.le_of_ble_eq_true rfl) (fun v y q => Or.inl ⟨rfl, _, q.1⟩) ?_
  have kn : ∀ y, mF x y → aDI l mX12_knownBy (d + 7) D [.ref bM] y (nI K) y := fun y hF => by
    obtain ⟨s1, s2⟩ := mSe_F hF hs
    have := c_X12_knownBy (l := l) (d := d + 7) hM s1.1 s2 hk1
    rwa [hK] at this
  have L3 : ∀ (f b : Nat), b + f = 21 → ∀ y : aS, mF x y → rCM (zCt p K) K y → aV l mX12_bumpBits (d + 8) D none 80 [(0, .ref bM), (1, .int (nI m)), (2, .int (nI (bN (zFit T W p (zCt p K) m) b))), (3, .int (nI b))] [] y (fun v y => v = some (.int (nI (bN (zFit T W p (zCt p K) m) 21))) ∧ mF x y) := by
    intro f
    induction f with
    | zero =>
      intro b hb y hF hc
      rw [Nat.add_zero] at hb
      subst hb
      refine a_iload_n (i := 3) dX12_bumpBits_80 rfl rfl ?_
      refine a_bipush (v := 21) dX12_bumpBits_81 (by decide) ?_
      refine a_icmp_ge (tg := 111) dX12_bumpBits_83 (by decide) (fun c_83 => ?_) (fun c_83 => ?_)
      · refine a_iload_n (i := 2) dX12_bumpBits_111 rfl rfl ?_
        exact a_iret dX12_bumpBits_112 (by exact ⟨rfl, hF⟩)
      · exact absurd (Int32.le_refl _) c_83
    | succ f ih =>
      intro b hb y hF hc
      have hq := c_X12_fits (l := l) (d := d) (m := m) (b := b) hM (mQ_F hF h) ok (mSe_F hF hs) hk1 hK hKp hc (fun i hi => zCt_off hi) hm
      have ob := bN_or (B := zFit T W p (zCt p K) m) (k := b) (by omega)
      cases q : zFit T W p (zCt p K) m b with
      | true =>
        rw [q] at hq
        have eb : bN (zFit T W p (zCt p K) m) (b + 1) = bN (zFit T W p (zCt p K) m) b ||| 2 ^ b := if_pos q
        rw [← eb] at ob
        refine a_iload_n (i := 3) dX12_bumpBits_80 rfl rfl ?_
        refine a_bipush (v := 21) dX12_bumpBits_81 (by decide) ?_
        refine a_icmp_ge (tg := 111) dX12_bumpBits_83 (by decide) (fun c_83 => ?_) (fun c_83 => ?_)
        · exact absurd c_83 (nI_ge (show b < 21 by omega) (by decide))
        · refine a_iload_n (i := 2) dX12_bumpBits_86 rfl rfl ?_
          refine a_aload_n (i := 0) dX12_bumpBits_87 rfl rfl ?_
          refine a_iload_n (i := 1) dX12_bumpBits_88 rfl rfl ?_
          refine a_iload_n (i := 3) dX12_bumpBits_89 rfl rfl ?_
          refine kgX12_565 rfl dX12_bumpBits_90 (Nat.le_of_ble_eq_true rfl) (isM_0 hM) (hq) ?_
          rintro v z ⟨rfl, hFz, hcz⟩
          refine a_if_eq (tg := 102) dX12_bumpBits_93 (by decide) (fun c_93 => ?_) (fun c_93 => ?_)
          · exact absurd c_93 (by decide)
          · refine a_iconst (v := 1) dX12_bumpBits_96 (by decide) ?_
            refine a_iload_n (i := 3) dX12_bumpBits_97 rfl rfl ?_
            refine a_ishl dX12_bumpBits_98 ?_
            refine a_goto (tg := 103) dX12_bumpBits_99 (by decide) ?_
            refine a_ior dX12_bumpBits_103 ?_
            rw [ob]
            refine a_istore_n (i := 2) dX12_bumpBits_104 rfl (by decide) ?_
            refine a_iincK (i := 3) (u := 1) dX12_bumpBits_105 rfl (by decide) (by decide) ?_
            refine a_goto (tg := 80) dX12_bumpBits_108 (by decide) ?_
            rw [nI_1]; exact a_loc _ rfl (ih (b + 1) (by omega) z (mF_t hF hFz) hcz)
      | false =>
        rw [q] at hq
        have eb : bN (zFit T W p (zCt p K) m) (b + 1) = bN (zFit T W p (zCt p K) m) b := if_neg (by rw [q]; decide)
        have ih2 := ih (b + 1) (by omega)
        rw [eb] at ih2
        refine a_iload_n (i := 3) dX12_bumpBits_80 rfl rfl ?_
        refine a_bipush (v := 21) dX12_bumpBits_81 (by decide) ?_
        refine a_icmp_ge (tg := 111) dX12_bumpBits_83 (by decide) (fun c_83 => ?_) (fun c_83 => ?_)
        · exact absurd c_83 (nI_ge (show b < 21 by omega) (by decide))
        · refine a_iload_n (i := 2) dX12_bumpBits_86 rfl rfl ?_
          refine a_aload_n (i := 0) dX12_bumpBits_87 rfl rfl ?_
          refine a_iload_n (i := 1) dX12_bumpBits_88 rfl rfl ?_
          refine a_iload_n (i := 3) dX12_bumpBits_89 rfl rfl ?_
          refine kgX12_565 rfl dX12_bumpBits_90 (Nat.le_of_ble_eq_true rfl) (isM_0 hM) (hq) ?_
          rintro v z ⟨rfl, hFz, hcz⟩
          refine a_if_eq (tg := 102) dX12_bumpBits_93 (by decide) (fun c_93 => ?_) (fun c_93 => ?_)
          · refine a_iconst (v := 0) dX12_bumpBits_102 (by decide) ?_
            refine a_ior dX12_bumpBits_103 ?_
            rw [Int32.or_zero]
            refine a_istore_n (i := 2) dX12_bumpBits_104 rfl (by decide) ?_
            refine a_iincK (i := 3) (u := 1) dX12_bumpBits_105 rfl (by decide) (by decide) ?_
            refine a_goto (tg := 80) dX12_bumpBits_108 (by decide) ?_
            rw [nI_1]; exact a_loc _ rfl (ih2 z (mF_t hF hFz) hcz)
          · exact absurd rfl c_93
  have L2 : ∀ (j : Nat), j ≤ K → ∀ (c : Nat → Bool) (y : aS), zSf p j c = zCt p K → rCM c K y → (∀ n, n ≠ bM + 82 → y.1 n = x.1 n) → y.2 = x.2 → aV l mX12_bumpBits (d + 8) D none 30 [(0, .ref bM), (1, .int (nI m)), (2, .int (nI j - 1))] [] y (fun v y => v = some (.int (nI (bN (zFit T W p (zCt p K) m) 21))) ∧ mF x y) := by
    intro j
    induction j with
    | zero =>
      intro _ c y hz h1 h2 h3
      have hz2 : c = zCt p K := hz
      subst hz2
      refine a_iload_n (i := 2) dX12_bumpBits_30 rfl rfl ?_
      refine a_if_lt (tg := 76) dX12_bumpBits_31 (by decide) (fun c_31 => ?_) (fun c_31 => ?_)
      · refine a_iconst (v := 0) dX12_bumpBits_76 (by decide) ?_
        refine a_istore_n (i := 2) dX12_bumpBits_77 rfl (by decide) ?_
        refine a_iconst (v := 0) dX12_bumpBits_78 (by decide) ?_
        refine a_istore_n (i := 3) dX12_bumpBits_79 rfl (by decide) ?_
        exact a_loc _ rfl (L3 21 0 rfl y (mF_82 h2 h3) h1)
      · exact absurd (by decide) c_31
    | succ j ih =>
      intro hj c y hz h1 h2 h3
      rw [nI_pred]
      have e1 := h1 j (by omega)
      obtain ⟨s1, s2, s3⟩ := (mSe_F (mF_82 h2 h3) hs).1.2 j (by omega)
      have i1 : nI (4 * j) + 1 = nI (4 * j + 1) := nI_add _ 1
      have m1 : nI j + -1 = nI j - 1 := (Int32.sub_eq_add_neg _ _).symm
      have hz2 : zSf p j (if c j = true ∧ (p.2 j).1 = 0 then (fun i => if i = (p.2 j).2.1 then false else c i) else c) = zCt p K := hz
      cases hc : c j with
      | false =>
        rw [hc] at e1
        rw [hc, if_neg (fun q => absurd q.1 (by decide))] at hz2
        have ih2 := ih (by omega) c y hz2 h1 h2 h3
        refine a_iload_n (i := 2) dX12_bumpBits_30 rfl rfl ?_
        refine a_if_lt (tg := 76) dX12_bumpBits_31 (by decide) (fun c_31 => ?_) (fun c_31 => ?_)
        · exact absurd c_31 (nI_pos (by omega))
        · refine a_aload_n (i := 0) dX12_bumpBits_34 rfl rfl ?_
          refine gX12_151 rfl dX12_bumpBits_35 (isM_0 hM) ?_
          refine a_iload_n (i := 2) dX12_bumpBits_38 rfl rfl ?_
          refine a_zaldN dX12_bumpBits_39 (isM_82 hM) (by first | with_reducible exact rfl | with_reducible exact ix8 _ _ | with_reducible exact ix12 _ _ | exact rfl) (by omega) (by decide) ?_
          rw [e1]
          refine a_if_eq (tg := 70) dX12_bumpBits_40 (by decide) (fun c_40 => ?_) (fun c_40 => ?_)
          · refine a_iincK (i := 2) (u := (-1)) dX12_bumpBits_70 rfl (by decide) (by decide) ?_
            refine a_goto (tg := 30) dX12_bumpBits_73 (by decide) ?_
            rw [m1]; exact a_loc _ rfl ih2
          · exact absurd rfl c_40
      | true =>
        rw [hc] at e1
        by_cases q : (p.2 j).1 = 0
        · rw [hc, if_pos ⟨rfl, q⟩] at hz2
          rw [if_pos q] at s1
          have lt := (ok.2 j (by omega)).2.1 q
          have ih2 := ih (by omega) (fun i => if i = (p.2 j).2.1 then false else c i) (aWr y (bM + 82) (p.2 j).2.1 0) hz2 (fun i hi => by
            by_cases e : i = (p.2 j).2.1
            · subst e; rw [aWr_s]; simp [bI]
            · rw [aWr_j _ _ _ e, h1 i hi]; simp [e]) (fun n hn => by rw [aWr_n _ _ _ hn, h2 n hn]) h3
          refine a_iload_n (i := 2) dX12_bumpBits_30 rfl rfl ?_
          refine a_if_lt (tg := 76) dX12_bumpBits_31 (by decide) (fun c_31 => ?_) (fun c_31 => ?_)
          · exact absurd c_31 (nI_pos (by omega))
          · refine a_aload_n (i := 0) dX12_bumpBits_34 rfl rfl ?_
            refine gX12_151 rfl dX12_bumpBits_35 (isM_0 hM) ?_
            refine a_iload_n (i := 2) dX12_bumpBits_38 rfl rfl ?_
            refine a_zaldN dX12_bumpBits_39 (isM_82 hM) (by first | with_reducible exact rfl | with_reducible exact ix8 _ _ | with_reducible exact ix12 _ _ | exact rfl) (by omega) (by decide) ?_
            rw [e1]
            refine a_if_eq (tg := 70) dX12_bumpBits_40 (by decide) (fun c_40 => ?_) (fun c_40 => ?_)
            · exact absurd c_40 (by decide)
            · refine a_aload_n (i := 0) dX12_bumpBits_43 rfl rfl ?_
              refine gX12_148 rfl dX12_bumpBits_44 (isM_0 hM) ?_
              refine a_iconst (v := 4) dX12_bumpBits_47 (by decide) ?_
              refine a_iload_n (i := 2) dX12_bumpBits_48 rfl rfl ?_
              refine a_imul dX12_bumpBits_49 ?_
              rw [il4]
              refine a_ialdN dX12_bumpBits_50 (isM_81 hM) (by first | with_reducible exact rfl | with_reducible exact ix8 _ _ | with_reducible exact ix12 _ _ | exact rfl) (by omega) (by decide) ?_
              rw [s1]
              refine a_if_ge (tg := 70) dX12_bumpBits_51 (by decide) (fun c_51 => ?_) (fun c_51 => ?_)
              · exact absurd c_51 (by decide)
              · refine a_aload_n (i := 0) dX12_bumpBits_54 rfl rfl ?_
                refine gX12_151 rfl dX12_bumpBits_55 (isM_0 hM) ?_
                refine a_aload_n (i := 0) dX12_bumpBits_58 rfl rfl ?_
                refine gX12_148 rfl dX12_bumpBits_59 (isM_0 hM) ?_
                refine a_iconst (v := 4) dX12_bumpBits_62 (by decide) ?_
                refine a_iload_n (i := 2) dX12_bumpBits_63 rfl rfl ?_
                refine a_imul dX12_bumpBits_64 ?_
                rw [il4]
                refine a_iconst (v := 1) dX12_bumpBits_65 (by decide) ?_
                refine a_iadd dX12_bumpBits_66 ?_
                rw [i1]
                refine a_ialdN dX12_bumpBits_67 (isM_81 hM) (by first | with_reducible exact rfl | with_reducible exact ix8 _ _ | with_reducible exact ix12 _ _ | exact rfl) (by omega) (by decide) ?_
                rw [s2]
                refine a_iconst (v := 0) dX12_bumpBits_68 (by decide) ?_
                refine a_zastN dX12_bumpBits_69 (isM_82 hM) (by first | with_reducible exact rfl | with_reducible exact ix8 _ _ | with_reducible exact ix12 _ _ | exact rfl) (by omega) (by decide) (by first | exact Or.inl rfl | exact Or.inr rfl | assumption) ?_
                refine a_iincK (i := 2) (u := (-1)) dX12_bumpBits_70 rfl (by decide) (by decide) ?_
                refine a_goto (tg := 30) dX12_bumpBits_73 (by decide) ?_
                rw [m1]; exact a_loc _ rfl ih2
        · rw [hc, if_neg (fun z => q z.2)] at hz2
          rw [if_neg q] at s1
          have y60 := (ok.2 j (by omega)).1
          have ih2 := ih (by omega) c y hz2 h1 h2 h3
          refine a_iload_n (i := 2) dX12_bumpBits_30 rfl rfl ?_
          refine a_if_lt (tg := 76) dX12_bumpBits_31 (by decide) (fun c_31 => ?_) (fun c_31 => ?_)
          · exact absurd c_31 (nI_pos (by omega))
          · refine a_aload_n (i := 0) dX12_bumpBits_34 rfl rfl ?_
            refine gX12_151 rfl dX12_bumpBits_35 (isM_0 hM) ?_
            refine a_iload_n (i := 2) dX12_bumpBits_38 rfl rfl ?_
            refine a_zaldN dX12_bumpBits_39 (isM_82 hM) (by first | with_reducible exact rfl | with_reducible exact ix8 _ _ | with_reducible exact ix12 _ _ | exact rfl) (by omega) (by decide) ?_
            rw [e1]
            refine a_if_eq (tg := 70) dX12_bumpBits_40 (by decide) (fun c_40 => ?_) (fun c_40 => ?_)
            · exact absurd c_40 (by decide)
            · refine a_aload_n (i := 0) dX12_bumpBits_43 rfl rfl ?_
              refine gX12_148 rfl dX12_bumpBits_44 (isM_0 hM) ?_
              refine a_iconst (v := 4) dX12_bumpBits_47 (by decide) ?_
              refine a_iload_n (i := 2) dX12_bumpBits_48 rfl rfl ?_
              refine a_imul dX12_bumpBits_49 ?_
              rw [il4]
              refine a_ialdN dX12_bumpBits_50 (isM_81 hM) (by first | with_reducible exact rfl | with_reducible exact ix8 _ _ | with_reducible exact ix12 _ _ | exact rfl) (by omega) (by decide) ?_
              rw [s1]
              refine a_if_ge (tg := 70) dX12_bumpBits_51 (by decide) (fun c_51 => ?_) (fun c_51 => ?_)
              · refine a_iincK (i := 2) (u := (-1)) dX12_bumpBits_70 rfl (by decide) (by decide) ?_
                refine a_goto (tg := 30) dX12_bumpBits_73 (by decide) ?_
                rw [m1]; exact a_loc _ rfl ih2
              · exact absurd (nI_pos' (by omega)) c_51
  have L1 : ∀ (f i : Nat), i + f = K → ∀ y : aS, (∀ j, j < i → y.1 (bM + 82) j = 1) → (∀ n, n ≠ bM + 82 → y.1 n = x.1 n) → y.2 = x.2 → aV l mX12_bumpBits (d + 8) D none 2 [(0, .ref bM), (1, .int (nI m)), (2, .int (nI i))] [] y (fun v y => v = some (.int (nI (bN (zFit T W p (zCt p K) m) 21))) ∧ mF x y) := by
    intro f
    induction f with
    | zero =>
      intro i hi y h1 h2 h3
      rw [Nat.add_zero] at hi
      subst hi
      have hkn := kn y (mF_82 h2 h3)
      refine a_iload_n (i := 2) dX12_bumpBits_2 rfl rfl ?_
      refine a_aload_n (i := 0) dX12_bumpBits_3 rfl rfl ?_
      refine kX12_556 rfl dX12_bumpBits_4 (Nat.le_of_ble_eq_true rfl) (isM_0 hM) (hkn) ?_
      refine a_icmp_ge (tg := 23) dX12_bumpBits_7 (by decide) (fun c_7 => ?_) (fun c_7 => ?_)
      · refine a_aload_n (i := 0) dX12_bumpBits_23 rfl rfl ?_
        refine kX12_556 rfl dX12_bumpBits_24 (Nat.le_of_ble_eq_true rfl) (isM_0 hM) (hkn) ?_
        refine a_iconst (v := 1) dX12_bumpBits_27 (by decide) ?_
        refine a_isub dX12_bumpBits_28 ?_
        refine a_istore_n (i := 2) dX12_bumpBits_29 rfl (by decide) ?_
        exact a_loc _ rfl (L2 i (Nat.le_refl _) _ y rfl (fun j hj => by rw [h1 j hj, decide_eq_true hj]; rfl) h2 h3)
      · exact absurd (Int32.le_refl _) c_7
    | succ f ih =>
      intro i hi y h1 h2 h3
      have hkn := kn y (mF_82 h2 h3)
      have ih2 := ih (i + 1) (by omega) (aWr y (bM + 82) i 1) (fun j hj => by
        by_cases e : j = i
        · subst e; rw [aWr_s]
        · rw [aWr_j _ _ _ e, h1 j (by omega)]) (fun n hn => by rw [aWr_n _ _ _ hn, h2 n hn]) h3
      refine a_iload_n (i := 2) dX12_bumpBits_2 rfl rfl ?_
      refine a_aload_n (i := 0) dX12_bumpBits_3 rfl rfl ?_
      refine kX12_556 rfl dX12_bumpBits_4 (Nat.le_of_ble_eq_true rfl) (isM_0 hM) (hkn) ?_
      refine a_icmp_ge (tg := 23) dX12_bumpBits_7 (by decide) (fun c_7 => ?_) (fun c_7 => ?_)
      · exact absurd c_7 (nI_ge (show i < K by omega) (by omega))
      · refine a_aload_n (i := 0) dX12_bumpBits_10 rfl rfl ?_
        refine gX12_151 rfl dX12_bumpBits_11 (isM_0 hM) ?_
        refine a_iload_n (i := 2) dX12_bumpBits_14 rfl rfl ?_
        refine a_iconst (v := 1) dX12_bumpBits_15 (by decide) ?_
        refine a_zastN dX12_bumpBits_16 (isM_82 hM) (by first | with_reducible exact rfl | with_reducible exact ix8 _ _ | with_reducible exact ix12 _ _ | exact rfl) (by omega) (by decide) (by first | exact Or.inl rfl | exact Or.inr rfl | assumption) ?_
        refine a_iincK (i := 2) (u := 1) dX12_bumpBits_17 rfl (by decide) (by decide) ?_
        refine a_goto (tg := 2) dX12_bumpBits_20 (by decide) ?_
        rw [nI_1]; exact a_loc _ rfl ih2
  refine a_iconst (v := 0) dX12_bumpBits_0 (by decide) ?_
  refine a_istore_n (i := 2) dX12_bumpBits_1 rfl (by decide) ?_
  exact a_loc _ rfl (L1 K 0 (Nat.zero_add _) x (fun j hj => absurd hj (by omega)) (fun _ _ => rfl) rfl)
theorem mSe_0 {k : Int32} (h : mSe p k x) : mSe p k (aWr x bM 2 0) := mSe_F mF_0 h
set_option maxHeartbeats 4000000 in
set_option maxRecDepth 100000 in
theorem c_X12_bumps {a k : Int32} (hM : D 12 = true) (h : mQ T W Z x) (ok : sgOk T p) (hs : mSe p k x) (hk1 : -1 ≤ k) (hK : (if k = -1 then nI p.1 else k) = nI K) (hKp : K ≤ p.1) : aCt l mX12_bumps (d + 9) D [.ref bM, .int a] x (fun v y => v = some (.int (qBumps T W p K a)) ∧ mF x y) := by
  have hq := mQ_0 h
  have hs0 := mSe_0 hs
  have hF0 : mF x (aWr x bM 2 0) := mF_0
  refine a_met (by decide) (Nat.le_of_ble_eq_true rfl) (fun v y q => Or.inl ⟨rfl, _, q.1⟩) ?_
  refine a_aload_n (i := 0) dX12_bumps_0 rfl rfl ?_
  refine a_iconst (v := 0) dX12_bumps_1 (by decide) ?_
  refine pX12_175 rfl dX12_bumps_2 (isM_0 hM) ?_
  refine a_loc [(0, .ref bM), (1, .int a)] rfl ?_
  generalize aWr x bM 2 0 = X at *
  have hT := hq.1.2.2.1
  have h8 := hq.1.1.2.1
  unfold qBumps
  by_cases q : zIn (T.1 1) a
  · rw [if_pos q]
    obtain ⟨A, hA, rfl⟩ := zIn_of (by omega) q
    rw [nI_clamp (by omega)]
    refine a_aload_n (i := 0) dX12_bumps_5 rfl rfl ?_
    refine a_iload_n (i := 1) dX12_bumps_6 rfl rfl ?_
    refine kX12_492 rfl dX12_bumps_7 (Nat.le_of_ble_eq_true rfl) (isM_0 hM) (c_X12_isMan hM hT) ?_
    refine a_if_eq (tg := 21) dX12_bumps_10 (by decide) (fun c_10 => ?_) (fun c_10 => ?_)
    · exact absurd c_10 (bI_p.mpr q)
    · refine a_aload_n (i := 0) dX12_bumps_13 rfl rfl ?_
      refine a_iload_n (i := 1) dX12_bumps_14 rfl rfl ?_
      refine kgX12_568 rfl dX12_bumps_15 (Nat.le_of_ble_eq_true rfl) (isM_0 hM) (c_X12_bumpBits hM hq ok hs0 hk1 hK hKp hA) ?_
      rintro v y ⟨rfl, hF⟩
      refine a_goto (tg := 22) dX12_bumps_18 (by decide) ?_
      exact a_iret dX12_bumps_22 (by exact ⟨rfl, mF_t hF0 hF⟩)
  · rw [if_neg q]
    refine a_aload_n (i := 0) dX12_bumps_5 rfl rfl ?_
    refine a_iload_n (i := 1) dX12_bumps_6 rfl rfl ?_
    refine kX12_492 rfl dX12_bumps_7 (Nat.le_of_ble_eq_true rfl) (isM_0 hM) (c_X12_isMan hM hT) ?_
    refine a_if_eq (tg := 21) dX12_bumps_10 (by decide) (fun c_10 => ?_) (fun c_10 => ?_)
    · refine a_iconst (v := (-1)) dX12_bumps_21 (by decide) ?_
      exact a_iret dX12_bumps_22 (by exact ⟨rfl, hF0⟩)
    · exact absurd (bI_p.mp c_10) q
set_option maxHeartbeats 4000000 in
set_option maxRecDepth 100000 in
theorem c_X12_ask {a n w k : Int32} (hM : D 12 = true) (h : mQ T W Z x) (ok : sgOk T p) (hs : mSe p k x) (hk1 : -1 ≤ k) (hK : (if k = -1 then nI p.1 else k) = nI K) (hKp : K ≤ p.1) : aCt l mX12_ask (d + 9) D [.ref bM, .int a, .int n, .int w] x (fun v y => v = some (.int (qAsks T W p K a n w)) ∧ mF x y) := by
  have hq := mQ_0 h
  have hs0 := mSe_0 hs
  have hF0 : mF x (aWr x bM 2 0) := mF_0
  refine a_met (by decide) (Nat.le_of_ble_eq_true rfl) (fun v y q => Or.inl ⟨rfl, _, q.1⟩) ?_
  refine a_aload_n (i := 0) dX12_ask_0 rfl rfl ?_
  refine a_iconst (v := 0) dX12_ask_1 (by decide) ?_
  refine pX12_175 rfl dX12_ask_2 (isM_0 hM) ?_
  refine a_loc [(0, .ref bM), (1, .int a), (2, .int n), (3, .int w)] rfl ?_
  generalize aWr x bM 2 0 = X at *
  have hT := hq.1.2.2.1
  have h8 := hq.1.1.2.1
  unfold qAsks
  by_cases q : zAkC T a n w
  · rw [if_pos q]
    obtain ⟨q1, q2, q3⟩ := q
    obtain ⟨A, hA, rfl⟩ := zIn_of (by omega) q1
    obtain ⟨N, hN, hN0, rfl⟩ := y60_of q2
    rw [nI_clamp (by omega), nI_clamp (by omega)]
    have hb := c_X12_bumpBits (l := l) (d := d) (m := A) hM hq ok hs0 hk1 hK hKp hA
    generalize hB : zFit T W p (zCt p K) A = B at *
    have hCk := fun k => zCN_ok (T := T) (W := W) (n := N) (m := A) (k := k) hA
    generalize hC : zCN T W N A = C at *
    have bl := bN_lt B 21
    have b31 : bN B 21 < 2 ^ 31 := Nat.lt_of_lt_of_le bl (by decide)
    have tb : ∀ k, k < 21 → (bN B 21).testBit k = B k := fun k hk => by rw [bN_tb, decide_eq_true hk]; rfl
    have al := cn_le B 21
    have mn : zMany (nI (bN B 21)) = nI (cn B 21) := by rw [many_n b31, cn_congr 21 (fun k hk => tb k hk)]
    have jt : ∀ k, k < 21 → (if jbit (nI (bN B 21)) k = true then (1 : Int32) else 0) = bI (B k) := fun k hk => by rw [jbit_t b31 (by omega), tb k hk]; rfl
    -- one number of corns asked
    have One : ∀ (y : aS), (∀ j, j < 21 → y.1 (bM + 83) j = nI (C j)) → ∀ (u : Nat), 1 ≤ u → u ≤ 60 → ∀ (s1 s2 : Int32) (Q : Option Value → aS → Prop), aV l mX12_ask (d + 9) D none 178 [(3, .int w), (0, .ref bM), (4, .int (nI (bN B 21))), (5, .int s1), (6, .int s2), (7, .int (nI u)), (10, .int (nI (aWst B C u)))] [] y Q → aV l mX12_ask (d + 9) D none 101 [(3, .int w), (0, .ref bM), (4, .int (nI (bN B 21))), (5, .int s1), (6, .int s2), (7, .int (nI u))] [] y Q := by
      intro y hr u u1 u60 s1 s2 Q kk
      have I : ∀ (f k : Nat), k + f = 21 → aV l mX12_ask (d + 9) D none 107 [(3, .int w), (0, .ref bM), (4, .int (nI (bN B 21))), (5, .int s1), (6, .int s2), (7, .int (nI u)), (8, .int (nI (cn (fun k => B k && decide (u ≤ C k)) k))), (9, .int (nI k))] [] y Q := by
        intro f
        induction f with
        | zero =>
          intro k hk
          rw [Nat.add_zero] at hk
          subst hk
          have ss := aSum B C u
          have es : nI (cn B 21) - nI (cn (fun k => B k && decide (u ≤ C k)) 21) = nI (aOut B C u) := by
            show nI (cn B 21) - nI (aYes B C u) = _
            rw [pk_sub (by omega)]; congr 1; omega
          have eY : cn (fun k => B k && decide (u ≤ C k)) 21 = aYes B C u := rfl
          rw [eY] at es ⊢
          by_cases g : aYes B C u ≤ aOut B C u
          · have ew : aOut B C u = aWst B C u := by unfold aWst; omega
            rw [ew] at es
            refine a_iload (i := 9) dX12_ask_107 rfl ?_
            refine a_bipush (v := 21) dX12_ask_109 (by decide) ?_
            refine a_icmp_ge (tg := 152) dX12_ask_111 (by decide) (fun c_111 => ?_) (fun c_111 => ?_)
            · refine a_iload (i := 4) dX12_ask_152 rfl ?_
              refine kX12_531 rfl dX12_ask_154 (Nat.le_of_ble_eq_true rfl) (c_X12_manyOf) ?_
              rw [mn]
              refine a_iload (i := 8) dX12_ask_157 rfl ?_
              refine a_isub dX12_ask_159 ?_
              rw [es]
              refine a_istore (i := 9) dX12_ask_160 (by decide) ?_
              refine a_iload (i := 8) dX12_ask_162 rfl ?_
              refine a_iload (i := 9) dX12_ask_164 rfl ?_
              refine a_icmp_le (tg := 174) dX12_ask_166 (by decide) (fun c_166 => ?_) (fun c_166 => ?_)
              · refine a_iload (i := 9) dX12_ask_174 rfl ?_
                refine a_istore (i := 10) dX12_ask_176 (by decide) ?_
                exact a_loc _ rfl kk
              · exact absurd (nI_le (show aYes B C u ≤ aWst B C u by omega) (by omega)) c_166
            · exact absurd (Int32.le_refl _) c_111
          · have ew : aYes B C u = aWst B C u := by unfold aWst; omega
            refine a_iload (i := 9) dX12_ask_107 rfl ?_
            refine a_bipush (v := 21) dX12_ask_109 (by decide) ?_
            refine a_icmp_ge (tg := 152) dX12_ask_111 (by decide) (fun c_111 => ?_) (fun c_111 => ?_)
            · refine a_iload (i := 4) dX12_ask_152 rfl ?_
              refine kX12_531 rfl dX12_ask_154 (Nat.le_of_ble_eq_true rfl) (c_X12_manyOf) ?_
              rw [mn]
              refine a_iload (i := 8) dX12_ask_157 rfl ?_
              refine a_isub dX12_ask_159 ?_
              rw [es]
              refine a_istore (i := 9) dX12_ask_160 (by decide) ?_
              refine a_iload (i := 8) dX12_ask_162 rfl ?_
              refine a_iload (i := 9) dX12_ask_164 rfl ?_
              refine a_icmp_le (tg := 174) dX12_ask_166 (by decide) (fun c_166 => ?_) (fun c_166 => ?_)
              · exact absurd c_166 (nI_ge (show aOut B C u < aYes B C u by omega) (by omega))
              · refine a_iload (i := 8) dX12_ask_169 rfl ?_
                rw [ew]
                refine a_goto (tg := 176) dX12_ask_171 (by decide) ?_
                refine a_istore (i := 10) dX12_ask_176 (by decide) ?_
                exact a_loc _ rfl kk
            · exact absurd (Int32.le_refl _) c_111
        | succ f ih =>
          intro k hk
          have ih2 := ih (k + 1) (by omega)
          have ec := hr k (by omega)
          have cl := (hCk k).2
          have cs : cn (fun k => B k && decide (u ≤ C k)) (k + 1) = cn (fun k => B k && decide (u ≤ C k)) k + (if (B k && decide (u ≤ C k)) = true then 1 else 0) := rfl
          rw [cs] at ih2
          cases hb : B k with
          | false =>
            rw [hb, Bool.false_and, if_neg (by decide), Nat.add_zero] at ih2
            refine a_iload (i := 9) dX12_ask_107 rfl ?_
            refine a_bipush (v := 21) dX12_ask_109 (by decide) ?_
            refine a_icmp_ge (tg := 152) dX12_ask_111 (by decide) (fun c_111 => ?_) (fun c_111 => ?_)
            · exact absurd c_111 (nI_ge (show k < 21 by omega) (by decide))
            · refine a_iload (i := 8) dX12_ask_114 rfl ?_
              refine a_iload (i := 4) dX12_ask_116 rfl ?_
              refine a_iload (i := 9) dX12_ask_118 rfl ?_
              refine kX12_426 rfl dX12_ask_120 (Nat.le_of_ble_eq_true rfl) (c_X12_isOf) ?_
              rw [jt k (by omega), hb]
              refine a_if_eq (tg := 142) dX12_ask_123 (by decide) (fun c_123 => ?_) (fun c_123 => ?_)
              · refine a_iconst (v := 0) dX12_ask_142 (by decide) ?_
                refine a_iadd dX12_ask_143 ?_
                rw [Int32.add_zero]
                refine a_istore (i := 8) dX12_ask_144 (by decide) ?_
                refine a_iincK (i := 9) (u := 1) dX12_ask_146 rfl (by decide) (by decide) ?_
                refine a_goto (tg := 107) dX12_ask_149 (by decide) ?_
                rw [nI_1 k]; exact a_loc _ rfl ih2
              · exact absurd rfl c_123
          | true =>
            by_cases g : u ≤ C k
            · rw [hb, decide_eq_true g, if_pos (show (true && true) = true from rfl), ← nI_1 (cn (fun k => B k && decide (u ≤ C k)) k)] at ih2
              refine a_iload (i := 9) dX12_ask_107 rfl ?_
              refine a_bipush (v := 21) dX12_ask_109 (by decide) ?_
              refine a_icmp_ge (tg := 152) dX12_ask_111 (by decide) (fun c_111 => ?_) (fun c_111 => ?_)
              · exact absurd c_111 (nI_ge (show k < 21 by omega) (by decide))
              · refine a_iload (i := 8) dX12_ask_114 rfl ?_
                refine a_iload (i := 4) dX12_ask_116 rfl ?_
                refine a_iload (i := 9) dX12_ask_118 rfl ?_
                refine kX12_426 rfl dX12_ask_120 (Nat.le_of_ble_eq_true rfl) (c_X12_isOf) ?_
                rw [jt k (by omega), hb]
                refine a_if_eq (tg := 142) dX12_ask_123 (by decide) (fun c_123 => ?_) (fun c_123 => ?_)
                · exact absurd c_123 (by decide)
                · refine a_aload_n (i := 0) dX12_ask_126 rfl rfl ?_
                  refine gX12_154 rfl dX12_ask_127 (isM_0 hM) ?_
                  refine a_iload (i := 9) dX12_ask_130 rfl ?_
                  refine a_ialdN dX12_ask_132 (isM_83 hM) (by first | with_reducible exact rfl | with_reducible exact ix8 _ _ | with_reducible exact ix12 _ _ | exact rfl) (by omega) (by decide) ?_
                  rw [ec]
                  refine a_iload (i := 7) dX12_ask_133 rfl ?_
                  refine a_icmp_lt (tg := 142) dX12_ask_135 (by decide) (fun c_135 => ?_) (fun c_135 => ?_)
                  · exact absurd c_135 (nI_nlt g (by omega))
                  · refine a_iconst (v := 1) dX12_ask_138 (by decide) ?_
                    refine a_goto (tg := 143) dX12_ask_139 (by decide) ?_
                    refine a_iadd dX12_ask_143 ?_
                    refine a_istore (i := 8) dX12_ask_144 (by decide) ?_
                    refine a_iincK (i := 9) (u := 1) dX12_ask_146 rfl (by decide) (by decide) ?_
                    refine a_goto (tg := 107) dX12_ask_149 (by decide) ?_
                    rw [nI_1 k]; exact a_loc _ rfl ih2
            · rw [hb, decide_eq_false g, if_neg (by decide), Nat.add_zero] at ih2
              refine a_iload (i := 9) dX12_ask_107 rfl ?_
              refine a_bipush (v := 21) dX12_ask_109 (by decide) ?_
              refine a_icmp_ge (tg := 152) dX12_ask_111 (by decide) (fun c_111 => ?_) (fun c_111 => ?_)
              · exact absurd c_111 (nI_ge (show k < 21 by omega) (by decide))
              · refine a_iload (i := 8) dX12_ask_114 rfl ?_
                refine a_iload (i := 4) dX12_ask_116 rfl ?_
                refine a_iload (i := 9) dX12_ask_118 rfl ?_
                refine kX12_426 rfl dX12_ask_120 (Nat.le_of_ble_eq_true rfl) (c_X12_isOf) ?_
                rw [jt k (by omega), hb]
                refine a_if_eq (tg := 142) dX12_ask_123 (by decide) (fun c_123 => ?_) (fun c_123 => ?_)
                · exact absurd c_123 (by decide)
                · refine a_aload_n (i := 0) dX12_ask_126 rfl rfl ?_
                  refine gX12_154 rfl dX12_ask_127 (isM_0 hM) ?_
                  refine a_iload (i := 9) dX12_ask_130 rfl ?_
                  refine a_ialdN dX12_ask_132 (isM_83 hM) (by first | with_reducible exact rfl | with_reducible exact ix8 _ _ | with_reducible exact ix12 _ _ | exact rfl) (by omega) (by decide) ?_
                  rw [ec]
                  refine a_iload (i := 7) dX12_ask_133 rfl ?_
                  refine a_icmp_lt (tg := 142) dX12_ask_135 (by decide) (fun c_135 => ?_) (fun c_135 => ?_)
                  · refine a_iconst (v := 0) dX12_ask_142 (by decide) ?_
                    refine a_iadd dX12_ask_143 ?_
                    rw [Int32.add_zero]
                    refine a_istore (i := 8) dX12_ask_144 (by decide) ?_
                    refine a_iincK (i := 9) (u := 1) dX12_ask_146 rfl (by decide) (by decide) ?_
                    refine a_goto (tg := 107) dX12_ask_149 (by decide) ?_
                    rw [nI_1 k]; exact a_loc _ rfl ih2
                  · exact absurd (nI_lt (show C k < u by omega) (by omega)) c_135
      refine a_iconst (v := 0) dX12_ask_101 (by decide) ?_
      refine a_istore (i := 8) dX12_ask_102 (by decide) ?_
      refine a_iconst (v := 0) dX12_ask_104 (by decide) ?_
      refine a_istore (i := 9) dX12_ask_105 (by decide) ?_
      exact a_loc _ rfl (I 21 0 rfl)
    have wl : ∀ u, aWst B C u ≤ 21 := fun u => by have := aSum B C u; unfold aWst; omega
    have L : ∀ (y : aS), (∀ j, j < 21 → y.1 (bM + 83) j = nI (C j)) → mF x y → ∀ (f u : Nat), u + f = 61 → 2 ≤ u → ∀ (s : Nat × Nat), s.2 ≤ 21 → aV l mX12_ask (d + 9) D none 94 [(3, .int w), (0, .ref bM), (4, .int (nI (bN B 21))), (5, .int (nI s.1)), (6, .int (nI s.2)), (7, .int (nI u))] [] y (fun v y => v = some (.int (if w = 0 then nI (lp (aGo B C) u f s).1 else nI (lp (aGo B C) u f s).2)) ∧ mF x y) := by
      intro y hr hF f
      induction f with
      | zero =>
        intro u hu u2 s hs
        rw [Nat.add_zero] at hu
        subst hu
        show aV _ _ _ _ _ _ _ _ _ (fun v y => v = some (.int (if w = 0 then nI s.1 else nI s.2)) ∧ mF x y)
        refine a_iload (i := 7) dX12_ask_94 rfl ?_
        refine a_bipush (v := 60) dX12_ask_96 (by decide) ?_
        refine a_icmp_gt (tg := 207) dX12_ask_98 (by decide) (fun c_98 => ?_) (fun c_98 => ?_)
        · refine a_iload_n (i := 3) dX12_ask_207 rfl rfl ?_
          refine a_if_ne (tg := 216) dX12_ask_208 (by decide) (fun c_208 => ?_) (fun c_208 => ?_)
          · rw [if_neg c_208]
            refine a_iload (i := 6) dX12_ask_216 rfl ?_
            exact a_iret dX12_ask_218 (by exact ⟨rfl, hF⟩)
          · rw [if_pos c_208]
            refine a_iload (i := 5) dX12_ask_211 rfl ?_
            refine a_goto (tg := 218) dX12_ask_213 (by decide) ?_
            exact a_iret dX12_ask_218 (by exact ⟨rfl, hF⟩)
        · exact absurd (by decide) c_98
      | succ f ih =>
        intro u hu u2 s hs
        have w1 := wl u
        have K2 : aV l mX12_ask (d + 9) D none 178 [(3, .int w), (0, .ref bM), (4, .int (nI (bN B 21))), (5, .int (nI s.1)), (6, .int (nI s.2)), (7, .int (nI u)), (10, .int (nI (aWst B C u)))] [] y (fun v y => v = some (.int (if w = 0 then nI (lp (aGo B C) (u + 1) f (aGo B C u s)).1 else nI (lp (aGo B C) (u + 1) f (aGo B C u s)).2)) ∧ mF x y) := by
          by_cases g : aWst B C u < s.2
          · rw [show aGo B C u s = (u, aWst B C u) from if_pos g]
            have ih2 := ih (u + 1) (by omega) (by omega) (u, aWst B C u) w1
            refine a_iload (i := 6) dX12_ask_178 rfl ?_
            refine a_if_lt (tg := 193) dX12_ask_180 (by decide) (fun c_180 => ?_) (fun c_180 => ?_)
            · exact absurd c_180 (nI_pos (by omega))
            · refine a_iload (i := 10) dX12_ask_183 rfl ?_
              refine a_iload (i := 6) dX12_ask_185 rfl ?_
              refine a_icmp_lt (tg := 193) dX12_ask_187 (by decide) (fun c_187 => ?_) (fun c_187 => ?_)
              · refine a_iload (i := 7) dX12_ask_193 rfl ?_
                refine a_istore (i := 5) dX12_ask_195 (by decide) ?_
                refine a_iload (i := 10) dX12_ask_197 rfl ?_
                refine a_istore (i := 6) dX12_ask_199 (by decide) ?_
                refine a_iincK (i := 7) (u := 1) dX12_ask_201 rfl (by decide) (by decide) ?_
                refine a_goto (tg := 94) dX12_ask_204 (by decide) ?_
                rw [nI_1 u]; exact a_loc _ rfl ih2
              · exact absurd (nI_lt g (by omega)) c_187
          · rw [show aGo B C u s = s from if_neg g]
            have ih2 := ih (u + 1) (by omega) (by omega) s hs
            refine a_iload (i := 6) dX12_ask_178 rfl ?_
            refine a_if_lt (tg := 193) dX12_ask_180 (by decide) (fun c_180 => ?_) (fun c_180 => ?_)
            · exact absurd c_180 (nI_pos (by omega))
            · refine a_iload (i := 10) dX12_ask_183 rfl ?_
              refine a_iload (i := 6) dX12_ask_185 rfl ?_
              refine a_icmp_lt (tg := 193) dX12_ask_187 (by decide) (fun c_187 => ?_) (fun c_187 => ?_)
              · exact absurd c_187 (nI_nlt (show s.2 ≤ aWst B C u by omega) (by omega))
              · refine a_goto (tg := 201) dX12_ask_190 (by decide) ?_
                refine a_iincK (i := 7) (u := 1) dX12_ask_201 rfl (by decide) (by decide) ?_
                refine a_goto (tg := 94) dX12_ask_204 (by decide) ?_
                rw [nI_1 u]; exact a_loc _ rfl ih2
        have K1 := One y hr u (by omega) (by omega) _ _ _ K2
        show aV _ _ _ _ _ _ _ _ _ (fun v y => v = some (.int (if w = 0 then nI (lp (aGo B C) (u + 1) f (aGo B C u s)).1 else nI (lp (aGo B C) (u + 1) f (aGo B C u s)).2)) ∧ mF x y)
        refine a_iload (i := 7) dX12_ask_94 rfl ?_
        refine a_bipush (v := 60) dX12_ask_96 (by decide) ?_
        refine a_icmp_gt (tg := 207) dX12_ask_98 (by decide) (fun c_98 => ?_) (fun c_98 => ?_)
        · exact absurd c_98 (nI_nlt (show u ≤ 60 by omega) (by decide))
        · exact a_loc _ rfl K1
    have S1 : ∀ (y : aS), (∀ j, j < 21 → y.1 (bM + 83) j = nI (C j)) → mF x y → aV l mX12_ask (d + 9) D none 85 [(3, .int w), (0, .ref bM), (4, .int (nI (bN B 21)))] [] y (fun v y => v = some (.int (qAsk B C w)) ∧ mF x y) := by
      intro y hr hF
      unfold qAsk
      have L0 := L y hr hF 59 2 rfl (by omega) (1, aWst B C 1) (wl 1)
      have K2 : aV l mX12_ask (d + 9) D none 178 [(3, .int w), (0, .ref bM), (4, .int (nI (bN B 21))), (5, .int 1), (6, .int (-1)), (7, .int (nI 1)), (10, .int (nI (aWst B C 1)))] [] y (fun v y => v = some (.int (if w = 0 then nI (lp (aGo B C) 2 59 (1, aWst B C 1)).1 else nI (lp (aGo B C) 2 59 (1, aWst B C 1)).2)) ∧ mF x y) := by
        refine a_iload (i := 6) dX12_ask_178 rfl ?_
        refine a_if_lt (tg := 193) dX12_ask_180 (by decide) (fun c_180 => ?_) (fun c_180 => ?_)
        · refine a_iload (i := 7) dX12_ask_193 rfl ?_
          refine a_istore (i := 5) dX12_ask_195 (by decide) ?_
          refine a_iload (i := 10) dX12_ask_197 rfl ?_
          refine a_istore (i := 6) dX12_ask_199 (by decide) ?_
          refine a_iincK (i := 7) (u := 1) dX12_ask_201 rfl (by decide) (by decide) ?_
          refine a_goto (tg := 94) dX12_ask_204 (by decide) ?_
          rw [nI_1 1]; exact a_loc _ rfl L0
        · exact absurd (by decide) c_180
      have K1 := One y hr 1 (by omega) (by omega) _ _ _ K2
      refine a_iconst (v := 1) dX12_ask_85 (by decide) ?_
      refine a_istore (i := 5) dX12_ask_86 (by decide) ?_
      refine a_iconst (v := (-1)) dX12_ask_88 (by decide) ?_
      refine a_istore (i := 6) dX12_ask_89 (by decide) ?_
      refine a_iconst (v := 1) dX12_ask_91 (by decide) ?_
      refine a_istore (i := 7) dX12_ask_92 (by decide) ?_
      refine a_iload (i := 7) dX12_ask_94 rfl ?_
      refine a_bipush (v := 60) dX12_ask_96 (by decide) ?_
      refine a_icmp_gt (tg := 207) dX12_ask_98 (by decide) (fun c_98 => ?_) (fun c_98 => ?_)
      · exact absurd c_98 (by decide)
      · exact a_loc _ rfl K1
    have R : ∀ (f k : Nat), k + f = 21 → ∀ y : aS, mF X y → (∀ j, j < k → y.1 (bM + 83) j = nI (C j)) → aV l mX12_ask (d + 9) D none 44 [(0, .ref bM), (1, .int (nI A)), (2, .int (nI N)), (3, .int w), (4, .int (nI (bN B 21))), (5, .int (nI k))] [] y (fun v y => v = some (.int (qAsk B C w)) ∧ mF x y) := by
      intro f
      induction f with
      | zero =>
        intro k hk y hF hr
        rw [Nat.add_zero] at hk
        subst hk
        refine a_iload (i := 5) dX12_ask_44 rfl ?_
        refine a_bipush (v := 21) dX12_ask_46 (by decide) ?_
        refine a_icmp_ge (tg := 85) dX12_ask_48 (by decide) (fun c_48 => ?_) (fun c_48 => ?_)
        · exact a_loc _ rfl (S1 y hr (mF_t hF0 hF))
        · exact absurd (Int32.le_refl _) c_48
      | succ f ih =>
        intro k hk y hF hr
        have G : ∀ z u : aS, mF y z → z.2 = y.2 → (∀ n, bM + 70 ≤ n → z.1 n = y.1 n) → yJ T 5 1 z (zYears T W 5 N (zB0 T A k)) u → aV l mX12_ask (d + 9) D none 63 [(0, .ref bM), (1, .int (nI A)), (2, .int (nI N)), (3, .int w), (4, .int (nI (bN B 21))), (5, .int (nI k))] [] u (fun v y => v = some (.int (qAsk B C w)) ∧ mF x y) := by
          intro z u hz z2 z70 hu
          have ec := (hu.2.1.2.2.2 A hA).2.2.1
          rw [(hCk k).1, show 8 * 1 + A = 8 + A by omega] at ec
          have Fu : mF X u := mF_t hF (mF_t hz (mF_i hu.2.2.2.1 (hu.2.2.2.2.2 (by decide))))
          have ih2 := ih (k + 1) (by omega) (aWr u (bM + 83) k (nI (C k))) (mF_83 Fu) (fun j hj => by
            by_cases e : j = k
            · subst e; rw [aWr_s]
            · rw [aWr_j _ _ _ e, hu.2.2.2.1.1 _ _ (by unfold mIn; omega) (by omega), z70 _ (by omega)]; exact hr j (by omega))
          refine a_aload_n (i := 0) dX12_ask_63 rfl rfl ?_
          refine gX12_154 rfl dX12_ask_64 (isM_0 hM) ?_
          refine a_iload (i := 5) dX12_ask_67 rfl ?_
          refine a_aload_n (i := 0) dX12_ask_69 rfl rfl ?_
          refine gX12_124 rfl dX12_ask_70 (isM_0 hM) ?_
          refine a_bipush (v := 8) dX12_ask_73 (by decide) ?_
          refine a_iload_n (i := 1) dX12_ask_75 rfl rfl ?_
          refine a_iadd dX12_ask_76 ?_
          refine a_ialdN dX12_ask_77 (isM_66 hM) (by first | exact nI_add 8 A | with_reducible exact rfl | with_reducible exact ix8 _ _ | with_reducible exact ix12 _ _ | exact rfl) (by omega) (by decide) ?_
          rw [ec]
          refine a_iastN dX12_ask_78 (isM_83 hM) (by first | with_reducible exact rfl | with_reducible exact ix8 _ _ | with_reducible exact ix12 _ _ | exact rfl) (by omega) (by decide) ?_
          refine a_iincK (i := 5) (u := 1) dX12_ask_79 rfl (by decide) (by decide) ?_
          refine a_goto (tg := 44) dX12_ask_82 (by decide) ?_
          rw [nI_1]; exact a_loc _ rfl ih2
        refine a_iload (i := 5) dX12_ask_44 rfl ?_
        refine a_bipush (v := 21) dX12_ask_46 (by decide) ?_
        refine a_icmp_ge (tg := 85) dX12_ask_48 (by decide) (fun c_48 => ?_) (fun c_48 => ?_)
        · exact absurd c_48 (nI_ge (show k < 21 by omega) (by decide))
        · refine a_aload_n (i := 0) dX12_ask_51 rfl rfl ?_
          refine a_iload_n (i := 1) dX12_ask_52 rfl rfl ?_
          refine a_iload (i := 5) dX12_ask_53 rfl ?_
          refine kgX12_559 rfl dX12_ask_55 (Nat.le_of_ble_eq_true rfl) (isM_0 hM) (c_X12_layBump hM (mQ_F hF hq) hA) ?_
          rintro v z ⟨rfl, g1, g2, g3, g4⟩
          refine a_aload_n (i := 0) dX12_ask_58 rfl rfl ?_
          refine a_iload_n (i := 2) dX12_ask_59 rfl rfl ?_
          refine kgX12_513 rfl dX12_ask_60 (Nat.le_of_ble_eq_true rfl) (isM_0 hM) (c_X12_goMany hM g1 (show N < 1000 by omega)) ?_
          rintro v u ⟨rfl, hu⟩
          exact a_loc _ rfl (G z u g2 g3 g4 hu)
    refine a_aload_n (i := 0) dX12_ask_5 rfl rfl ?_
    refine a_iload_n (i := 1) dX12_ask_6 rfl rfl ?_
    refine kX12_492 rfl dX12_ask_7 (Nat.le_of_ble_eq_true rfl) (isM_0 hM) (c_X12_isMan hM hT) ?_
    refine a_if_eq (tg := 32) dX12_ask_10 (by decide) (fun c_10 => ?_) (fun c_10 => ?_)
    · exact absurd c_10 (bI_p.mpr q1)
    · refine a_iload_n (i := 2) dX12_ask_13 rfl rfl ?_
      refine a_iconst (v := 1) dX12_ask_14 (by decide) ?_
      refine a_bipush (v := 60) dX12_ask_15 (by decide) ?_
      refine kX12_220 rfl dX12_ask_17 (Nat.le_of_ble_eq_true rfl) (c_X12_isIn) ?_
      refine a_if_eq (tg := 32) dX12_ask_20 (by decide) (fun c_20 => ?_) (fun c_20 => ?_)
      · exact absurd c_20 (bI_p.mpr q2)
      · refine a_iload_n (i := 3) dX12_ask_23 rfl rfl ?_
        refine a_iconst (v := 0) dX12_ask_24 (by decide) ?_
        refine a_iconst (v := 1) dX12_ask_25 (by decide) ?_
        refine kX12_220 rfl dX12_ask_26 (Nat.le_of_ble_eq_true rfl) (c_X12_isIn) ?_
        refine a_if_ne (tg := 34) dX12_ask_29 (by decide) (fun c_29 => ?_) (fun c_29 => ?_)
        · refine a_aload_n (i := 0) dX12_ask_34 rfl rfl ?_
          refine a_iload_n (i := 1) dX12_ask_35 rfl rfl ?_
          refine kgX12_568 rfl dX12_ask_36 (Nat.le_of_ble_eq_true rfl) (isM_0 hM) (hb) ?_
          rintro v y ⟨rfl, hF⟩
          refine a_istore (i := 4) dX12_ask_39 (by decide) ?_
          refine a_iconst (v := 0) dX12_ask_41 (by decide) ?_
          refine a_istore (i := 5) dX12_ask_42 (by decide) ?_
          exact a_loc _ rfl (R 21 0 rfl y hF (fun j hj => absurd hj (by omega)))
        · exact absurd c_29 (bI_p.mpr (zIn2.mpr q3))
  · rw [if_neg q]
    refine a_aload_n (i := 0) dX12_ask_5 rfl rfl ?_
    refine a_iload_n (i := 1) dX12_ask_6 rfl rfl ?_
    refine kX12_492 rfl dX12_ask_7 (Nat.le_of_ble_eq_true rfl) (isM_0 hM) (c_X12_isMan hM hT) ?_
    refine a_if_eq (tg := 32) dX12_ask_10 (by decide) (fun c_10 => ?_) (fun c_10 => ?_)
    · refine a_iconst (v := (-1)) dX12_ask_32 (by decide) ?_
      exact a_iret dX12_ask_33 (by exact ⟨rfl, hF0⟩)
    · refine a_iload_n (i := 2) dX12_ask_13 rfl rfl ?_
      refine a_iconst (v := 1) dX12_ask_14 (by decide) ?_
      refine a_bipush (v := 60) dX12_ask_15 (by decide) ?_
      refine kX12_220 rfl dX12_ask_17 (Nat.le_of_ble_eq_true rfl) (c_X12_isIn) ?_
      refine a_if_eq (tg := 32) dX12_ask_20 (by decide) (fun c_20 => ?_) (fun c_20 => ?_)
      · refine a_iconst (v := (-1)) dX12_ask_32 (by decide) ?_
        exact a_iret dX12_ask_33 (by exact ⟨rfl, hF0⟩)
      · refine a_iload_n (i := 3) dX12_ask_23 rfl rfl ?_
        refine a_iconst (v := 0) dX12_ask_24 (by decide) ?_
        refine a_iconst (v := 1) dX12_ask_25 (by decide) ?_
        refine kX12_220 rfl dX12_ask_26 (Nat.le_of_ble_eq_true rfl) (c_X12_isIn) ?_
        refine a_if_ne (tg := 34) dX12_ask_29 (by decide) (fun c_29 => ?_) (fun c_29 => ?_)
        · exact absurd ⟨bI_p.mp c_10, bI_p.mp c_20, zIn2.mp (bI_p.mp c_29)⟩ q
        · refine a_iconst (v := (-1)) dX12_ask_32 (by decide) ?_
          exact a_iret dX12_ask_33 (by exact ⟨rfl, hF0⟩)
end qAB
