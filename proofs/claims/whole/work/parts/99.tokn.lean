/-! TOKENS of the model: packed, signs, token -/
def mPk (B : Nat → Nat) (a L t : Nat) : Nat := if t ≤ L then hW B a t else hW B a L * 32 ^ (t - L)
theorem swp_2 : ∀ k, k < 22 → swp (swp k) = k := by decide
theorem wkN_22 {v : Nat} (h : ∀ k, k < 22 → ¬ v = pkM k) : wkN v = 22 := by
  have e : ∀ u, u ∈ pkL → ¬ u = v := by
    intro u hu e
    obtain ⟨i, hi, hu⟩ := List.mem_iff_getElem.mp hu
    have i22 : i < 22 := hi
    obtain ⟨k, hk, g⟩ := pk_in22 i i22
    refine h k hk ?_
    rw [← g, ← e, ← hu, List.getD_eq_getElem?_getD, List.getElem?_eq_getElem hi]
    rfl
  unfold wkN
  rw [List.findIdx_eq_length_of_false (fun u hu => by rw [beq_eq_false_iff_ne]; exact e u hu)]
  rfl
theorem sg_o : ∀ b, b < 256 → ¬ b = 60 → ¬ b = 61 → ¬ b = 62 → ((b = 59 ∨ b = 40 ∨ b = 41 ∨ b = 43 ∨ b = 45 ∨ b = 42 ∨ b = 47 ∨ b = 37) → kM (sgK b) 0 4 (nI b)) ∧ (¬ (b = 59 ∨ b = 40 ∨ b = 41 ∨ b = 43 ∨ b = 45 ∨ b = 42 ∨ b = 47 ∨ b = 37) → kM (sgK b) 0 6 (nI b)) := by
  intro b hb h0 h1 h2
  constructor
  · rintro (rfl | rfl | rfl | rfl | rfl | rfl | rfl | rfl) <;> (unfold kM; decide)
  · intro g
    have e : sgK b = 38 := by
      unfold sgK
      rw [if_neg (by omega), if_neg (by omega), if_neg (by omega), if_neg (by omega), if_neg (by omega), if_neg (by omega), if_neg (by omega), if_neg (by omega), if_neg (by omega), if_neg (by omega)]
    rw [e]
    exact Or.inr (Or.inr (Or.inr (Or.inr (Or.inr (Or.inl ⟨rfl, Or.inl rfl⟩)))))
section qAG
variable {l : Launch} {d : Nat} {D : Nat → Bool} {x : aS} {n : Nat} {B : Nat → Nat} {p i a b : Nat}
set_option maxHeartbeats 4000000 in
set_option maxRecDepth 100000 in
theorem c_X12_packed (hM : D 12 = true) (h : mBt n B x) (hab : a ≤ b) (hb : b ≤ n) (h6 : b - a ≤ 6) (hl : ∀ i, a + i < b → 97 ≤ B (a + i) ∧ B (a + i) ≤ 122) : aDI l mX12_packed d D [.ref bM, .int (nI a), .int (nI b)] x (nI (pkW B a (b - a))) x := by
  have n7 := h.2.1
  have e6 : nI a + 6 = nI (a + 6) := nI_add a 6
  have hH : ∀ t, t ≤ b - a → hW B a t < 32 ^ t := fun t ht => hW_lt (fun i hi => hl i (by omega))
  have hP : ∀ t, t ≤ 6 → mPk B a (b - a) t < 32 ^ t := by
    intro t ht
    unfold mPk
    split
    · exact hH t (by assumption)
    · have := (Nat.mul_lt_mul_right (Nat.pow_pos (a := 32) (n := t - (b - a)) (by decide))).mpr (hH (b - a) (Nat.le_refl _))
      rw [← Nat.pow_add, show b - a + (t - (b - a)) = t by omega] at this
      exact this
  have last : mPk B a (b - a) 6 = pkW B a (b - a) := by
    unfold mPk pkW
    rw [Nat.min_eq_left h6]
    by_cases e : b - a = 6
    · rw [if_pos (by omega), e]; simp
    · rw [if_neg (by omega), show (32 : Nat) = 2 ^ 5 from rfl, ← Nat.pow_mul, show 5 * (6 - (b - a)) = 30 - 5 * (b - a) by omega]
  have sh : ∀ t, t < 6 → nI (mPk B a (b - a) t) <<< ((5 : Int32) &&& 31) = nI (mPk B a (b - a) t * 32) := by
    intro t ht
    have h1 := hP t (by omega)
    have h2 : (32 : Nat) ^ t ≤ 32 ^ 5 := Nat.pow_le_pow_right (by decide) (by omega)
    exact pk_shlN _ 5 (by decide) (by omega)
  have L : ∀ (f t : Nat), t + f = 6 → aV l mX12_packed d D none 5 [(0, .ref bM), (1, .int (nI a)), (2, .int (nI b)), (3, .int (nI (mPk B a (b - a) t))), (4, .int (nI (a + t)))] [] x (fun v y => v = some (.int (nI (pkW B a (b - a)))) ∧ y = x) := by
    intro f
    induction f with
    | zero =>
      intro t ht
      rw [Nat.add_zero] at ht
      subst ht
      rw [last]
      refine a_iload (i := 4) dX12_packed_5 rfl ?_
      refine a_iload_n (i := 1) dX12_packed_7 rfl rfl ?_
      refine a_bipush (v := 6) dX12_packed_8 (by decide) ?_
      refine a_iadd dX12_packed_10 ?_
      rw [e6]
      refine a_icmp_ge (tg := 45) dX12_packed_11 (by decide) (fun c_11 => ?_) (fun c_11 => ?_)
      · refine a_iload_n (i := 3) dX12_packed_45 rfl rfl ?_
        exact a_iret dX12_packed_46 (by exact ⟨rfl, rfl⟩)
      · exact absurd (Int32.le_refl _) c_11
    | succ f ih =>
      intro t ht
      have ih2 := ih (t + 1) (by omega)
      have s := sh t (by omega)
      have pl := hP t (by omega)
      have h2 : (32 : Nat) ^ t ≤ 32 ^ 5 := Nat.pow_le_pow_right (by decide) (by omega)
      by_cases g : a + t < b
      · obtain ⟨b256, eb⟩ := h.2.2.1 (a + t) (by omega)
        have q := hl t g
        have eo : nI (mPk B a (b - a) t * 32) ||| (nI (B (a + t)) - 96) = nI (mPk B a (b - a) (t + 1)) := by
          rw [show (96 : Int32) = nI 96 from rfl, pk_sub (by omega), nI_or (by omega) (by omega)]
          congr 1
          rw [Nat.mul_comm, show (32 : Nat) = 2 ^ 5 from rfl, ← Nat.two_pow_add_eq_or_of_lt (by omega)]
          unfold mPk
          rw [if_pos (by omega), if_pos (by omega)]
          show _ = hW B a t * 32 + (B (a + t) - 96)
          omega
        refine a_iload (i := 4) dX12_packed_5 rfl ?_
        refine a_iload_n (i := 1) dX12_packed_7 rfl rfl ?_
        refine a_bipush (v := 6) dX12_packed_8 (by decide) ?_
        refine a_iadd dX12_packed_10 ?_
        rw [e6]
        refine a_icmp_ge (tg := 45) dX12_packed_11 (by decide) (fun c_11 => ?_) (fun c_11 => ?_)
        · exact absurd c_11 (nI_ge (by omega) (by omega))
        · refine a_iload_n (i := 3) dX12_packed_14 rfl rfl ?_
          refine a_iconst (v := 5) dX12_packed_15 (by decide) ?_
          refine a_ishl dX12_packed_16 ?_
          rw [s]
          refine a_iload (i := 4) dX12_packed_17 rfl ?_
          refine a_iload_n (i := 2) dX12_packed_19 rfl rfl ?_
          refine a_icmp_ge (tg := 36) dX12_packed_20 (by decide) (fun c_20 => ?_) (fun c_20 => ?_)
          · exact absurd c_20 (nI_ge g (by omega))
          · refine a_aload_n (i := 0) dX12_packed_23 rfl rfl ?_
            refine gX12_7 rfl dX12_packed_24 (isM_0 hM) ?_
            refine a_iload (i := 4) dX12_packed_27 rfl ?_
            refine a_ialdN dX12_packed_29 (isM_1 hM) (by first | with_reducible exact rfl | with_reducible exact ix8 _ _ | with_reducible exact ix12 _ _ | exact rfl) (by omega) (by decide) ?_
            rw [eb]
            refine a_bipush (v := 96) dX12_packed_30 (by decide) ?_
            refine a_isub dX12_packed_32 ?_
            refine a_goto (tg := 37) dX12_packed_33 (by decide) ?_
            refine a_ior dX12_packed_37 ?_
            rw [eo]
            refine a_istore_n (i := 3) dX12_packed_38 rfl (by decide) ?_
            refine a_iincK (i := 4) (u := 1) dX12_packed_39 rfl (by decide) (by decide) ?_
            refine a_goto (tg := 5) dX12_packed_42 (by decide) ?_
            rw [nI_1]; exact a_loc _ rfl ih2
      · have eo : nI (mPk B a (b - a) t * 32) ||| 0 = nI (mPk B a (b - a) (t + 1)) := by
          rw [Int32.or_zero]
          congr 1
          unfold mPk
          by_cases e : t = b - a
          · rw [if_pos (by omega), if_neg (by omega), e, show b - a + 1 - (b - a) = 1 by omega, Nat.pow_one]
          · rw [if_neg (by omega), if_neg (by omega), show t + 1 - (b - a) = (t - (b - a)) + 1 by omega, Nat.pow_succ, Nat.mul_assoc]
        have ee : nI b ≤ nI (a + t) := nI_le (by omega) (by omega)
        refine a_iload (i := 4) dX12_packed_5 rfl ?_
        refine a_iload_n (i := 1) dX12_packed_7 rfl rfl ?_
        refine a_bipush (v := 6) dX12_packed_8 (by decide) ?_
        refine a_iadd dX12_packed_10 ?_
        rw [e6]
        refine a_icmp_ge (tg := 45) dX12_packed_11 (by decide) (fun c_11 => ?_) (fun c_11 => ?_)
        · exact absurd c_11 (nI_ge (by omega) (by omega))
        · refine a_iload_n (i := 3) dX12_packed_14 rfl rfl ?_
          refine a_iconst (v := 5) dX12_packed_15 (by decide) ?_
          refine a_ishl dX12_packed_16 ?_
          rw [s]
          refine a_iload (i := 4) dX12_packed_17 rfl ?_
          refine a_iload_n (i := 2) dX12_packed_19 rfl rfl ?_
          refine a_icmp_ge (tg := 36) dX12_packed_20 (by decide) (fun c_20 => ?_) (fun c_20 => ?_)
          · refine a_iconst (v := 0) dX12_packed_36 (by decide) ?_
            refine a_ior dX12_packed_37 ?_
            rw [eo]
            refine a_istore_n (i := 3) dX12_packed_38 rfl (by decide) ?_
            refine a_iincK (i := 4) (u := 1) dX12_packed_39 rfl (by decide) (by decide) ?_
            refine a_goto (tg := 5) dX12_packed_42 (by decide) ?_
            rw [nI_1]; exact a_loc _ rfl ih2
          · exact absurd ee c_20
  refine a_metI (by decide) (Nat.le_of_ble_eq_true rfl) rfl ?_
  have L0 := L 6 0 rfl
  refine a_iconst (v := 0) dX12_packed_0 (by decide) ?_
  refine a_istore_n (i := 3) dX12_packed_1 rfl (by decide) ?_
  refine a_iload_n (i := 1) dX12_packed_2 rfl rfl ?_
  refine a_istore (i := 4) dX12_packed_3 (by decide) ?_
  exact a_loc _ rfl L0
set_option maxHeartbeats 4000000 in
set_option maxRecDepth 100000 in
theorem c_X12_signToken (hM : D 12 = true) (h : mBt n B x) (hp : p < n) (h7 : x.1 bM 7 = nI p) : aCt l mX12_signToken d D [.ref bM] x (fun v y => v = none ∧ y.1 bM 7 = nI (sgW B n p).2 ∧ y.1 bM 10 = x.1 bM 10 ∧ kM (sgW B n p).1 0 (y.1 bM 8) (y.1 bM 9) ∧ mSt x y) := by
  have n7 := h.2.1
  obtain ⟨b256, eb⟩ := h.2.2.1 p hp
  refine a_met (by decide) (Nat.le_of_ble_eq_true rfl) (fun v y q => Or.inr (Or.inr (Or.inr ⟨rfl, q.1⟩))) ?_
  obtain ⟨Y, hY⟩ : ∃ Y, Y = aWr (aWr x bM 9 (nI (B p))) bM 7 (nI (p + 1)) := ⟨_, rfl⟩
  have FY : mSt x Y := by rw [hY]; exact mSt_w (mSt_w (mSt_r x) (by decide)) (by decide)
  have Y7 : Y.1 bM 7 = nI (p + 1) := by rw [hY, aWr_s]
  have Y9 : Y.1 bM 9 = nI (B p) := by rw [hY, aWr_j _ _ _ (by decide), aWr_s]
  have Y10 : Y.1 bM 10 = x.1 bM 10 := by rw [hY, aWr_j _ _ _ (by decide), aWr_j _ _ _ (by decide)]
  have k := mBt_s h FY
  refine a_aload_n (i := 0) dX12_signToken_0 rfl rfl ?_
  refine a_aload_n (i := 0) dX12_signToken_1 rfl rfl ?_
  refine gX12_7 rfl dX12_signToken_2 (isM_0 hM) ?_
  refine a_aload_n (i := 0) dX12_signToken_5 rfl rfl ?_
  refine gX12_190 rfl dX12_signToken_6 (isM_0 hM) ?_
  rw [h7]
  refine a_ialdN dX12_signToken_9 (isM_1 hM) (by first | with_reducible exact rfl | with_reducible exact ix8 _ _ | with_reducible exact ix12 _ _ | exact rfl) (by omega) (by decide) ?_
  rw [eb]
  refine pX12_204 rfl dX12_signToken_10 (isM_0 hM) ?_
  refine a_aload_n (i := 0) dX12_signToken_13 rfl rfl ?_
  refine a_dup dX12_signToken_14 rfl ?_
  refine gX12_190 rfl dX12_signToken_15 (isM_0 hM) ?_
  rw [aWr_j _ _ _ (by decide), h7]
  refine a_iconst (v := 1) dX12_signToken_18 (by decide) ?_
  refine a_iadd dX12_signToken_19 ?_
  rw [nI_1]
  refine pX12_190 rfl dX12_signToken_20 (isM_0 hM) ?_
  rw [← hY]
  refine a_loc [(0, .ref bM)] rfl ?_
  -- one sign, with what follows
  have A1 : ∀ w : Int32, ∀ k, sgW B n p = (k, p + 1) → kM k 0 5 w → (aWr (aWr Y bM 8 5) bM 9 w).1 bM 7 = nI (sgW B n p).2 ∧ (aWr (aWr Y bM 8 5) bM 9 w).1 bM 10 = x.1 bM 10 ∧ kM (sgW B n p).1 0 ((aWr (aWr Y bM 8 5) bM 9 w).1 bM 8) ((aWr (aWr Y bM 8 5) bM 9 w).1 bM 9) ∧ mSt x (aWr (aWr Y bM 8 5) bM 9 w) := by
    intro w k g e
    rw [g, aWr_s, aWr_j _ _ _ (show (8 : Nat) ≠ 9 by decide), aWr_s]
    exact ⟨by rw [aWr_j _ _ _ (by decide), aWr_j _ _ _ (by decide)]; exact Y7, by rw [aWr_j _ _ _ (by decide), aWr_j _ _ _ (by decide)]; exact Y10, e, mSt_w (mSt_w FY (by decide)) (by decide)⟩
  have A2 : ∀ w : Int32, ∀ k, sgW B n p = (k, p + 2) → kM k 0 5 w → (aWr (aWr (aWr Y bM 7 (nI (p + 1 + 1))) bM 8 5) bM 9 w).1 bM 7 = nI (sgW B n p).2 ∧ (aWr (aWr (aWr Y bM 7 (nI (p + 1 + 1))) bM 8 5) bM 9 w).1 bM 10 = x.1 bM 10 ∧ kM (sgW B n p).1 0 ((aWr (aWr (aWr Y bM 7 (nI (p + 1 + 1))) bM 8 5) bM 9 w).1 bM 8) ((aWr (aWr (aWr Y bM 7 (nI (p + 1 + 1))) bM 8 5) bM 9 w).1 bM 9) ∧ mSt x (aWr (aWr (aWr Y bM 7 (nI (p + 1 + 1))) bM 8 5) bM 9 w) := by
    intro w k g e
    rw [g, aWr_s, aWr_j _ _ _ (show (8 : Nat) ≠ 9 by decide), aWr_s]
    exact ⟨by rw [aWr_j _ _ _ (by decide), aWr_j _ _ _ (by decide), aWr_s], by rw [aWr_j _ _ _ (by decide), aWr_j _ _ _ (by decide), aWr_j _ _ _ (by decide)]; exact Y10, e, mSt_w (mSt_w (mSt_w FY (by decide)) (by decide)) (by decide)⟩
  have T : (B p = 60 ∨ B p = 61 ∨ B p = 62) → ∀ th : Int32, (th = 61 ↔ (p + 1 < n ∧ B (p + 1) = 61)) → (th = 62 ↔ (p + 1 < n ∧ B (p + 1) = 62)) → aV l mX12_signToken d D none 75 [(0, .ref bM), (1, .int th)] [] Y (fun v y => v = none ∧ y.1 bM 7 = nI (sgW B n p).2 ∧ y.1 bM 10 = x.1 bM 10 ∧ kM (sgW B n p).1 0 (y.1 bM 8) (y.1 bM 9) ∧ mSt x y) := by
    intro hb th t61 t62
    rcases hb with hb | hb | hb
    · have y9 : Y.1 bM 9 = 60 := by rw [Y9, hb]; rfl
      have y92 : (aWr Y bM 8 5).1 bM 9 = 60 := by rw [aWr_j _ _ _ (by decide)]; exact y9
      have y93 : (aWr (aWr Y bM 7 (nI (p + 1 + 1))) bM 8 5).1 bM 9 = 60 := by rw [aWr_j _ _ _ (by decide), aWr_j _ _ _ (by decide)]; exact y9
      by_cases q1 : th = 61
      · have g := t61.mp q1
        subst q1
        have r := A2 1 28 (by unfold sgW; rw [if_pos ⟨g.1, hb, g.2⟩]) (by unfold kM; decide)
        refine a_aload_n (i := 0) dX12_signToken_75 rfl rfl ?_
        refine gX12_204 rfl dX12_signToken_76 (isM_0 hM) ?_
        rw [y9]
        refine a_bipush (v := 61) dX12_signToken_79 (by decide) ?_
        refine a_icmp_eq (tg := 94) dX12_signToken_81 (by decide) (fun c_81 => ?_) (fun c_81 => ?_)
        · exact absurd c_81 (by decide)
        · refine a_iload_n (i := 1) dX12_signToken_84 rfl rfl ?_
          refine a_bipush (v := 61) dX12_signToken_85 (by decide) ?_
          refine a_icmp_ne (tg := 94) dX12_signToken_87 (by decide) (fun c_87 => ?_) (fun c_87 => ?_)
          · exact absurd rfl c_87
          · refine a_iconst (v := 1) dX12_signToken_90 (by decide) ?_
            refine a_goto (tg := 95) dX12_signToken_91 (by decide) ?_
            refine a_istore_n (i := 2) dX12_signToken_95 rfl (by decide) ?_
            refine a_aload_n (i := 0) dX12_signToken_96 rfl rfl ?_
            refine gX12_204 rfl dX12_signToken_97 (isM_0 hM) ?_
            rw [y9]
            refine a_bipush (v := 60) dX12_signToken_100 (by decide) ?_
            refine a_icmp_ne (tg := 115) dX12_signToken_102 (by decide) (fun c_102 => ?_) (fun c_102 => ?_)
            · exact absurd rfl c_102
            · refine a_iload_n (i := 1) dX12_signToken_105 rfl rfl ?_
              refine a_bipush (v := 62) dX12_signToken_106 (by decide) ?_
              refine a_icmp_ne (tg := 115) dX12_signToken_108 (by decide) (fun c_108 => ?_) (fun c_108 => ?_)
              · refine a_iconst (v := 0) dX12_signToken_115 (by decide) ?_
                refine a_istore_n (i := 3) dX12_signToken_116 rfl (by decide) ?_
                refine a_iload_n (i := 2) dX12_signToken_117 rfl rfl ?_
                refine a_if_ne (tg := 125) dX12_signToken_118 (by decide) (fun c_118 => ?_) (fun c_118 => ?_)
                · refine a_aload_n (i := 0) dX12_signToken_125 rfl rfl ?_
                  refine a_dup dX12_signToken_126 rfl ?_
                  refine gX12_190 rfl dX12_signToken_127 (isM_0 hM) ?_
                  rw [Y7]
                  refine a_iconst (v := 1) dX12_signToken_130 (by decide) ?_
                  refine a_iadd dX12_signToken_131 ?_
                  rw [nI_1]
                  refine pX12_190 rfl dX12_signToken_132 (isM_0 hM) ?_
                  refine a_aload_n (i := 0) dX12_signToken_135 rfl rfl ?_
                  refine a_iconst (v := 5) dX12_signToken_136 (by decide) ?_
                  refine pX12_193 rfl dX12_signToken_137 (isM_0 hM) ?_
                  refine a_aload_n (i := 0) dX12_signToken_140 rfl rfl ?_
                  refine a_aload_n (i := 0) dX12_signToken_141 rfl rfl ?_
                  refine gX12_204 rfl dX12_signToken_142 (isM_0 hM) ?_
                  rw [y93]
                  refine a_bipush (v := 61) dX12_signToken_145 (by decide) ?_
                  refine a_icmp_ne (tg := 154) dX12_signToken_147 (by decide) (fun c_147 => ?_) (fun c_147 => ?_)
                  · refine a_aload_n (i := 0) dX12_signToken_154 rfl rfl ?_
                    refine gX12_204 rfl dX12_signToken_155 (isM_0 hM) ?_
                    rw [y93]
                    refine a_bipush (v := 60) dX12_signToken_158 (by decide) ?_
                    refine a_icmp_ne (tg := 183) dX12_signToken_160 (by decide) (fun c_160 => ?_) (fun c_160 => ?_)
                    · exact absurd rfl c_160
                    · refine a_iload_n (i := 2) dX12_signToken_163 rfl rfl ?_
                      refine a_if_eq (tg := 171) dX12_signToken_164 (by decide) (fun c_164 => ?_) (fun c_164 => ?_)
                      · exact absurd c_164 (by decide)
                      · refine a_iconst (v := 1) dX12_signToken_167 (by decide) ?_
                        refine a_goto (tg := 192) dX12_signToken_168 (by decide) ?_
                        refine pX12_204 rfl dX12_signToken_192 (isM_0 hM) ?_
                        refine a_goto (tg := 290) dX12_signToken_195 (by decide) ?_
                        exact a_vret dX12_signToken_290 (by exact ⟨rfl, r⟩)
                  · exact absurd c_147 (by decide)
                · exact absurd c_118 (by decide)
              · exact absurd c_108 (by decide)
      · by_cases q2 : th = 62
        · have g := t62.mp q2
          subst q2
          have r := A2 3 30 (by unfold sgW; rw [if_neg (fun e => by have := e.2.2; omega), if_neg (fun e => by have := e.2.2; omega), if_pos ⟨g.1, hb, g.2⟩]) (by unfold kM; decide)
          refine a_aload_n (i := 0) dX12_signToken_75 rfl rfl ?_
          refine gX12_204 rfl dX12_signToken_76 (isM_0 hM) ?_
          rw [y9]
          refine a_bipush (v := 61) dX12_signToken_79 (by decide) ?_
          refine a_icmp_eq (tg := 94) dX12_signToken_81 (by decide) (fun c_81 => ?_) (fun c_81 => ?_)
          · exact absurd c_81 (by decide)
          · refine a_iload_n (i := 1) dX12_signToken_84 rfl rfl ?_
            refine a_bipush (v := 61) dX12_signToken_85 (by decide) ?_
            refine a_icmp_ne (tg := 94) dX12_signToken_87 (by decide) (fun c_87 => ?_) (fun c_87 => ?_)
            · refine a_iconst (v := 0) dX12_signToken_94 (by decide) ?_
              refine a_istore_n (i := 2) dX12_signToken_95 rfl (by decide) ?_
              refine a_aload_n (i := 0) dX12_signToken_96 rfl rfl ?_
              refine gX12_204 rfl dX12_signToken_97 (isM_0 hM) ?_
              rw [y9]
              refine a_bipush (v := 60) dX12_signToken_100 (by decide) ?_
              refine a_icmp_ne (tg := 115) dX12_signToken_102 (by decide) (fun c_102 => ?_) (fun c_102 => ?_)
              · exact absurd rfl c_102
              · refine a_iload_n (i := 1) dX12_signToken_105 rfl rfl ?_
                refine a_bipush (v := 62) dX12_signToken_106 (by decide) ?_
                refine a_icmp_ne (tg := 115) dX12_signToken_108 (by decide) (fun c_108 => ?_) (fun c_108 => ?_)
                · exact absurd rfl c_108
                · refine a_iconst (v := 1) dX12_signToken_111 (by decide) ?_
                  refine a_goto (tg := 116) dX12_signToken_112 (by decide) ?_
                  refine a_istore_n (i := 3) dX12_signToken_116 rfl (by decide) ?_
                  refine a_iload_n (i := 2) dX12_signToken_117 rfl rfl ?_
                  refine a_if_ne (tg := 125) dX12_signToken_118 (by decide) (fun c_118 => ?_) (fun c_118 => ?_)
                  · exact absurd rfl c_118
                  · refine a_iload_n (i := 3) dX12_signToken_121 rfl rfl ?_
                    refine a_if_eq (tg := 135) dX12_signToken_122 (by decide) (fun c_122 => ?_) (fun c_122 => ?_)
                    · exact absurd c_122 (by decide)
                    · refine a_aload_n (i := 0) dX12_signToken_125 rfl rfl ?_
                      refine a_dup dX12_signToken_126 rfl ?_
                      refine gX12_190 rfl dX12_signToken_127 (isM_0 hM) ?_
                      rw [Y7]
                      refine a_iconst (v := 1) dX12_signToken_130 (by decide) ?_
                      refine a_iadd dX12_signToken_131 ?_
                      rw [nI_1]
                      refine pX12_190 rfl dX12_signToken_132 (isM_0 hM) ?_
                      refine a_aload_n (i := 0) dX12_signToken_135 rfl rfl ?_
                      refine a_iconst (v := 5) dX12_signToken_136 (by decide) ?_
                      refine pX12_193 rfl dX12_signToken_137 (isM_0 hM) ?_
                      refine a_aload_n (i := 0) dX12_signToken_140 rfl rfl ?_
                      refine a_aload_n (i := 0) dX12_signToken_141 rfl rfl ?_
                      refine gX12_204 rfl dX12_signToken_142 (isM_0 hM) ?_
                      rw [y93]
                      refine a_bipush (v := 61) dX12_signToken_145 (by decide) ?_
                      refine a_icmp_ne (tg := 154) dX12_signToken_147 (by decide) (fun c_147 => ?_) (fun c_147 => ?_)
                      · refine a_aload_n (i := 0) dX12_signToken_154 rfl rfl ?_
                        refine gX12_204 rfl dX12_signToken_155 (isM_0 hM) ?_
                        rw [y93]
                        refine a_bipush (v := 60) dX12_signToken_158 (by decide) ?_
                        refine a_icmp_ne (tg := 183) dX12_signToken_160 (by decide) (fun c_160 => ?_) (fun c_160 => ?_)
                        · exact absurd rfl c_160
                        · refine a_iload_n (i := 2) dX12_signToken_163 rfl rfl ?_
                          refine a_if_eq (tg := 171) dX12_signToken_164 (by decide) (fun c_164 => ?_) (fun c_164 => ?_)
                          · refine a_iload_n (i := 3) dX12_signToken_171 rfl rfl ?_
                            refine a_if_eq (tg := 179) dX12_signToken_172 (by decide) (fun c_172 => ?_) (fun c_172 => ?_)
                            · exact absurd c_172 (by decide)
                            · refine a_iconst (v := 3) dX12_signToken_175 (by decide) ?_
                              refine a_goto (tg := 192) dX12_signToken_176 (by decide) ?_
                              refine pX12_204 rfl dX12_signToken_192 (isM_0 hM) ?_
                              refine a_goto (tg := 290) dX12_signToken_195 (by decide) ?_
                              exact a_vret dX12_signToken_290 (by exact ⟨rfl, r⟩)
                          · exact absurd rfl c_164
                      · exact absurd c_147 (by decide)
            · exact absurd c_87 (by decide)
        · have r := A1 0 27 (by unfold sgW; rw [if_neg (fun e => q1 (t61.mpr ⟨e.1, e.2.2⟩)), if_neg (fun e => q1 (t61.mpr ⟨e.1, e.2.2⟩)), if_neg (fun e => q2 (t62.mpr ⟨e.1, e.2.2⟩)), hb]; rfl) (by unfold kM; decide)
          refine a_aload_n (i := 0) dX12_signToken_75 rfl rfl ?_
          refine gX12_204 rfl dX12_signToken_76 (isM_0 hM) ?_
          rw [y9]
          refine a_bipush (v := 61) dX12_signToken_79 (by decide) ?_
          refine a_icmp_eq (tg := 94) dX12_signToken_81 (by decide) (fun c_81 => ?_) (fun c_81 => ?_)
          · exact absurd c_81 (by decide)
          · refine a_iload_n (i := 1) dX12_signToken_84 rfl rfl ?_
            refine a_bipush (v := 61) dX12_signToken_85 (by decide) ?_
            refine a_icmp_ne (tg := 94) dX12_signToken_87 (by decide) (fun c_87 => ?_) (fun c_87 => ?_)
            · refine a_iconst (v := 0) dX12_signToken_94 (by decide) ?_
              refine a_istore_n (i := 2) dX12_signToken_95 rfl (by decide) ?_
              refine a_aload_n (i := 0) dX12_signToken_96 rfl rfl ?_
              refine gX12_204 rfl dX12_signToken_97 (isM_0 hM) ?_
              rw [y9]
              refine a_bipush (v := 60) dX12_signToken_100 (by decide) ?_
              refine a_icmp_ne (tg := 115) dX12_signToken_102 (by decide) (fun c_102 => ?_) (fun c_102 => ?_)
              · exact absurd rfl c_102
              · refine a_iload_n (i := 1) dX12_signToken_105 rfl rfl ?_
                refine a_bipush (v := 62) dX12_signToken_106 (by decide) ?_
                refine a_icmp_ne (tg := 115) dX12_signToken_108 (by decide) (fun c_108 => ?_) (fun c_108 => ?_)
                · refine a_iconst (v := 0) dX12_signToken_115 (by decide) ?_
                  refine a_istore_n (i := 3) dX12_signToken_116 rfl (by decide) ?_
                  refine a_iload_n (i := 2) dX12_signToken_117 rfl rfl ?_
                  refine a_if_ne (tg := 125) dX12_signToken_118 (by decide) (fun c_118 => ?_) (fun c_118 => ?_)
                  · exact absurd rfl c_118
                  · refine a_iload_n (i := 3) dX12_signToken_121 rfl rfl ?_
                    refine a_if_eq (tg := 135) dX12_signToken_122 (by decide) (fun c_122 => ?_) (fun c_122 => ?_)
                    · refine a_aload_n (i := 0) dX12_signToken_135 rfl rfl ?_
                      refine a_iconst (v := 5) dX12_signToken_136 (by decide) ?_
                      refine pX12_193 rfl dX12_signToken_137 (isM_0 hM) ?_
                      refine a_aload_n (i := 0) dX12_signToken_140 rfl rfl ?_
                      refine a_aload_n (i := 0) dX12_signToken_141 rfl rfl ?_
                      refine gX12_204 rfl dX12_signToken_142 (isM_0 hM) ?_
                      rw [y92]
                      refine a_bipush (v := 61) dX12_signToken_145 (by decide) ?_
                      refine a_icmp_ne (tg := 154) dX12_signToken_147 (by decide) (fun c_147 => ?_) (fun c_147 => ?_)
                      · refine a_aload_n (i := 0) dX12_signToken_154 rfl rfl ?_
                        refine gX12_204 rfl dX12_signToken_155 (isM_0 hM) ?_
                        rw [y92]
                        refine a_bipush (v := 60) dX12_signToken_158 (by decide) ?_
                        refine a_icmp_ne (tg := 183) dX12_signToken_160 (by decide) (fun c_160 => ?_) (fun c_160 => ?_)
                        · exact absurd rfl c_160
                        · refine a_iload_n (i := 2) dX12_signToken_163 rfl rfl ?_
                          refine a_if_eq (tg := 171) dX12_signToken_164 (by decide) (fun c_164 => ?_) (fun c_164 => ?_)
                          · refine a_iload_n (i := 3) dX12_signToken_171 rfl rfl ?_
                            refine a_if_eq (tg := 179) dX12_signToken_172 (by decide) (fun c_172 => ?_) (fun c_172 => ?_)
                            · refine a_iconst (v := 0) dX12_signToken_179 (by decide) ?_
                              refine a_goto (tg := 192) dX12_signToken_180 (by decide) ?_
                              refine pX12_204 rfl dX12_signToken_192 (isM_0 hM) ?_
                              refine a_goto (tg := 290) dX12_signToken_195 (by decide) ?_
                              exact a_vret dX12_signToken_290 (by exact ⟨rfl, r⟩)
                            · exact absurd rfl c_172
                          · exact absurd rfl c_164
                      · exact absurd c_147 (by decide)
                    · exact absurd rfl c_122
                · exact absurd c_108 q2
            · exact absurd c_87 q1
    · have y9 : Y.1 bM 9 = 61 := by rw [Y9, hb]; rfl
      have y92 : (aWr Y bM 8 5).1 bM 9 = 61 := by rw [aWr_j _ _ _ (by decide)]; exact y9
      have r := A1 2 29 (by unfold sgW; rw [if_neg (fun e => by have := e.2.1; omega), if_neg (fun e => by have := e.2.1; omega), if_neg (fun e => by have := e.2.1; omega), hb]; rfl) (by unfold kM; decide)
      refine a_aload_n (i := 0) dX12_signToken_75 rfl rfl ?_
      refine gX12_204 rfl dX12_signToken_76 (isM_0 hM) ?_
      rw [y9]
      refine a_bipush (v := 61) dX12_signToken_79 (by decide) ?_
      refine a_icmp_eq (tg := 94) dX12_signToken_81 (by decide) (fun c_81 => ?_) (fun c_81 => ?_)
      · refine a_iconst (v := 0) dX12_signToken_94 (by decide) ?_
        refine a_istore_n (i := 2) dX12_signToken_95 rfl (by decide) ?_
        refine a_aload_n (i := 0) dX12_signToken_96 rfl rfl ?_
        refine gX12_204 rfl dX12_signToken_97 (isM_0 hM) ?_
        rw [y9]
        refine a_bipush (v := 60) dX12_signToken_100 (by decide) ?_
        refine a_icmp_ne (tg := 115) dX12_signToken_102 (by decide) (fun c_102 => ?_) (fun c_102 => ?_)
        · refine a_iconst (v := 0) dX12_signToken_115 (by decide) ?_
          refine a_istore_n (i := 3) dX12_signToken_116 rfl (by decide) ?_
          refine a_iload_n (i := 2) dX12_signToken_117 rfl rfl ?_
          refine a_if_ne (tg := 125) dX12_signToken_118 (by decide) (fun c_118 => ?_) (fun c_118 => ?_)
          · exact absurd rfl c_118
          · refine a_iload_n (i := 3) dX12_signToken_121 rfl rfl ?_
            refine a_if_eq (tg := 135) dX12_signToken_122 (by decide) (fun c_122 => ?_) (fun c_122 => ?_)
            · refine a_aload_n (i := 0) dX12_signToken_135 rfl rfl ?_
              refine a_iconst (v := 5) dX12_signToken_136 (by decide) ?_
              refine pX12_193 rfl dX12_signToken_137 (isM_0 hM) ?_
              refine a_aload_n (i := 0) dX12_signToken_140 rfl rfl ?_
              refine a_aload_n (i := 0) dX12_signToken_141 rfl rfl ?_
              refine gX12_204 rfl dX12_signToken_142 (isM_0 hM) ?_
              rw [y92]
              refine a_bipush (v := 61) dX12_signToken_145 (by decide) ?_
              refine a_icmp_ne (tg := 154) dX12_signToken_147 (by decide) (fun c_147 => ?_) (fun c_147 => ?_)
              · exact absurd rfl c_147
              · refine a_iconst (v := 2) dX12_signToken_150 (by decide) ?_
                refine a_goto (tg := 192) dX12_signToken_151 (by decide) ?_
                refine pX12_204 rfl dX12_signToken_192 (isM_0 hM) ?_
                refine a_goto (tg := 290) dX12_signToken_195 (by decide) ?_
                exact a_vret dX12_signToken_290 (by exact ⟨rfl, r⟩)
            · exact absurd rfl c_122
        · exact absurd c_102 (by decide)
      · exact absurd rfl c_81
    · have y9 : Y.1 bM 9 = 62 := by rw [Y9, hb]; rfl
      have y92 : (aWr Y bM 8 5).1 bM 9 = 62 := by rw [aWr_j _ _ _ (by decide)]; exact y9
      have y93 : (aWr (aWr Y bM 7 (nI (p + 1 + 1))) bM 8 5).1 bM 9 = 62 := by rw [aWr_j _ _ _ (by decide), aWr_j _ _ _ (by decide)]; exact y9
      by_cases q1 : th = 61
      · have g := t61.mp q1
        subst q1
        have r := A2 4 31 (by unfold sgW; rw [if_neg (fun e => by have := e.2.1; omega), if_pos ⟨g.1, hb, g.2⟩]) (by unfold kM; decide)
        refine a_aload_n (i := 0) dX12_signToken_75 rfl rfl ?_
        refine gX12_204 rfl dX12_signToken_76 (isM_0 hM) ?_
        rw [y9]
        refine a_bipush (v := 61) dX12_signToken_79 (by decide) ?_
        refine a_icmp_eq (tg := 94) dX12_signToken_81 (by decide) (fun c_81 => ?_) (fun c_81 => ?_)
        · exact absurd c_81 (by decide)
        · refine a_iload_n (i := 1) dX12_signToken_84 rfl rfl ?_
          refine a_bipush (v := 61) dX12_signToken_85 (by decide) ?_
          refine a_icmp_ne (tg := 94) dX12_signToken_87 (by decide) (fun c_87 => ?_) (fun c_87 => ?_)
          · exact absurd rfl c_87
          · refine a_iconst (v := 1) dX12_signToken_90 (by decide) ?_
            refine a_goto (tg := 95) dX12_signToken_91 (by decide) ?_
            refine a_istore_n (i := 2) dX12_signToken_95 rfl (by decide) ?_
            refine a_aload_n (i := 0) dX12_signToken_96 rfl rfl ?_
            refine gX12_204 rfl dX12_signToken_97 (isM_0 hM) ?_
            rw [y9]
            refine a_bipush (v := 60) dX12_signToken_100 (by decide) ?_
            refine a_icmp_ne (tg := 115) dX12_signToken_102 (by decide) (fun c_102 => ?_) (fun c_102 => ?_)
            · refine a_iconst (v := 0) dX12_signToken_115 (by decide) ?_
              refine a_istore_n (i := 3) dX12_signToken_116 rfl (by decide) ?_
              refine a_iload_n (i := 2) dX12_signToken_117 rfl rfl ?_
              refine a_if_ne (tg := 125) dX12_signToken_118 (by decide) (fun c_118 => ?_) (fun c_118 => ?_)
              · refine a_aload_n (i := 0) dX12_signToken_125 rfl rfl ?_
                refine a_dup dX12_signToken_126 rfl ?_
                refine gX12_190 rfl dX12_signToken_127 (isM_0 hM) ?_
                rw [Y7]
                refine a_iconst (v := 1) dX12_signToken_130 (by decide) ?_
                refine a_iadd dX12_signToken_131 ?_
                rw [nI_1]
                refine pX12_190 rfl dX12_signToken_132 (isM_0 hM) ?_
                refine a_aload_n (i := 0) dX12_signToken_135 rfl rfl ?_
                refine a_iconst (v := 5) dX12_signToken_136 (by decide) ?_
                refine pX12_193 rfl dX12_signToken_137 (isM_0 hM) ?_
                refine a_aload_n (i := 0) dX12_signToken_140 rfl rfl ?_
                refine a_aload_n (i := 0) dX12_signToken_141 rfl rfl ?_
                refine gX12_204 rfl dX12_signToken_142 (isM_0 hM) ?_
                rw [y93]
                refine a_bipush (v := 61) dX12_signToken_145 (by decide) ?_
                refine a_icmp_ne (tg := 154) dX12_signToken_147 (by decide) (fun c_147 => ?_) (fun c_147 => ?_)
                · refine a_aload_n (i := 0) dX12_signToken_154 rfl rfl ?_
                  refine gX12_204 rfl dX12_signToken_155 (isM_0 hM) ?_
                  rw [y93]
                  refine a_bipush (v := 60) dX12_signToken_158 (by decide) ?_
                  refine a_icmp_ne (tg := 183) dX12_signToken_160 (by decide) (fun c_160 => ?_) (fun c_160 => ?_)
                  · refine a_iload_n (i := 2) dX12_signToken_183 rfl rfl ?_
                    refine a_if_eq (tg := 191) dX12_signToken_184 (by decide) (fun c_184 => ?_) (fun c_184 => ?_)
                    · exact absurd c_184 (by decide)
                    · refine a_iconst (v := 4) dX12_signToken_187 (by decide) ?_
                      refine a_goto (tg := 192) dX12_signToken_188 (by decide) ?_
                      refine pX12_204 rfl dX12_signToken_192 (isM_0 hM) ?_
                      refine a_goto (tg := 290) dX12_signToken_195 (by decide) ?_
                      exact a_vret dX12_signToken_290 (by exact ⟨rfl, r⟩)
                  · exact absurd c_160 (by decide)
                · exact absurd c_147 (by decide)
              · exact absurd c_118 (by decide)
            · exact absurd c_102 (by decide)
      · have r := A1 5 32 (by unfold sgW; rw [if_neg (fun e => q1 (t61.mpr ⟨e.1, e.2.2⟩)), if_neg (fun e => q1 (t61.mpr ⟨e.1, e.2.2⟩)), if_neg (fun e => by have := e.2.1; omega), hb]; rfl) (by unfold kM; decide)
        refine a_aload_n (i := 0) dX12_signToken_75 rfl rfl ?_
        refine gX12_204 rfl dX12_signToken_76 (isM_0 hM) ?_
        rw [y9]
        refine a_bipush (v := 61) dX12_signToken_79 (by decide) ?_
        refine a_icmp_eq (tg := 94) dX12_signToken_81 (by decide) (fun c_81 => ?_) (fun c_81 => ?_)
        · exact absurd c_81 (by decide)
        · refine a_iload_n (i := 1) dX12_signToken_84 rfl rfl ?_
          refine a_bipush (v := 61) dX12_signToken_85 (by decide) ?_
          refine a_icmp_ne (tg := 94) dX12_signToken_87 (by decide) (fun c_87 => ?_) (fun c_87 => ?_)
          · refine a_iconst (v := 0) dX12_signToken_94 (by decide) ?_
            refine a_istore_n (i := 2) dX12_signToken_95 rfl (by decide) ?_
            refine a_aload_n (i := 0) dX12_signToken_96 rfl rfl ?_
            refine gX12_204 rfl dX12_signToken_97 (isM_0 hM) ?_
            rw [y9]
            refine a_bipush (v := 60) dX12_signToken_100 (by decide) ?_
            refine a_icmp_ne (tg := 115) dX12_signToken_102 (by decide) (fun c_102 => ?_) (fun c_102 => ?_)
            · refine a_iconst (v := 0) dX12_signToken_115 (by decide) ?_
              refine a_istore_n (i := 3) dX12_signToken_116 rfl (by decide) ?_
              refine a_iload_n (i := 2) dX12_signToken_117 rfl rfl ?_
              refine a_if_ne (tg := 125) dX12_signToken_118 (by decide) (fun c_118 => ?_) (fun c_118 => ?_)
              · exact absurd rfl c_118
              · refine a_iload_n (i := 3) dX12_signToken_121 rfl rfl ?_
                refine a_if_eq (tg := 135) dX12_signToken_122 (by decide) (fun c_122 => ?_) (fun c_122 => ?_)
                · refine a_aload_n (i := 0) dX12_signToken_135 rfl rfl ?_
                  refine a_iconst (v := 5) dX12_signToken_136 (by decide) ?_
                  refine pX12_193 rfl dX12_signToken_137 (isM_0 hM) ?_
                  refine a_aload_n (i := 0) dX12_signToken_140 rfl rfl ?_
                  refine a_aload_n (i := 0) dX12_signToken_141 rfl rfl ?_
                  refine gX12_204 rfl dX12_signToken_142 (isM_0 hM) ?_
                  rw [y92]
                  refine a_bipush (v := 61) dX12_signToken_145 (by decide) ?_
                  refine a_icmp_ne (tg := 154) dX12_signToken_147 (by decide) (fun c_147 => ?_) (fun c_147 => ?_)
                  · refine a_aload_n (i := 0) dX12_signToken_154 rfl rfl ?_
                    refine gX12_204 rfl dX12_signToken_155 (isM_0 hM) ?_
                    rw [y92]
                    refine a_bipush (v := 60) dX12_signToken_158 (by decide) ?_
                    refine a_icmp_ne (tg := 183) dX12_signToken_160 (by decide) (fun c_160 => ?_) (fun c_160 => ?_)
                    · refine a_iload_n (i := 2) dX12_signToken_183 rfl rfl ?_
                      refine a_if_eq (tg := 191) dX12_signToken_184 (by decide) (fun c_184 => ?_) (fun c_184 => ?_)
                      · refine a_iconst (v := 5) dX12_signToken_191 (by decide) ?_
                        refine pX12_204 rfl dX12_signToken_192 (isM_0 hM) ?_
                        refine a_goto (tg := 290) dX12_signToken_195 (by decide) ?_
                        exact a_vret dX12_signToken_290 (by exact ⟨rfl, r⟩)
                      · exact absurd rfl c_184
                    · exact absurd c_160 (by decide)
                  · exact absurd c_147 (by decide)
                · exact absurd rfl c_122
            · exact absurd c_102 (by decide)
          · exact absurd c_87 q1
  have U : (B p = 60 ∨ B p = 61 ∨ B p = 62) → aV l mX12_signToken d D none 50 [(0, .ref bM)] [] Y (fun v y => v = none ∧ y.1 bM 7 = nI (sgW B n p).2 ∧ y.1 bM 10 = x.1 bM 10 ∧ kM (sgW B n p).1 0 (y.1 bM 8) (y.1 bM 9) ∧ mSt x y) := by
    intro hb
    by_cases g : p + 1 < n
    · obtain ⟨c256, ec⟩ := k.2.2.1 (p + 1) g
      have t1 := T hb (nI (B (p + 1))) ⟨fun e => ⟨g, (nI_eq (b := 61) (by omega) (by decide)).mp e⟩, fun e => by rw [e.2]; rfl⟩ ⟨fun e => ⟨g, (nI_eq (b := 62) (by omega) (by decide)).mp e⟩, fun e => by rw [e.2]; rfl⟩
      refine a_aload_n (i := 0) dX12_signToken_50 rfl rfl ?_
      refine gX12_190 rfl dX12_signToken_51 (isM_0 hM) ?_
      rw [Y7]
      refine a_aload_n (i := 0) dX12_signToken_54 rfl rfl ?_
      refine gX12_187 rfl dX12_signToken_55 (isM_0 hM) ?_
      rw [k.1]
      refine a_icmp_ge (tg := 73) dX12_signToken_58 (by decide) (fun c_58 => ?_) (fun c_58 => ?_)
      · exact absurd c_58 (nI_ge g (by omega))
      · refine a_aload_n (i := 0) dX12_signToken_61 rfl rfl ?_
        refine gX12_7 rfl dX12_signToken_62 (isM_0 hM) ?_
        refine a_aload_n (i := 0) dX12_signToken_65 rfl rfl ?_
        refine gX12_190 rfl dX12_signToken_66 (isM_0 hM) ?_
        rw [Y7]
        refine a_ialdN dX12_signToken_69 (isM_1 hM) (by first | with_reducible exact rfl | with_reducible exact ix8 _ _ | with_reducible exact ix12 _ _ | exact rfl) (by omega) (by decide) ?_
        rw [ec]
        refine a_goto (tg := 74) dX12_signToken_70 (by decide) ?_
        refine a_istore_n (i := 1) dX12_signToken_74 rfl (by decide) ?_
        exact a_loc _ rfl t1
    · have t1 := T hb 0 ⟨fun e => absurd e (by decide), fun e => absurd e.1 g⟩ ⟨fun e => absurd e (by decide), fun e => absurd e.1 g⟩
      have ee : nI n ≤ nI (p + 1) := nI_le (by omega) (by omega)
      refine a_aload_n (i := 0) dX12_signToken_50 rfl rfl ?_
      refine gX12_190 rfl dX12_signToken_51 (isM_0 hM) ?_
      rw [Y7]
      refine a_aload_n (i := 0) dX12_signToken_54 rfl rfl ?_
      refine gX12_187 rfl dX12_signToken_55 (isM_0 hM) ?_
      rw [k.1]
      refine a_icmp_ge (tg := 73) dX12_signToken_58 (by decide) (fun c_58 => ?_) (fun c_58 => ?_)
      · refine a_iconst (v := 0) dX12_signToken_73 (by decide) ?_
        refine a_istore_n (i := 1) dX12_signToken_74 rfl (by decide) ?_
        exact a_loc _ rfl t1
      · exact absurd ee c_58
  by_cases b60 : B p = 60
  · have y9 : Y.1 bM 9 = 60 := by rw [Y9, b60]; rfl
    have u := U (Or.inl b60)
    refine a_aload_n (i := 0) dX12_signToken_23 rfl rfl ?_
    refine gX12_204 rfl dX12_signToken_24 (isM_0 hM) ?_
    rw [y9]
    refine a_bipush (v := 60) dX12_signToken_27 (by decide) ?_
    refine a_icmp_eq (tg := 50) dX12_signToken_29 (by decide) (fun c_29 => ?_) (fun c_29 => ?_)
    · exact a_loc _ rfl u
    · exact absurd rfl c_29
  · by_cases b62 : B p = 62
    · have y9 : Y.1 bM 9 = 62 := by rw [Y9, b62]; rfl
      have u := U (Or.inr (Or.inr b62))
      refine a_aload_n (i := 0) dX12_signToken_23 rfl rfl ?_
      refine gX12_204 rfl dX12_signToken_24 (isM_0 hM) ?_
      rw [y9]
      refine a_bipush (v := 60) dX12_signToken_27 (by decide) ?_
      refine a_icmp_eq (tg := 50) dX12_signToken_29 (by decide) (fun c_29 => ?_) (fun c_29 => ?_)
      · exact absurd c_29 (by decide)
      · refine a_aload_n (i := 0) dX12_signToken_32 rfl rfl ?_
        refine gX12_204 rfl dX12_signToken_33 (isM_0 hM) ?_
        rw [y9]
        refine a_bipush (v := 62) dX12_signToken_36 (by decide) ?_
        refine a_icmp_eq (tg := 50) dX12_signToken_38 (by decide) (fun c_38 => ?_) (fun c_38 => ?_)
        · exact a_loc _ rfl u
        · exact absurd rfl c_38
    · by_cases b61 : B p = 61
      · have y9 : Y.1 bM 9 = 61 := by rw [Y9, b61]; rfl
        have u := U (Or.inr (Or.inl b61))
        refine a_aload_n (i := 0) dX12_signToken_23 rfl rfl ?_
        refine gX12_204 rfl dX12_signToken_24 (isM_0 hM) ?_
        rw [y9]
        refine a_bipush (v := 60) dX12_signToken_27 (by decide) ?_
        refine a_icmp_eq (tg := 50) dX12_signToken_29 (by decide) (fun c_29 => ?_) (fun c_29 => ?_)
        · exact absurd c_29 (by decide)
        · refine a_aload_n (i := 0) dX12_signToken_32 rfl rfl ?_
          refine gX12_204 rfl dX12_signToken_33 (isM_0 hM) ?_
          rw [y9]
          refine a_bipush (v := 62) dX12_signToken_36 (by decide) ?_
          refine a_icmp_eq (tg := 50) dX12_signToken_38 (by decide) (fun c_38 => ?_) (fun c_38 => ?_)
          · exact absurd c_38 (by decide)
          · refine a_aload_n (i := 0) dX12_signToken_41 rfl rfl ?_
            refine gX12_204 rfl dX12_signToken_42 (isM_0 hM) ?_
            rw [y9]
            refine a_bipush (v := 61) dX12_signToken_45 (by decide) ?_
            refine a_icmp_ne (tg := 198) dX12_signToken_47 (by decide) (fun c_47 => ?_) (fun c_47 => ?_)
            · exact absurd rfl c_47
            · exact a_loc _ rfl u
      · obtain ⟨k4, k6⟩ := sg_o (B p) b256 b60 b61 b62
        have W : sgW B n p = (sgK (B p), p + 1) := by unfold sgW; rw [if_neg (fun e => b60 e.2.1), if_neg (fun e => b62 e.2.1), if_neg (fun e => b60 e.2.1)]
        have A : ∀ c, kM (sgK (B p)) 0 c (nI (B p)) → (aWr Y bM 8 c).1 bM 7 = nI (sgW B n p).2 ∧ (aWr Y bM 8 c).1 bM 10 = x.1 bM 10 ∧ kM (sgW B n p).1 0 ((aWr Y bM 8 c).1 bM 8) ((aWr Y bM 8 c).1 bM 9) ∧ mSt x (aWr Y bM 8 c) := by
          intro c e
          rw [W, aWr_s, aWr_j _ _ _ (show (9 : Nat) ≠ 8 by decide), Y9]
          exact ⟨by rw [aWr_j _ _ _ (by decide)]; exact Y7, by rw [aWr_j _ _ _ (by decide)]; exact Y10, e, mSt_w FY (by decide)⟩
        have no : ∀ (c : Nat), c < 256 → ¬ B p = c → ¬ nI (B p) = nI c := fun c hc g e => g ((nI_eq (by omega) (by omega)).mp e)
        have n60 := no 60 (by decide) b60
        have n62 := no 62 (by decide) b62
        have n61 := no 61 (by decide) b61
        by_cases q : B p = 59 ∨ B p = 40 ∨ B p = 41 ∨ B p = 43 ∨ B p = 45 ∨ B p = 42 ∨ B p = 47 ∨ B p = 37
        · have r := A 4 (k4 q)
          refine a_aload_n (i := 0) dX12_signToken_23 rfl rfl ?_
          refine gX12_204 rfl dX12_signToken_24 (isM_0 hM) ?_
          rw [Y9]
          refine a_bipush (v := 60) dX12_signToken_27 (by decide) ?_
          refine a_icmp_eq (tg := 50) dX12_signToken_29 (by decide) (fun c_29 => ?_) (fun c_29 => ?_)
          · exact absurd c_29 n60
          · refine a_aload_n (i := 0) dX12_signToken_32 rfl rfl ?_
            refine gX12_204 rfl dX12_signToken_33 (isM_0 hM) ?_
            rw [Y9]
            refine a_bipush (v := 62) dX12_signToken_36 (by decide) ?_
            refine a_icmp_eq (tg := 50) dX12_signToken_38 (by decide) (fun c_38 => ?_) (fun c_38 => ?_)
            · exact absurd c_38 n62
            · refine a_aload_n (i := 0) dX12_signToken_41 rfl rfl ?_
              refine gX12_204 rfl dX12_signToken_42 (isM_0 hM) ?_
              rw [Y9]
              refine a_bipush (v := 61) dX12_signToken_45 (by decide) ?_
              refine a_icmp_ne (tg := 198) dX12_signToken_47 (by decide) (fun c_47 => ?_) (fun c_47 => ?_)
              · refine a_aload_n (i := 0) dX12_signToken_198 rfl rfl ?_
                refine gX12_204 rfl dX12_signToken_199 (isM_0 hM) ?_
                rw [Y9]
                refine a_bipush (v := 59) dX12_signToken_202 (by decide) ?_
                refine a_icmp_eq (tg := 270) dX12_signToken_204 (by decide) (fun c_204 => ?_) (fun c_204 => ?_)
                · refine a_iconst (v := 1) dX12_signToken_270 (by decide) ?_
                  refine a_goto (tg := 275) dX12_signToken_271 (by decide) ?_
                  refine a_istore_n (i := 1) dX12_signToken_275 rfl (by decide) ?_
                  refine a_aload_n (i := 0) dX12_signToken_276 rfl rfl ?_
                  refine a_iload_n (i := 1) dX12_signToken_277 rfl rfl ?_
                  refine a_if_eq (tg := 285) dX12_signToken_278 (by decide) (fun c_278 => ?_) (fun c_278 => ?_)
                  · exact absurd c_278 (by decide)
                  · refine a_iconst (v := 4) dX12_signToken_281 (by decide) ?_
                    refine a_goto (tg := 287) dX12_signToken_282 (by decide) ?_
                    refine pX12_193 rfl dX12_signToken_287 (isM_0 hM) ?_
                    exact a_vret dX12_signToken_290 (by exact ⟨rfl, r⟩)
                · refine a_aload_n (i := 0) dX12_signToken_207 rfl rfl ?_
                  refine gX12_204 rfl dX12_signToken_208 (isM_0 hM) ?_
                  rw [Y9]
                  refine a_bipush (v := 40) dX12_signToken_211 (by decide) ?_
                  refine a_icmp_eq (tg := 270) dX12_signToken_213 (by decide) (fun c_213 => ?_) (fun c_213 => ?_)
                  · refine a_iconst (v := 1) dX12_signToken_270 (by decide) ?_
                    refine a_goto (tg := 275) dX12_signToken_271 (by decide) ?_
                    refine a_istore_n (i := 1) dX12_signToken_275 rfl (by decide) ?_
                    refine a_aload_n (i := 0) dX12_signToken_276 rfl rfl ?_
                    refine a_iload_n (i := 1) dX12_signToken_277 rfl rfl ?_
                    refine a_if_eq (tg := 285) dX12_signToken_278 (by decide) (fun c_278 => ?_) (fun c_278 => ?_)
                    · exact absurd c_278 (by decide)
                    · refine a_iconst (v := 4) dX12_signToken_281 (by decide) ?_
                      refine a_goto (tg := 287) dX12_signToken_282 (by decide) ?_
                      refine pX12_193 rfl dX12_signToken_287 (isM_0 hM) ?_
                      exact a_vret dX12_signToken_290 (by exact ⟨rfl, r⟩)
                  · refine a_aload_n (i := 0) dX12_signToken_216 rfl rfl ?_
                    refine gX12_204 rfl dX12_signToken_217 (isM_0 hM) ?_
                    rw [Y9]
                    refine a_bipush (v := 41) dX12_signToken_220 (by decide) ?_
                    refine a_icmp_eq (tg := 270) dX12_signToken_222 (by decide) (fun c_222 => ?_) (fun c_222 => ?_)
                    · refine a_iconst (v := 1) dX12_signToken_270 (by decide) ?_
                      refine a_goto (tg := 275) dX12_signToken_271 (by decide) ?_
                      refine a_istore_n (i := 1) dX12_signToken_275 rfl (by decide) ?_
                      refine a_aload_n (i := 0) dX12_signToken_276 rfl rfl ?_
                      refine a_iload_n (i := 1) dX12_signToken_277 rfl rfl ?_
                      refine a_if_eq (tg := 285) dX12_signToken_278 (by decide) (fun c_278 => ?_) (fun c_278 => ?_)
                      · exact absurd c_278 (by decide)
                      · refine a_iconst (v := 4) dX12_signToken_281 (by decide) ?_
                        refine a_goto (tg := 287) dX12_signToken_282 (by decide) ?_
                        refine pX12_193 rfl dX12_signToken_287 (isM_0 hM) ?_
                        exact a_vret dX12_signToken_290 (by exact ⟨rfl, r⟩)
                    · refine a_aload_n (i := 0) dX12_signToken_225 rfl rfl ?_
                      refine gX12_204 rfl dX12_signToken_226 (isM_0 hM) ?_
                      rw [Y9]
                      refine a_bipush (v := 43) dX12_signToken_229 (by decide) ?_
                      refine a_icmp_eq (tg := 270) dX12_signToken_231 (by decide) (fun c_231 => ?_) (fun c_231 => ?_)
                      · refine a_iconst (v := 1) dX12_signToken_270 (by decide) ?_
                        refine a_goto (tg := 275) dX12_signToken_271 (by decide) ?_
                        refine a_istore_n (i := 1) dX12_signToken_275 rfl (by decide) ?_
                        refine a_aload_n (i := 0) dX12_signToken_276 rfl rfl ?_
                        refine a_iload_n (i := 1) dX12_signToken_277 rfl rfl ?_
                        refine a_if_eq (tg := 285) dX12_signToken_278 (by decide) (fun c_278 => ?_) (fun c_278 => ?_)
                        · exact absurd c_278 (by decide)
                        · refine a_iconst (v := 4) dX12_signToken_281 (by decide) ?_
                          refine a_goto (tg := 287) dX12_signToken_282 (by decide) ?_
                          refine pX12_193 rfl dX12_signToken_287 (isM_0 hM) ?_
                          exact a_vret dX12_signToken_290 (by exact ⟨rfl, r⟩)
                      · refine a_aload_n (i := 0) dX12_signToken_234 rfl rfl ?_
                        refine gX12_204 rfl dX12_signToken_235 (isM_0 hM) ?_
                        rw [Y9]
                        refine a_bipush (v := 45) dX12_signToken_238 (by decide) ?_
                        refine a_icmp_eq (tg := 270) dX12_signToken_240 (by decide) (fun c_240 => ?_) (fun c_240 => ?_)
                        · refine a_iconst (v := 1) dX12_signToken_270 (by decide) ?_
                          refine a_goto (tg := 275) dX12_signToken_271 (by decide) ?_
                          refine a_istore_n (i := 1) dX12_signToken_275 rfl (by decide) ?_
                          refine a_aload_n (i := 0) dX12_signToken_276 rfl rfl ?_
                          refine a_iload_n (i := 1) dX12_signToken_277 rfl rfl ?_
                          refine a_if_eq (tg := 285) dX12_signToken_278 (by decide) (fun c_278 => ?_) (fun c_278 => ?_)
                          · exact absurd c_278 (by decide)
                          · refine a_iconst (v := 4) dX12_signToken_281 (by decide) ?_
                            refine a_goto (tg := 287) dX12_signToken_282 (by decide) ?_
                            refine pX12_193 rfl dX12_signToken_287 (isM_0 hM) ?_
                            exact a_vret dX12_signToken_290 (by exact ⟨rfl, r⟩)
                        · refine a_aload_n (i := 0) dX12_signToken_243 rfl rfl ?_
                          refine gX12_204 rfl dX12_signToken_244 (isM_0 hM) ?_
                          rw [Y9]
                          refine a_bipush (v := 42) dX12_signToken_247 (by decide) ?_
                          refine a_icmp_eq (tg := 270) dX12_signToken_249 (by decide) (fun c_249 => ?_) (fun c_249 => ?_)
                          · refine a_iconst (v := 1) dX12_signToken_270 (by decide) ?_
                            refine a_goto (tg := 275) dX12_signToken_271 (by decide) ?_
                            refine a_istore_n (i := 1) dX12_signToken_275 rfl (by decide) ?_
                            refine a_aload_n (i := 0) dX12_signToken_276 rfl rfl ?_
                            refine a_iload_n (i := 1) dX12_signToken_277 rfl rfl ?_
                            refine a_if_eq (tg := 285) dX12_signToken_278 (by decide) (fun c_278 => ?_) (fun c_278 => ?_)
                            · exact absurd c_278 (by decide)
                            · refine a_iconst (v := 4) dX12_signToken_281 (by decide) ?_
                              refine a_goto (tg := 287) dX12_signToken_282 (by decide) ?_
                              refine pX12_193 rfl dX12_signToken_287 (isM_0 hM) ?_
                              exact a_vret dX12_signToken_290 (by exact ⟨rfl, r⟩)
                          · refine a_aload_n (i := 0) dX12_signToken_252 rfl rfl ?_
                            refine gX12_204 rfl dX12_signToken_253 (isM_0 hM) ?_
                            rw [Y9]
                            refine a_bipush (v := 47) dX12_signToken_256 (by decide) ?_
                            refine a_icmp_eq (tg := 270) dX12_signToken_258 (by decide) (fun c_258 => ?_) (fun c_258 => ?_)
                            · refine a_iconst (v := 1) dX12_signToken_270 (by decide) ?_
                              refine a_goto (tg := 275) dX12_signToken_271 (by decide) ?_
                              refine a_istore_n (i := 1) dX12_signToken_275 rfl (by decide) ?_
                              refine a_aload_n (i := 0) dX12_signToken_276 rfl rfl ?_
                              refine a_iload_n (i := 1) dX12_signToken_277 rfl rfl ?_
                              refine a_if_eq (tg := 285) dX12_signToken_278 (by decide) (fun c_278 => ?_) (fun c_278 => ?_)
                              · exact absurd c_278 (by decide)
                              · refine a_iconst (v := 4) dX12_signToken_281 (by decide) ?_
                                refine a_goto (tg := 287) dX12_signToken_282 (by decide) ?_
                                refine pX12_193 rfl dX12_signToken_287 (isM_0 hM) ?_
                                exact a_vret dX12_signToken_290 (by exact ⟨rfl, r⟩)
                            · refine a_aload_n (i := 0) dX12_signToken_261 rfl rfl ?_
                              refine gX12_204 rfl dX12_signToken_262 (isM_0 hM) ?_
                              rw [Y9]
                              refine a_bipush (v := 37) dX12_signToken_265 (by decide) ?_
                              refine a_icmp_ne (tg := 274) dX12_signToken_267 (by decide) (fun c_267 => ?_) (fun c_267 => ?_)
                              · rcases q with q | q | q | q | q | q | q | q
                                · exact absurd (congrArg nI q) c_204
                                · exact absurd (congrArg nI q) c_213
                                · exact absurd (congrArg nI q) c_222
                                · exact absurd (congrArg nI q) c_231
                                · exact absurd (congrArg nI q) c_240
                                · exact absurd (congrArg nI q) c_249
                                · exact absurd (congrArg nI q) c_258
                                · exact absurd (congrArg nI q) c_267
                              · refine a_iconst (v := 1) dX12_signToken_270 (by decide) ?_
                                refine a_goto (tg := 275) dX12_signToken_271 (by decide) ?_
                                refine a_istore_n (i := 1) dX12_signToken_275 rfl (by decide) ?_
                                refine a_aload_n (i := 0) dX12_signToken_276 rfl rfl ?_
                                refine a_iload_n (i := 1) dX12_signToken_277 rfl rfl ?_
                                refine a_if_eq (tg := 285) dX12_signToken_278 (by decide) (fun c_278 => ?_) (fun c_278 => ?_)
                                · exact absurd c_278 (by decide)
                                · refine a_iconst (v := 4) dX12_signToken_281 (by decide) ?_
                                  refine a_goto (tg := 287) dX12_signToken_282 (by decide) ?_
                                  refine pX12_193 rfl dX12_signToken_287 (isM_0 hM) ?_
                                  exact a_vret dX12_signToken_290 (by exact ⟨rfl, r⟩)
              · exact absurd c_47 n61
        · have r := A 6 (k6 q)
          have nn : ∀ c : Nat, c < 256 → (B p = c → (B p = 59 ∨ B p = 40 ∨ B p = 41 ∨ B p = 43 ∨ B p = 45 ∨ B p = 42 ∨ B p = 47 ∨ B p = 37)) → ¬ nI (B p) = nI c := fun c hc g e => q (g ((nI_eq (by omega) (by omega)).mp e))
          refine a_aload_n (i := 0) dX12_signToken_23 rfl rfl ?_
          refine gX12_204 rfl dX12_signToken_24 (isM_0 hM) ?_
          rw [Y9]
          refine a_bipush (v := 60) dX12_signToken_27 (by decide) ?_
          refine a_icmp_eq (tg := 50) dX12_signToken_29 (by decide) (fun c_29 => ?_) (fun c_29 => ?_)
          · exact absurd c_29 n60
          · refine a_aload_n (i := 0) dX12_signToken_32 rfl rfl ?_
            refine gX12_204 rfl dX12_signToken_33 (isM_0 hM) ?_
            rw [Y9]
            refine a_bipush (v := 62) dX12_signToken_36 (by decide) ?_
            refine a_icmp_eq (tg := 50) dX12_signToken_38 (by decide) (fun c_38 => ?_) (fun c_38 => ?_)
            · exact absurd c_38 n62
            · refine a_aload_n (i := 0) dX12_signToken_41 rfl rfl ?_
              refine gX12_204 rfl dX12_signToken_42 (isM_0 hM) ?_
              rw [Y9]
              refine a_bipush (v := 61) dX12_signToken_45 (by decide) ?_
              refine a_icmp_ne (tg := 198) dX12_signToken_47 (by decide) (fun c_47 => ?_) (fun c_47 => ?_)
              · refine a_aload_n (i := 0) dX12_signToken_198 rfl rfl ?_
                refine gX12_204 rfl dX12_signToken_199 (isM_0 hM) ?_
                rw [Y9]
                refine a_bipush (v := 59) dX12_signToken_202 (by decide) ?_
                refine a_icmp_eq (tg := 270) dX12_signToken_204 (by decide) (fun c_204 => ?_) (fun c_204 => ?_)
                · exact absurd c_204 (nn 59 (by decide) (by omega))
                · refine a_aload_n (i := 0) dX12_signToken_207 rfl rfl ?_
                  refine gX12_204 rfl dX12_signToken_208 (isM_0 hM) ?_
                  rw [Y9]
                  refine a_bipush (v := 40) dX12_signToken_211 (by decide) ?_
                  refine a_icmp_eq (tg := 270) dX12_signToken_213 (by decide) (fun c_213 => ?_) (fun c_213 => ?_)
                  · exact absurd c_213 (nn 40 (by decide) (by omega))
                  · refine a_aload_n (i := 0) dX12_signToken_216 rfl rfl ?_
                    refine gX12_204 rfl dX12_signToken_217 (isM_0 hM) ?_
                    rw [Y9]
                    refine a_bipush (v := 41) dX12_signToken_220 (by decide) ?_
                    refine a_icmp_eq (tg := 270) dX12_signToken_222 (by decide) (fun c_222 => ?_) (fun c_222 => ?_)
                    · exact absurd c_222 (nn 41 (by decide) (by omega))
                    · refine a_aload_n (i := 0) dX12_signToken_225 rfl rfl ?_
                      refine gX12_204 rfl dX12_signToken_226 (isM_0 hM) ?_
                      rw [Y9]
                      refine a_bipush (v := 43) dX12_signToken_229 (by decide) ?_
                      refine a_icmp_eq (tg := 270) dX12_signToken_231 (by decide) (fun c_231 => ?_) (fun c_231 => ?_)
                      · exact absurd c_231 (nn 43 (by decide) (by omega))
                      · refine a_aload_n (i := 0) dX12_signToken_234 rfl rfl ?_
                        refine gX12_204 rfl dX12_signToken_235 (isM_0 hM) ?_
                        rw [Y9]
                        refine a_bipush (v := 45) dX12_signToken_238 (by decide) ?_
                        refine a_icmp_eq (tg := 270) dX12_signToken_240 (by decide) (fun c_240 => ?_) (fun c_240 => ?_)
                        · exact absurd c_240 (nn 45 (by decide) (by omega))
                        · refine a_aload_n (i := 0) dX12_signToken_243 rfl rfl ?_
                          refine gX12_204 rfl dX12_signToken_244 (isM_0 hM) ?_
                          rw [Y9]
                          refine a_bipush (v := 42) dX12_signToken_247 (by decide) ?_
                          refine a_icmp_eq (tg := 270) dX12_signToken_249 (by decide) (fun c_249 => ?_) (fun c_249 => ?_)
                          · exact absurd c_249 (nn 42 (by decide) (by omega))
                          · refine a_aload_n (i := 0) dX12_signToken_252 rfl rfl ?_
                            refine gX12_204 rfl dX12_signToken_253 (isM_0 hM) ?_
                            rw [Y9]
                            refine a_bipush (v := 47) dX12_signToken_256 (by decide) ?_
                            refine a_icmp_eq (tg := 270) dX12_signToken_258 (by decide) (fun c_258 => ?_) (fun c_258 => ?_)
                            · exact absurd c_258 (nn 47 (by decide) (by omega))
                            · refine a_aload_n (i := 0) dX12_signToken_261 rfl rfl ?_
                              refine gX12_204 rfl dX12_signToken_262 (isM_0 hM) ?_
                              rw [Y9]
                              refine a_bipush (v := 37) dX12_signToken_265 (by decide) ?_
                              refine a_icmp_ne (tg := 274) dX12_signToken_267 (by decide) (fun c_267 => ?_) (fun c_267 => ?_)
                              · refine a_iconst (v := 0) dX12_signToken_274 (by decide) ?_
                                refine a_istore_n (i := 1) dX12_signToken_275 rfl (by decide) ?_
                                refine a_aload_n (i := 0) dX12_signToken_276 rfl rfl ?_
                                refine a_iload_n (i := 1) dX12_signToken_277 rfl rfl ?_
                                refine a_if_eq (tg := 285) dX12_signToken_278 (by decide) (fun c_278 => ?_) (fun c_278 => ?_)
                                · refine a_bipush (v := 6) dX12_signToken_285 (by decide) ?_
                                  refine pX12_193 rfl dX12_signToken_287 (isM_0 hM) ?_
                                  exact a_vret dX12_signToken_290 (by exact ⟨rfl, r⟩)
                                · exact absurd rfl c_278
                              · exact absurd c_267 (nn 37 (by decide) (by omega))
              · exact absurd c_47 n61
end qAG
