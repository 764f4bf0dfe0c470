/-! TOKENS of the model: token; what tokens are -/
theorem nmM_le {B : Nat → Nat} {p t : Nat} (h : ∀ i, i < t → 48 ≤ B (p + i) ∧ B (p + i) ≤ 57) : nmM B p t ≤ 999999 ∧ ((nmC B p t = nmM B p t ∧ nmM B p t ≤ 99999) ∨ (99999 < nmC B p t ∧ 99999 < nmM B p t)) := by
  induction t with
  | zero => exact ⟨Nat.zero_le _, Or.inl ⟨rfl, Nat.zero_le _⟩⟩
  | succ t ih =>
    obtain ⟨h1, h2⟩ := ih (fun i hi => h i (by omega))
    have g := h t (by omega)
    have e1 : nmC B p (t + 1) = min (nmC B p t * 10 + B (p + t) - 48) 1000000 := rfl
    have e2 : nmM B p (t + 1) = if 99999 < nmM B p t then nmM B p t else 10 * nmM B p t + B (p + t) - 48 := rfl
    rw [e1, e2]
    rcases h2 with ⟨u, v⟩ | ⟨u, v⟩
    · rw [if_neg (by omega)]
      omega
    · rw [if_pos v]
      omega
section qAH
variable {l : Launch} {d : Nat} {D : Nat → Bool} {x : aS} {n : Nat} {B : Nat → Nat} {p i a b : Nat}
set_option maxHeartbeats 4000000 in
set_option maxRecDepth 100000 in
theorem c_X12_token (hM : D 12 = true) (h : mBt n B x) (h7 : x.1 bM 7 = nI i) (hi : i ≤ n) : aCt l mX12_token (d + 1) D [.ref bM] x (fun v y => v = none ∧ rKM (tok B n i) y ∧ mSt x y) := by
  have n7 := h.2.1
  have E : ∀ (p : Nat), p ≤ n → ∀ y : aS, y.1 bM 7 = nI p → mSt x y → aV l mX12_token (d + 1) D none 52 [(0, .ref bM)] [] y (fun v y => v = none ∧ rKM (tokA B n p) y ∧ mSt x y) := by
    intro p hp y y7 F
    obtain ⟨Y, hY⟩ : ∃ Y, Y = aWr y bM 10 (nI p) := ⟨_, rfl⟩
    have Y7 : Y.1 bM 7 = nI p := by rw [hY, aWr_j _ _ _ (by decide)]; exact y7
    have Y10 : Y.1 bM 10 = nI p := by rw [hY, aWr_s]
    have FY : mSt x Y := by rw [hY]; exact mSt_w F (by decide)
    have k := mBt_s h FY
    refine a_aload_n (i := 0) dX12_token_52 rfl rfl ?_
    refine a_aload_n (i := 0) dX12_token_53 rfl rfl ?_
    refine gX12_190 rfl dX12_token_54 (isM_0 hM) ?_
    rw [y7]
    refine pX12_184 rfl dX12_token_57 (isM_0 hM) ?_
    rw [← hY]
    refine a_loc [(0, .ref bM)] rfl ?_
    unfold tokA
    by_cases g : n ≤ p
    · have e : p = n := by omega
      subst e
      rw [if_pos (Nat.le_refl _)]
      refine a_aload_n (i := 0) dX12_token_60 rfl rfl ?_
      refine gX12_190 rfl dX12_token_61 (isM_0 hM) ?_
      rw [Y7]
      refine a_aload_n (i := 0) dX12_token_64 rfl rfl ?_
      refine gX12_187 rfl dX12_token_65 (isM_0 hM) ?_
      rw [k.1]
      refine a_icmp_ne (tg := 79) dX12_token_68 (by decide) (fun c_68 => ?_) (fun c_68 => ?_)
      · exact absurd rfl c_68
      · refine a_aload_n (i := 0) dX12_token_71 rfl rfl ?_
        refine a_iconst (v := 0) dX12_token_72 (by decide) ?_
        refine pX12_193 rfl dX12_token_73 (isM_0 hM) ?_
        refine a_goto (tg := 281) dX12_token_76 (by decide) ?_
        exact a_vret dX12_token_281 (by exact ⟨rfl, ⟨by rw [aWr_j _ _ _ (by decide)]; exact Y7, by rw [aWr_j _ _ _ (by decide)]; exact Y10, by rw [aWr_s]; exact Or.inr (Or.inr (Or.inr (Or.inr (Or.inl ⟨rfl, rfl⟩))))⟩, mSt_w FY (by decide)⟩)
    · rw [if_neg g]
      have ne : ¬ nI p = nI n := fun e => g (Nat.le_of_eq ((nI_eq (by omega) (by omega)).mp e).symm)
      by_cases q : bLt B p = true
      · rw [if_pos q]
        have q1 : bI (decide (p < n ∧ bLt B p = true)) = 1 := bI_t ⟨by omega, q⟩
        obtain ⟨e, he⟩ : ∃ e, e = nx (bLt B) n p := ⟨_, rfl⟩
        have en : e ≤ n := by rw [he]; exact nx_n (by omega)
        have ep : p < e := by rw [he, nx_go (by omega) q]; exact nx_le
        have ein : ∀ j, p ≤ j → j < e → 97 ≤ B j ∧ B j ≤ 122 := fun j h1 h2 => of_decide_eq_true (nx_in (q := bLt B) (n := n) (i := p) h1 (by omega)).2
        rw [← he]
        have G : ∀ y : aS, y.1 bM 7 = nI e → y.1 bM 10 = nI p → mSt x y → aV l mX12_token (d + 1) D none 114 [(0, .ref bM)] [] y (fun v y => v = none ∧ rKM ((if 6 < e - p then 38 else wkN (pkW B p (e - p))), pkW B p (e - p), pkW B p (e - p), p, e) y ∧ mSt x y) := by
          intro y y7 y10 F
          have k := mBt_s h F
          refine a_aload_n (i := 0) dX12_token_114 rfl rfl ?_
          refine a_aload_n (i := 0) dX12_token_115 rfl rfl ?_
          refine a_aload_n (i := 0) dX12_token_116 rfl rfl ?_
          refine gX12_184 rfl dX12_token_117 (isM_0 hM) ?_
          rw [y10]
          refine a_aload_n (i := 0) dX12_token_120 rfl rfl ?_
          refine gX12_190 rfl dX12_token_121 (isM_0 hM) ?_
          rw [y7]
          refine kgX12_200 rfl dX12_token_124 (Nat.le_of_ble_eq_true rfl) (isM_0 hM) (c_X12_wordAt hM k (by omega) en) ?_
          rintro v z ⟨rfl, hv⟩
          rcases hv with ⟨w, w22, wm, rfl⟩ | ⟨no, rfl⟩
          · have wp := (wmt_pk w22 ep ein).mp wm
            have ws := pk_sw w w22
            rw [if_neg (by omega), wp.2, ws.1]
            obtain ⟨Z, hZ⟩ : ∃ Z, Z = aWr z bM 9 (nI w) := ⟨_, rfl⟩
            have Z9 : Z.1 bM 9 = nI w := by rw [hZ, aWr_s]
            have Z7 : Z.1 bM 7 = nI e := by rw [hZ, aWr_j _ _ _ (by decide)]; exact y7
            have Z10 : Z.1 bM 10 = nI p := by rw [hZ, aWr_j _ _ _ (by decide)]; exact y10
            have FZ : mSt x Z := by rw [hZ]; exact mSt_w F (by decide)
            refine pX12_204 rfl dX12_token_127 (by exact isM_0 hM) ?_
            rw [← hZ]
            refine a_aload_n (i := 0) dX12_token_130 rfl rfl ?_
            refine a_aload_n (i := 0) dX12_token_131 rfl rfl ?_
            refine gX12_204 rfl dX12_token_132 (isM_0 hM) ?_
            rw [Z9]
            refine a_if_lt (tg := 142) dX12_token_135 (by decide) (fun c_135 => ?_) (fun c_135 => ?_)
            · exact absurd c_135 (nI_pos (by omega))
            · refine a_iconst (v := 1) dX12_token_138 (by decide) ?_
              refine a_goto (tg := 162) dX12_token_139 (by decide) ?_
              refine pX12_193 rfl dX12_token_162 (isM_0 hM) ?_
              refine a_aload_n (i := 0) dX12_token_165 rfl rfl ?_
              refine gX12_193 rfl dX12_token_166 (isM_0 hM) ?_
              rw [aWr_s]
              refine a_iconst (v := 2) dX12_token_169 (by decide) ?_
              refine a_icmp_ne (tg := 281) dX12_token_170 (by decide) (fun c_170 => ?_) (fun c_170 => ?_)
              · exact a_vret dX12_token_281 (by exact ⟨rfl, ⟨by rw [aWr_j _ _ _ (by decide)]; exact Z7, by rw [aWr_j _ _ _ (by decide)]; exact Z10, by rw [aWr_s, aWr_j _ _ _ (show (9 : Nat) ≠ 8 by decide), Z9]; exact Or.inl ⟨by have := ws.2; show swp w ≤ 21; omega, rfl, by show nI w = nI (swp (swp w)); rw [swp_2 w w22]⟩⟩, mSt_w FZ (by decide)⟩)
              · exact absurd c_170 (by decide)
          · obtain ⟨Z, hZ⟩ : ∃ Z, Z = aWr z bM 9 (-1) := ⟨_, rfl⟩
            have Z9 : Z.1 bM 9 = -1 := by rw [hZ, aWr_s]
            have Z7 : Z.1 bM 7 = nI e := by rw [hZ, aWr_j _ _ _ (by decide)]; exact y7
            have Z10 : Z.1 bM 10 = nI p := by rw [hZ, aWr_j _ _ _ (by decide)]; exact y10
            have FZ : mSt x Z := by rw [hZ]; exact mSt_w F (by decide)
            by_cases g6 : 6 < e - p
            · rw [if_pos g6]
              have ee : ¬ nI (e - p) ≤ 6 := nI_ge (a := 6) g6 (by omega)
              refine pX12_204 rfl dX12_token_127 (by exact isM_0 hM) ?_
              rw [← hZ]
              refine a_aload_n (i := 0) dX12_token_130 rfl rfl ?_
              refine a_aload_n (i := 0) dX12_token_131 rfl rfl ?_
              refine gX12_204 rfl dX12_token_132 (isM_0 hM) ?_
              rw [Z9]
              refine a_if_lt (tg := 142) dX12_token_135 (by decide) (fun c_135 => ?_) (fun c_135 => ?_)
              · refine a_aload_n (i := 0) dX12_token_142 rfl rfl ?_
                refine gX12_190 rfl dX12_token_143 (isM_0 hM) ?_
                rw [Z7]
                refine a_aload_n (i := 0) dX12_token_146 rfl rfl ?_
                refine gX12_184 rfl dX12_token_147 (isM_0 hM) ?_
                rw [Z10]
                refine a_isub dX12_token_150 ?_
                rw [pk_sub (by omega)]
                refine a_bipush (v := 6) dX12_token_151 (by decide) ?_
                refine a_icmp_le (tg := 161) dX12_token_153 (by decide) (fun c_153 => ?_) (fun c_153 => ?_)
                · exact absurd c_153 ee
                · refine a_bipush (v := 6) dX12_token_156 (by decide) ?_
                  refine a_goto (tg := 162) dX12_token_158 (by decide) ?_
                  refine pX12_193 rfl dX12_token_162 (isM_0 hM) ?_
                  refine a_aload_n (i := 0) dX12_token_165 rfl rfl ?_
                  refine gX12_193 rfl dX12_token_166 (isM_0 hM) ?_
                  rw [aWr_s]
                  refine a_iconst (v := 2) dX12_token_169 (by decide) ?_
                  refine a_icmp_ne (tg := 281) dX12_token_170 (by decide) (fun c_170 => ?_) (fun c_170 => ?_)
                  · exact a_vret dX12_token_281 (by exact ⟨rfl, ⟨by rw [aWr_j _ _ _ (by decide)]; exact Z7, by rw [aWr_j _ _ _ (by decide)]; exact Z10, by rw [aWr_s]; exact Or.inr (Or.inr (Or.inr (Or.inr (Or.inr (Or.inl ⟨rfl, Or.inl rfl⟩)))))⟩, mSt_w FZ (by decide)⟩)
                  · exact absurd c_170 (by decide)
              · exact absurd (by decide) c_135
            · rw [if_neg g6, wkN_22 (fun w hw g => no w hw ((wmt_pk hw ep ein).mpr ⟨by omega, g⟩))]
              have ee : nI (e - p) ≤ 6 := nI_le (b := 6) (by omega) (by decide)
              have k2 := mBt_s h (mSt_w FZ (show 7 ≤ 8 ∧ 8 ≤ 10 by decide) (v := 2))
              refine pX12_204 rfl dX12_token_127 (by exact isM_0 hM) ?_
              rw [← hZ]
              refine a_aload_n (i := 0) dX12_token_130 rfl rfl ?_
              refine a_aload_n (i := 0) dX12_token_131 rfl rfl ?_
              refine gX12_204 rfl dX12_token_132 (isM_0 hM) ?_
              rw [Z9]
              refine a_if_lt (tg := 142) dX12_token_135 (by decide) (fun c_135 => ?_) (fun c_135 => ?_)
              · refine a_aload_n (i := 0) dX12_token_142 rfl rfl ?_
                refine gX12_190 rfl dX12_token_143 (isM_0 hM) ?_
                rw [Z7]
                refine a_aload_n (i := 0) dX12_token_146 rfl rfl ?_
                refine gX12_184 rfl dX12_token_147 (isM_0 hM) ?_
                rw [Z10]
                refine a_isub dX12_token_150 ?_
                rw [pk_sub (by omega)]
                refine a_bipush (v := 6) dX12_token_151 (by decide) ?_
                refine a_icmp_le (tg := 161) dX12_token_153 (by decide) (fun c_153 => ?_) (fun c_153 => ?_)
                · refine a_iconst (v := 2) dX12_token_161 (by decide) ?_
                  refine pX12_193 rfl dX12_token_162 (isM_0 hM) ?_
                  refine a_aload_n (i := 0) dX12_token_165 rfl rfl ?_
                  refine gX12_193 rfl dX12_token_166 (isM_0 hM) ?_
                  rw [aWr_s]
                  refine a_iconst (v := 2) dX12_token_169 (by decide) ?_
                  refine a_icmp_ne (tg := 281) dX12_token_170 (by decide) (fun c_170 => ?_) (fun c_170 => ?_)
                  · exact absurd rfl c_170
                  · refine a_aload_n (i := 0) dX12_token_173 rfl rfl ?_
                    refine a_aload_n (i := 0) dX12_token_174 rfl rfl ?_
                    refine a_aload_n (i := 0) dX12_token_175 rfl rfl ?_
                    refine gX12_184 rfl dX12_token_176 (isM_0 hM) ?_
                    rw [aWr_j _ _ _ (by decide), Z10]
                    refine a_aload_n (i := 0) dX12_token_179 rfl rfl ?_
                    refine gX12_190 rfl dX12_token_180 (isM_0 hM) ?_
                    rw [aWr_j _ _ _ (by decide), Z7]
                    refine kX12_207 rfl dX12_token_183 (Nat.le_of_ble_eq_true rfl) (isM_0 hM) (c_X12_packed hM k2 (by omega) en (by omega) (fun i hi => ein (p + i) (by omega) hi)) ?_
                    refine pX12_204 rfl dX12_token_186 (isM_0 hM) ?_
                    refine a_goto (tg := 281) dX12_token_189 (by decide) ?_
                    exact a_vret dX12_token_281 (by exact ⟨rfl, ⟨by rw [aWr_j _ _ _ (by decide), aWr_j _ _ _ (by decide)]; exact Z7, by rw [aWr_j _ _ _ (by decide), aWr_j _ _ _ (by decide)]; exact Z10, by rw [aWr_s, aWr_j _ _ _ (show (8 : Nat) ≠ 9 by decide), aWr_s]; exact Or.inr (Or.inl ⟨rfl, rfl, rfl⟩)⟩, mSt_w (mSt_w FZ (by decide)) (by decide)⟩)
                · exact absurd ee c_153
              · exact absurd (by decide) c_135
        have L1 : ∀ (f j : Nat), f = n - j → j ≤ n → nx (bLt B) n j = e → ∀ y : aS, y.1 bM 7 = nI j → y.1 bM 10 = nI p → mSt x y → aV l mX12_token (d + 1) D none 90 [(0, .ref bM)] [] y (fun v y => v = none ∧ rKM ((if 6 < e - p then 38 else wkN (pkW B p (e - p))), pkW B p (e - p), pkW B p (e - p), p, e) y ∧ mSt x y) := by
          intro f
          induction f with
          | zero =>
            intro j hf hj ej y y7 y10 F
            have k := mBt_s h F
            rw [nx_st (by omega)] at ej
            subst ej
            have q2 : bI (decide (j < n ∧ bLt B j = true)) = 0 := bI_f (by omega)
            have g1 := G y y7 y10 F
            refine a_aload_n (i := 0) dX12_token_90 rfl rfl ?_
            refine a_aload_n (i := 0) dX12_token_91 rfl rfl ?_
            refine gX12_190 rfl dX12_token_92 (isM_0 hM) ?_
            rw [y7]
            refine kX12_196 rfl dX12_token_95 (Nat.le_of_ble_eq_true rfl) (isM_0 hM) (c_X12_isSmall hM k hj) ?_
            rw [q2]
            refine a_if_eq (tg := 114) dX12_token_98 (by decide) (fun c_98 => ?_) (fun c_98 => ?_)
            · exact a_loc _ rfl g1
            · exact absurd rfl c_98
          | succ f ih =>
            intro j hf hj ej y y7 y10 F
            have k := mBt_s h F
            by_cases r : bLt B j = true
            · have q2 : bI (decide (j < n ∧ bLt B j = true)) = 1 := bI_t ⟨by omega, r⟩
              rw [nx_go (by omega) r] at ej
              have ih2 := ih (j + 1) (by omega) (by omega) ej (aWr y bM 7 (nI (j + 1))) (aWr_s _ _ _ _) (by rw [aWr_j _ _ _ (by decide)]; exact y10) (mSt_w F (by decide))
              refine a_aload_n (i := 0) dX12_token_90 rfl rfl ?_
              refine a_aload_n (i := 0) dX12_token_91 rfl rfl ?_
              refine gX12_190 rfl dX12_token_92 (isM_0 hM) ?_
              rw [y7]
              refine kX12_196 rfl dX12_token_95 (Nat.le_of_ble_eq_true rfl) (isM_0 hM) (c_X12_isSmall hM k hj) ?_
              rw [q2]
              refine a_if_eq (tg := 114) dX12_token_98 (by decide) (fun c_98 => ?_) (fun c_98 => ?_)
              · exact absurd c_98 (by decide)
              · refine a_aload_n (i := 0) dX12_token_101 rfl rfl ?_
                refine a_dup dX12_token_102 rfl ?_
                refine gX12_190 rfl dX12_token_103 (isM_0 hM) ?_
                rw [y7]
                refine a_iconst (v := 1) dX12_token_106 (by decide) ?_
                refine a_iadd dX12_token_107 ?_
                rw [nI_1]
                refine pX12_190 rfl dX12_token_108 (isM_0 hM) ?_
                refine a_goto (tg := 90) dX12_token_111 (by decide) ?_
                exact a_loc _ rfl ih2
            · have q2 : bI (decide (j < n ∧ bLt B j = true)) = 0 := bI_f (fun e => r e.2)
              rw [nx_st (fun e => r e.2)] at ej
              subst ej
              have g1 := G y y7 y10 F
              refine a_aload_n (i := 0) dX12_token_90 rfl rfl ?_
              refine a_aload_n (i := 0) dX12_token_91 rfl rfl ?_
              refine gX12_190 rfl dX12_token_92 (isM_0 hM) ?_
              rw [y7]
              refine kX12_196 rfl dX12_token_95 (Nat.le_of_ble_eq_true rfl) (isM_0 hM) (c_X12_isSmall hM k hj) ?_
              rw [q2]
              refine a_if_eq (tg := 114) dX12_token_98 (by decide) (fun c_98 => ?_) (fun c_98 => ?_)
              · exact a_loc _ rfl g1
              · exact absurd rfl c_98
        have l1 := L1 (n - p) p rfl (by omega) he.symm Y Y7 Y10 FY
        refine a_aload_n (i := 0) dX12_token_60 rfl rfl ?_
        refine gX12_190 rfl dX12_token_61 (isM_0 hM) ?_
        rw [Y7]
        refine a_aload_n (i := 0) dX12_token_64 rfl rfl ?_
        refine gX12_187 rfl dX12_token_65 (isM_0 hM) ?_
        rw [k.1]
        refine a_icmp_ne (tg := 79) dX12_token_68 (by decide) (fun c_68 => ?_) (fun c_68 => ?_)
        · refine a_aload_n (i := 0) dX12_token_79 rfl rfl ?_
          refine a_aload_n (i := 0) dX12_token_80 rfl rfl ?_
          refine gX12_190 rfl dX12_token_81 (isM_0 hM) ?_
          rw [Y7]
          refine kX12_196 rfl dX12_token_84 (Nat.le_of_ble_eq_true rfl) (isM_0 hM) (c_X12_isSmall hM k (by omega)) ?_
          rw [q1]
          refine a_if_eq (tg := 192) dX12_token_87 (by decide) (fun c_87 => ?_) (fun c_87 => ?_)
          · exact absurd c_87 (by decide)
          · exact a_loc _ rfl l1
        · exact absurd c_68 ne
      · rw [if_neg q]
        have q1 : bI (decide (p < n ∧ bLt B p = true)) = 0 := bI_f (fun e => q e.2)
        by_cases r : bDg B p = true
        · rw [if_pos r]
          have r1 : bI (decide (p < n ∧ bDg B p = true)) = 1 := bI_t ⟨by omega, r⟩
          obtain ⟨e, he⟩ : ∃ e, e = nx (bDg B) n p := ⟨_, rfl⟩
          have ein : ∀ j, p ≤ j → j < e → 48 ≤ B j ∧ B j ≤ 57 := fun j h1 h2 => of_decide_eq_true (nx_in (q := bDg B) (n := n) (i := p) h1 (by omega)).2
          rw [← he]
          have L2 : ∀ (f t : Nat), f = n - (p + t) → p + t ≤ n → nx (bDg B) n (p + t) = e → ∀ y : aS, y.1 bM 7 = nI (p + t) → y.1 bM 10 = nI p → y.1 bM 8 = 3 → y.1 bM 9 = nI (nmM B p t) → mSt x y → aV l mX12_token (d + 1) D none 213 [(0, .ref bM)] [] y (fun v y => v = none ∧ rKM (23, nmC B p (e - p), nmM B p (e - p), p, e) y ∧ mSt x y) := by
            intro f
            induction f with
            | zero =>
              intro t hf hj ej y y7 y10 y8 y9 F
              have k := mBt_s h F
              rw [nx_st (by omega)] at ej
              have q2 : bI (decide (p + t < n ∧ bDg B (p + t) = true)) = 0 := bI_f (by omega)
              have et : e - p = t := by omega
              rw [et, ← ej]
              refine a_aload_n (i := 0) dX12_token_213 rfl rfl ?_
              refine a_aload_n (i := 0) dX12_token_214 rfl rfl ?_
              refine gX12_190 rfl dX12_token_215 (isM_0 hM) ?_
              rw [y7]
              refine kX12_210 rfl dX12_token_218 (Nat.le_of_ble_eq_true rfl) (isM_0 hM) (c_X12_isDigit hM k hj) ?_
              rw [q2]
              refine a_if_eq (tg := 281) dX12_token_221 (by decide) (fun c_221 => ?_) (fun c_221 => ?_)
              · exact a_vret dX12_token_281 (by exact ⟨rfl, ⟨y7, y10, Or.inr (Or.inr (Or.inl ⟨rfl, y8, y9⟩))⟩, F⟩)
              · exact absurd rfl c_221
            | succ f ih =>
              intro t hf hj ej y y7 y10 y8 y9 F
              have k := mBt_s h F
              by_cases r : bDg B (p + t) = true
              · have q2 : bI (decide (p + t < n ∧ bDg B (p + t) = true)) = 1 := bI_t ⟨by omega, r⟩
                rw [nx_go (by omega) r] at ej
                have te : p + t < e := by have := nx_le (q := bDg B) (n := n) (i := p + t + 1); omega
                have nl := (nmM_le (B := B) (p := p) (t := t) (fun i hi => ein (p + i) (by omega) (by omega))).1
                have ee := ein (p + t) (by omega) te
                obtain ⟨b256, eb⟩ := k.2.2.1 (p + t) (by omega)
                have ih2 := ih (t + 1) (by omega) (by omega) ej (aWr (aWr y bM 9 (nI (nmM B p (t + 1)))) bM 7 (nI (p + t + 1))) (aWr_s _ _ _ _) (by rw [aWr_j _ _ _ (by decide), aWr_j _ _ _ (by decide)]; exact y10) (by rw [aWr_j _ _ _ (by decide), aWr_j _ _ _ (by decide)]; exact y8) (by rw [aWr_j _ _ _ (by decide), aWr_s]) (mSt_w (mSt_w F (by decide)) (by decide))
                have en : nmM B p (t + 1) = if 99999 < nmM B p t then nmM B p t else 10 * nmM B p t + B (p + t) - 48 := rfl
                by_cases g9 : 99999 < nmM B p t
                · rw [if_pos g9] at en
                  rw [en] at ih2
                  have c9 : ¬ nI (nmM B p t) ≤ 99999 := nI_ge (a := 99999) g9 (by omega)
                  refine a_aload_n (i := 0) dX12_token_213 rfl rfl ?_
                  refine a_aload_n (i := 0) dX12_token_214 rfl rfl ?_
                  refine gX12_190 rfl dX12_token_215 (isM_0 hM) ?_
                  rw [y7]
                  refine kX12_210 rfl dX12_token_218 (Nat.le_of_ble_eq_true rfl) (isM_0 hM) (c_X12_isDigit hM k hj) ?_
                  rw [q2]
                  refine a_if_eq (tg := 281) dX12_token_221 (by decide) (fun c_221 => ?_) (fun c_221 => ?_)
                  · exact absurd c_221 (by decide)
                  · refine a_aload_n (i := 0) dX12_token_224 rfl rfl ?_
                    refine a_aload_n (i := 0) dX12_token_225 rfl rfl ?_
                    refine gX12_204 rfl dX12_token_226 (isM_0 hM) ?_
                    rw [y9]
                    refine a_ldc (v := 99999) dX12_token_229 (oX12_213 rfl) ?_
                    refine a_icmp_le (tg := 241) dX12_token_231 (by decide) (fun c_231 => ?_) (fun c_231 => ?_)
                    · exact absurd c_231 c9
                    · refine a_aload_n (i := 0) dX12_token_234 rfl rfl ?_
                      refine gX12_204 rfl dX12_token_235 (isM_0 hM) ?_
                      rw [y9]
                      refine a_goto (tg := 261) dX12_token_238 (by decide) ?_
                      refine pX12_204 rfl dX12_token_261 (isM_0 hM) ?_
                      refine a_aload_n (i := 0) dX12_token_264 rfl rfl ?_
                      refine a_dup dX12_token_265 rfl ?_
                      refine gX12_190 rfl dX12_token_266 (isM_0 hM) ?_
                      rw [aWr_j _ _ _ (by decide), y7]
                      refine a_iconst (v := 1) dX12_token_269 (by decide) ?_
                      refine a_iadd dX12_token_270 ?_
                      rw [nI_1]
                      refine pX12_190 rfl dX12_token_271 (isM_0 hM) ?_
                      refine a_goto (tg := 213) dX12_token_274 (by decide) ?_
                      exact a_loc _ rfl ih2
                · rw [if_neg g9] at en
                  rw [en] at ih2
                  have c9 : nI (nmM B p t) ≤ 99999 := nI_le (b := 99999) (by omega) (by decide)
                  have ev : 10 * nI (nmM B p t) + nI (B (p + t)) - 48 = nI (10 * nmM B p t + B (p + t) - 48) := by
                    rw [show (10 : Int32) = nI 10 from rfl, show (48 : Int32) = nI 48 from rfl, pk_mul, nI_add, pk_sub (by omega)]
                  refine a_aload_n (i := 0) dX12_token_213 rfl rfl ?_
                  refine a_aload_n (i := 0) dX12_token_214 rfl rfl ?_
                  refine gX12_190 rfl dX12_token_215 (isM_0 hM) ?_
                  rw [y7]
                  refine kX12_210 rfl dX12_token_218 (Nat.le_of_ble_eq_true rfl) (isM_0 hM) (c_X12_isDigit hM k hj) ?_
                  rw [q2]
                  refine a_if_eq (tg := 281) dX12_token_221 (by decide) (fun c_221 => ?_) (fun c_221 => ?_)
                  · exact absurd c_221 (by decide)
                  · refine a_aload_n (i := 0) dX12_token_224 rfl rfl ?_
                    refine a_aload_n (i := 0) dX12_token_225 rfl rfl ?_
                    refine gX12_204 rfl dX12_token_226 (isM_0 hM) ?_
                    rw [y9]
                    refine a_ldc (v := 99999) dX12_token_229 (oX12_213 rfl) ?_
                    refine a_icmp_le (tg := 241) dX12_token_231 (by decide) (fun c_231 => ?_) (fun c_231 => ?_)
                    · refine a_bipush (v := 10) dX12_token_241 (by decide) ?_
                      refine a_aload_n (i := 0) dX12_token_243 rfl rfl ?_
                      refine gX12_204 rfl dX12_token_244 (isM_0 hM) ?_
                      rw [y9]
                      refine a_imul dX12_token_247 ?_
                      refine a_aload_n (i := 0) dX12_token_248 rfl rfl ?_
                      refine gX12_7 rfl dX12_token_249 (isM_0 hM) ?_
                      refine a_aload_n (i := 0) dX12_token_252 rfl rfl ?_
                      refine gX12_190 rfl dX12_token_253 (isM_0 hM) ?_
                      rw [y7]
                      refine a_ialdN dX12_token_256 (isM_1 hM) (by first | with_reducible exact rfl | with_reducible exact ix8 _ _ | with_reducible exact ix12 _ _ | exact rfl) (by omega) (by decide) ?_
                      rw [eb]
                      refine a_iadd dX12_token_257 ?_
                      refine a_bipush (v := 48) dX12_token_258 (by decide) ?_
                      refine a_isub dX12_token_260 ?_
                      rw [ev]
                      refine pX12_204 rfl dX12_token_261 (isM_0 hM) ?_
                      refine a_aload_n (i := 0) dX12_token_264 rfl rfl ?_
                      refine a_dup dX12_token_265 rfl ?_
                      refine gX12_190 rfl dX12_token_266 (isM_0 hM) ?_
                      rw [aWr_j _ _ _ (by decide), y7]
                      refine a_iconst (v := 1) dX12_token_269 (by decide) ?_
                      refine a_iadd dX12_token_270 ?_
                      rw [nI_1]
                      refine pX12_190 rfl dX12_token_271 (isM_0 hM) ?_
                      refine a_goto (tg := 213) dX12_token_274 (by decide) ?_
                      exact a_loc _ rfl ih2
                    · exact absurd c9 c_231
              · have q2 : bI (decide (p + t < n ∧ bDg B (p + t) = true)) = 0 := bI_f (fun e => r e.2)
                rw [nx_st (fun e => r e.2)] at ej
                have et : e - p = t := by omega
                rw [et, ← ej]
                refine a_aload_n (i := 0) dX12_token_213 rfl rfl ?_
                refine a_aload_n (i := 0) dX12_token_214 rfl rfl ?_
                refine gX12_190 rfl dX12_token_215 (isM_0 hM) ?_
                rw [y7]
                refine kX12_210 rfl dX12_token_218 (Nat.le_of_ble_eq_true rfl) (isM_0 hM) (c_X12_isDigit hM k hj) ?_
                rw [q2]
                refine a_if_eq (tg := 281) dX12_token_221 (by decide) (fun c_221 => ?_) (fun c_221 => ?_)
                · exact a_vret dX12_token_281 (by exact ⟨rfl, ⟨y7, y10, Or.inr (Or.inr (Or.inl ⟨rfl, y8, y9⟩))⟩, F⟩)
                · exact absurd rfl c_221
          have l2 := L2 (n - (p + 0)) 0 rfl (by omega) he.symm (aWr (aWr Y bM 8 3) bM 9 0) (by rw [aWr_j _ _ _ (by decide), aWr_j _ _ _ (by decide)]; exact Y7) (by rw [aWr_j _ _ _ (by decide), aWr_j _ _ _ (by decide)]; exact Y10) (by rw [aWr_j _ _ _ (by decide), aWr_s]) (aWr_s _ _ _ _) (mSt_w (mSt_w FY (by decide)) (by decide))
          refine a_aload_n (i := 0) dX12_token_60 rfl rfl ?_
          refine gX12_190 rfl dX12_token_61 (isM_0 hM) ?_
          rw [Y7]
          refine a_aload_n (i := 0) dX12_token_64 rfl rfl ?_
          refine gX12_187 rfl dX12_token_65 (isM_0 hM) ?_
          rw [k.1]
          refine a_icmp_ne (tg := 79) dX12_token_68 (by decide) (fun c_68 => ?_) (fun c_68 => ?_)
          · refine a_aload_n (i := 0) dX12_token_79 rfl rfl ?_
            refine a_aload_n (i := 0) dX12_token_80 rfl rfl ?_
            refine gX12_190 rfl dX12_token_81 (isM_0 hM) ?_
            rw [Y7]
            refine kX12_196 rfl dX12_token_84 (Nat.le_of_ble_eq_true rfl) (isM_0 hM) (c_X12_isSmall hM k (by omega)) ?_
            rw [q1]
            refine a_if_eq (tg := 192) dX12_token_87 (by decide) (fun c_87 => ?_) (fun c_87 => ?_)
            · refine a_aload_n (i := 0) dX12_token_192 rfl rfl ?_
              refine a_aload_n (i := 0) dX12_token_193 rfl rfl ?_
              refine gX12_190 rfl dX12_token_194 (isM_0 hM) ?_
              rw [Y7]
              refine kX12_210 rfl dX12_token_197 (Nat.le_of_ble_eq_true rfl) (isM_0 hM) (c_X12_isDigit hM k (by omega)) ?_
              rw [r1]
              refine a_if_eq (tg := 277) dX12_token_200 (by decide) (fun c_200 => ?_) (fun c_200 => ?_)
              · exact absurd c_200 (by decide)
              · refine a_aload_n (i := 0) dX12_token_203 rfl rfl ?_
                refine a_iconst (v := 3) dX12_token_204 (by decide) ?_
                refine pX12_193 rfl dX12_token_205 (isM_0 hM) ?_
                refine a_aload_n (i := 0) dX12_token_208 rfl rfl ?_
                refine a_iconst (v := 0) dX12_token_209 (by decide) ?_
                refine pX12_204 rfl dX12_token_210 (isM_0 hM) ?_
                exact a_loc _ rfl l2
            · exact absurd rfl c_87
          · exact absurd c_68 ne
        · rw [if_neg r]
          have r1 : bI (decide (p < n ∧ bDg B p = true)) = 0 := bI_f (fun e => r e.2)
          refine a_aload_n (i := 0) dX12_token_60 rfl rfl ?_
          refine gX12_190 rfl dX12_token_61 (isM_0 hM) ?_
          rw [Y7]
          refine a_aload_n (i := 0) dX12_token_64 rfl rfl ?_
          refine gX12_187 rfl dX12_token_65 (isM_0 hM) ?_
          rw [k.1]
          refine a_icmp_ne (tg := 79) dX12_token_68 (by decide) (fun c_68 => ?_) (fun c_68 => ?_)
          · refine a_aload_n (i := 0) dX12_token_79 rfl rfl ?_
            refine a_aload_n (i := 0) dX12_token_80 rfl rfl ?_
            refine gX12_190 rfl dX12_token_81 (isM_0 hM) ?_
            rw [Y7]
            refine kX12_196 rfl dX12_token_84 (Nat.le_of_ble_eq_true rfl) (isM_0 hM) (c_X12_isSmall hM k (by omega)) ?_
            rw [q1]
            refine a_if_eq (tg := 192) dX12_token_87 (by decide) (fun c_87 => ?_) (fun c_87 => ?_)
            · refine a_aload_n (i := 0) dX12_token_192 rfl rfl ?_
              refine a_aload_n (i := 0) dX12_token_193 rfl rfl ?_
              refine gX12_190 rfl dX12_token_194 (isM_0 hM) ?_
              rw [Y7]
              refine kX12_210 rfl dX12_token_197 (Nat.le_of_ble_eq_true rfl) (isM_0 hM) (c_X12_isDigit hM k (by omega)) ?_
              rw [r1]
              refine a_if_eq (tg := 277) dX12_token_200 (by decide) (fun c_200 => ?_) (fun c_200 => ?_)
              · refine a_aload_n (i := 0) dX12_token_277 rfl rfl ?_
                refine kgX12_214 rfl dX12_token_278 (Nat.le_of_ble_eq_true rfl) (isM_0 hM) (c_X12_signToken hM k (by omega) Y7) ?_
                rintro v z ⟨rfl, a7, a10, ak, G⟩
                exact a_vret dX12_token_281 (by exact ⟨rfl, ⟨a7, a10.trans Y10, ak⟩, mSt_t FY G⟩)
              · exact absurd rfl c_200
            · exact absurd rfl c_87
          · exact absurd c_68 ne
  have L : ∀ (f i : Nat), f = n - i → i ≤ n → ∀ y : aS, y.1 bM 7 = nI i → mSt x y → aV l mX12_token (d + 1) D none 0 [(0, .ref bM)] [] y (fun v y => v = none ∧ rKM (tok B n i) y ∧ mSt x y) := by
    intro f
    induction f with
    | zero =>
      intro i hf hi y y7 F
      have k := mBt_s h F
      unfold tok
      rw [nx_st (by omega)]
      have ee : nI n ≤ nI i := nI_le (by omega) (by omega)
      have e2 := E i hi y y7 F
      refine a_aload_n (i := 0) dX12_token_0 rfl rfl ?_
      refine gX12_190 rfl dX12_token_1 (isM_0 hM) ?_
      rw [y7]
      refine a_aload_n (i := 0) dX12_token_4 rfl rfl ?_
      refine gX12_187 rfl dX12_token_5 (isM_0 hM) ?_
      rw [k.1]
      refine a_icmp_ge (tg := 52) dX12_token_8 (by decide) (fun c_8 => ?_) (fun c_8 => ?_)
      · exact a_loc _ rfl e2
      · exact absurd ee c_8
    | succ f ih =>
      intro i hf hi y y7 F
      have k := mBt_s h F
      obtain ⟨b256, eb⟩ := k.2.2.1 i (by omega)
      obtain ⟨-, -, -, -, c10, c32⟩ := nB_lt _ b256
      have ih2 := ih (i + 1) (by omega) (by omega) (aWr y bM 7 (nI (i + 1))) (aWr_s _ _ _ _) (mSt_w F (by decide))
      unfold tok at ih2 ⊢
      by_cases g1 : B i = 10
      · rw [nx_go (by omega) (decide_eq_true (Or.inl g1))]
        refine a_aload_n (i := 0) dX12_token_0 rfl rfl ?_
        refine gX12_190 rfl dX12_token_1 (isM_0 hM) ?_
        rw [y7]
        refine a_aload_n (i := 0) dX12_token_4 rfl rfl ?_
        refine gX12_187 rfl dX12_token_5 (isM_0 hM) ?_
        rw [k.1]
        refine a_icmp_ge (tg := 52) dX12_token_8 (by decide) (fun c_8 => ?_) (fun c_8 => ?_)
        · exact absurd c_8 (nI_ge (by omega) (by omega))
        · refine a_aload_n (i := 0) dX12_token_11 rfl rfl ?_
          refine gX12_7 rfl dX12_token_12 (isM_0 hM) ?_
          refine a_aload_n (i := 0) dX12_token_15 rfl rfl ?_
          refine gX12_190 rfl dX12_token_16 (isM_0 hM) ?_
          rw [y7]
          refine a_ialdN dX12_token_19 (isM_1 hM) (by first | with_reducible exact rfl | with_reducible exact ix8 _ _ | with_reducible exact ix12 _ _ | exact rfl) (by omega) (by decide) ?_
          rw [eb]
          refine a_bipush (v := 10) dX12_token_20 (by decide) ?_
          refine a_icmp_eq (tg := 39) dX12_token_22 (by decide) (fun c_22 => ?_) (fun c_22 => ?_)
          · refine a_aload_n (i := 0) dX12_token_39 rfl rfl ?_
            refine a_dup dX12_token_40 rfl ?_
            refine gX12_190 rfl dX12_token_41 (isM_0 hM) ?_
            rw [y7]
            refine a_iconst (v := 1) dX12_token_44 (by decide) ?_
            refine a_iadd dX12_token_45 ?_
            rw [nI_1]
            refine pX12_190 rfl dX12_token_46 (isM_0 hM) ?_
            refine a_goto (tg := 0) dX12_token_49 (by decide) ?_
            exact a_loc _ rfl ih2
          · exact absurd (c10.mpr g1) c_22
      · by_cases g2 : B i = 32
        · rw [nx_go (by omega) (decide_eq_true (Or.inr g2))]
          refine a_aload_n (i := 0) dX12_token_0 rfl rfl ?_
          refine gX12_190 rfl dX12_token_1 (isM_0 hM) ?_
          rw [y7]
          refine a_aload_n (i := 0) dX12_token_4 rfl rfl ?_
          refine gX12_187 rfl dX12_token_5 (isM_0 hM) ?_
          rw [k.1]
          refine a_icmp_ge (tg := 52) dX12_token_8 (by decide) (fun c_8 => ?_) (fun c_8 => ?_)
          · exact absurd c_8 (nI_ge (by omega) (by omega))
          · refine a_aload_n (i := 0) dX12_token_11 rfl rfl ?_
            refine gX12_7 rfl dX12_token_12 (isM_0 hM) ?_
            refine a_aload_n (i := 0) dX12_token_15 rfl rfl ?_
            refine gX12_190 rfl dX12_token_16 (isM_0 hM) ?_
            rw [y7]
            refine a_ialdN dX12_token_19 (isM_1 hM) (by first | with_reducible exact rfl | with_reducible exact ix8 _ _ | with_reducible exact ix12 _ _ | exact rfl) (by omega) (by decide) ?_
            rw [eb]
            refine a_bipush (v := 10) dX12_token_20 (by decide) ?_
            refine a_icmp_eq (tg := 39) dX12_token_22 (by decide) (fun c_22 => ?_) (fun c_22 => ?_)
            · exact absurd (c10.mp c_22) g1
            · refine a_aload_n (i := 0) dX12_token_25 rfl rfl ?_
              refine gX12_7 rfl dX12_token_26 (isM_0 hM) ?_
              refine a_aload_n (i := 0) dX12_token_29 rfl rfl ?_
              refine gX12_190 rfl dX12_token_30 (isM_0 hM) ?_
              rw [y7]
              refine a_ialdN dX12_token_33 (isM_1 hM) (by first | with_reducible exact rfl | with_reducible exact ix8 _ _ | with_reducible exact ix12 _ _ | exact rfl) (by omega) (by decide) ?_
              rw [eb]
              refine a_bipush (v := 32) dX12_token_34 (by decide) ?_
              refine a_icmp_ne (tg := 52) dX12_token_36 (by decide) (fun c_36 => ?_) (fun c_36 => ?_)
              · exact absurd (c32.mpr g2) c_36
              · refine a_aload_n (i := 0) dX12_token_39 rfl rfl ?_
                refine a_dup dX12_token_40 rfl ?_
                refine gX12_190 rfl dX12_token_41 (isM_0 hM) ?_
                rw [y7]
                refine a_iconst (v := 1) dX12_token_44 (by decide) ?_
                refine a_iadd dX12_token_45 ?_
                rw [nI_1]
                refine pX12_190 rfl dX12_token_46 (isM_0 hM) ?_
                refine a_goto (tg := 0) dX12_token_49 (by decide) ?_
                exact a_loc _ rfl ih2
        · rw [nx_st (fun e => by rcases of_decide_eq_true e.2 with u | u; exact g1 u; exact g2 u)]
          have e2 := E i hi y y7 F
          refine a_aload_n (i := 0) dX12_token_0 rfl rfl ?_
          refine gX12_190 rfl dX12_token_1 (isM_0 hM) ?_
          rw [y7]
          refine a_aload_n (i := 0) dX12_token_4 rfl rfl ?_
          refine gX12_187 rfl dX12_token_5 (isM_0 hM) ?_
          rw [k.1]
          refine a_icmp_ge (tg := 52) dX12_token_8 (by decide) (fun c_8 => ?_) (fun c_8 => ?_)
          · exact absurd c_8 (nI_ge (by omega) (by omega))
          · refine a_aload_n (i := 0) dX12_token_11 rfl rfl ?_
            refine gX12_7 rfl dX12_token_12 (isM_0 hM) ?_
            refine a_aload_n (i := 0) dX12_token_15 rfl rfl ?_
            refine gX12_190 rfl dX12_token_16 (isM_0 hM) ?_
            rw [y7]
            refine a_ialdN dX12_token_19 (isM_1 hM) (by first | with_reducible exact rfl | with_reducible exact ix8 _ _ | with_reducible exact ix12 _ _ | exact rfl) (by omega) (by decide) ?_
            rw [eb]
            refine a_bipush (v := 10) dX12_token_20 (by decide) ?_
            refine a_icmp_eq (tg := 39) dX12_token_22 (by decide) (fun c_22 => ?_) (fun c_22 => ?_)
            · exact absurd (c10.mp c_22) g1
            · refine a_aload_n (i := 0) dX12_token_25 rfl rfl ?_
              refine gX12_7 rfl dX12_token_26 (isM_0 hM) ?_
              refine a_aload_n (i := 0) dX12_token_29 rfl rfl ?_
              refine gX12_190 rfl dX12_token_30 (isM_0 hM) ?_
              rw [y7]
              refine a_ialdN dX12_token_33 (isM_1 hM) (by first | with_reducible exact rfl | with_reducible exact ix8 _ _ | with_reducible exact ix12 _ _ | exact rfl) (by omega) (by decide) ?_
              rw [eb]
              refine a_bipush (v := 32) dX12_token_34 (by decide) ?_
              refine a_icmp_ne (tg := 52) dX12_token_36 (by decide) (fun c_36 => ?_) (fun c_36 => ?_)
              · exact a_loc _ rfl e2
              · exact absurd (c32.mp c_36) g2
  refine a_met (by decide) (Nat.le_of_ble_eq_true rfl) (fun v y q => Or.inr (Or.inr (Or.inr ⟨rfl, q.1⟩))) ?_
  exact a_loc _ rfl (L (n - i) i rfl hi x h7 (mSt_r x))
/-- what a token is -/
def tkOk (n i : Nat) (t : zK) : Prop := i ≤ t.2.2.2.1 ∧ t.2.2.2.1 ≤ n ∧ t.2.2.2.1 ≤ t.2.2.2.2 ∧ t.2.2.2.2 ≤ n ∧ (¬ t.1 = 37 → i < t.2.2.2.2) ∧ t.1 ≤ 38 ∧ t.2.1 < 2 ^ 30 ∧ t.2.2.1 < 2 ^ 30 ∧ (t.1 ≤ 22 → t.2.1 = t.2.2.1) ∧ (t.1 = 23 → (t.2.1 = t.2.2.1 ∧ t.2.2.1 ≤ 99999) ∨ (99999 < t.2.1 ∧ 99999 < t.2.2.1))
theorem sgW_ok {B : Nat → Nat} {n p : Nat} (hp : p < n) : 24 ≤ (sgW B n p).1 ∧ (sgW B n p).1 ≤ 38 ∧ ¬ (sgW B n p).1 = 37 ∧ p < (sgW B n p).2 ∧ (sgW B n p).2 ≤ n := by
  have s : 24 ≤ sgK (B p) ∧ sgK (B p) ≤ 38 ∧ ¬ sgK (B p) = 37 := by
    unfold sgK
    repeat' split
    all_goals decide
  unfold sgW
  split
  · exact ⟨by simp, by simp, by simp, by show p < p + 2; omega, by show p + 2 ≤ n; omega⟩
  · split
    · exact ⟨by simp, by simp, by simp, by show p < p + 2; omega, by show p + 2 ≤ n; omega⟩
    · split
      · exact ⟨by simp, by simp, by simp, by show p < p + 2; omega, by show p + 2 ≤ n; omega⟩
      · exact ⟨s.1, s.2.1, s.2.2, Nat.lt_succ_self p, hp⟩
theorem tok_ok (hi : i ≤ n) : tkOk n i (tok B n i) := by
  obtain ⟨p, hp⟩ : ∃ p, p = nx (bBl B) n i := ⟨_, rfl⟩
  have h1 : i ≤ p := by rw [hp]; exact nx_le
  have h2 : p ≤ n := by rw [hp]; exact nx_n hi
  unfold tok
  rw [← hp]
  unfold tokA tkOk
  by_cases g : n ≤ p
  · rw [if_pos g]
    exact ⟨h1, h2, Nat.le_refl _, h2, fun e => absurd rfl e, by simp, by simp, by simp, fun _ => rfl, fun e => absurd e (by simp)⟩
  · rw [if_neg g]
    by_cases q : bLt B p = true
    · rw [if_pos q]
      obtain ⟨e, he⟩ : ∃ e, e = nx (bLt B) n p := ⟨_, rfl⟩
      have ep : p < e := by rw [he, nx_go (by omega) q]; exact nx_le
      have en : e ≤ n := by rw [he]; exact nx_n (by omega)
      have V := pkW_lt (B := B) (p := p) (t := e - p) (fun j hj => of_decide_eq_true (nx_in (q := bLt B) (n := n) (i := p) (j := p + j) (by omega) (by omega)).2)
      have w := wkN_le (pkW B p (e - p))
      rw [← he]
      refine ⟨h1, h2, Nat.le_of_lt ep, en, fun _ => Nat.lt_of_le_of_lt h1 ep, ?_, V, V, fun _ => rfl, fun z => ?_⟩
      · show (if 6 < e - p then 38 else wkN (pkW B p (e - p))) ≤ 38
        split <;> omega
      · exfalso
        revert z
        show ¬ (if 6 < e - p then 38 else wkN (pkW B p (e - p))) = 23
        split <;> omega
    · rw [if_neg q]
      by_cases r : bDg B p = true
      · rw [if_pos r]
        obtain ⟨e, he⟩ : ∃ e, e = nx (bDg B) n p := ⟨_, rfl⟩
        have ep : p < e := by rw [he, nx_go (by omega) r]; exact nx_le
        have en : e ≤ n := by rw [he]; exact nx_n (by omega)
        have V := nmM_le (B := B) (p := p) (t := e - p) (fun j hj => of_decide_eq_true (nx_in (q := bDg B) (n := n) (i := p) (j := p + j) (by omega) (by omega)).2)
        have c := nmC_le B p (e - p)
        rw [← he]
        exact ⟨h1, h2, Nat.le_of_lt ep, en, fun _ => Nat.lt_of_le_of_lt h1 ep, by simp, by show nmC B p (e - p) < 2 ^ 30; omega, by show nmM B p (e - p) < 2 ^ 30; have := V.1; omega, fun z => absurd z (by show ¬ (23 : Nat) ≤ 22; decide), fun _ => V.2⟩
      · rw [if_neg r]
        obtain ⟨s1, s2, s3, s4, s5⟩ := sgW_ok (B := B) (n := n) (p := p) (by omega)
        exact ⟨h1, h2, Nat.le_of_lt s4, s5, fun _ => Nat.lt_of_le_of_lt h1 s4, s2, by simp, by simp, fun _ => rfl, fun z => absurd z (by show ¬ (sgW B n p).1 = 23; omega)⟩
end qAH
