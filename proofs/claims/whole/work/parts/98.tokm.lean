/-! TOKENS of the model -/
def mBt (n : Nat) (B : Nat → Nat) (x : aS) : Prop := x.1 bM 6 = nI n ∧ n ≤ 700 ∧ (∀ i, i < n → B i < 256 ∧ x.1 (bM + 1) i = nI (B i)) ∧ ∀ j, j < 108 → x.1 (bM + 4) j = nI (wd j)
def mSt (x y : aS) : Prop := (∀ m j, ¬ (m = bM ∧ 7 ≤ j ∧ j ≤ 10) → y.1 m j = x.1 m j) ∧ y.2 = x.2
theorem mSt_r (x : aS) : mSt x x := ⟨fun _ _ _ => rfl, rfl⟩
theorem mSt_t {x y z : aS} (h : mSt x y) (g : mSt y z) : mSt x z := ⟨fun m j e => (g.1 m j e).trans (h.1 m j e), g.2.trans h.2⟩
theorem mSt_w {x y : aS} {j : Nat} {v : Int32} (h : mSt x y) (hj : 7 ≤ j ∧ j ≤ 10) : mSt x (aWr y bM j v) := ⟨fun m k e => by rw [aWr_o _ _ (fun g => e ⟨g.1, by omega, by omega⟩)]; exact h.1 m k e, h.2⟩
theorem mBt_s {n : Nat} {B : Nat → Nat} {x y : aS} (h : mBt n B x) (g : mSt x y) : mBt n B y := ⟨by rw [g.1 _ _ (by omega)]; exact h.1, h.2.1, fun i hi => ⟨(h.2.2.1 i hi).1, by rw [g.1 _ _ (fun e => absurd e.1 (by decide))]; exact (h.2.2.1 i hi).2⟩, fun j hj => by rw [g.1 _ _ (fun e => absurd e.1 (by decide))]; exact h.2.2.2 j hj⟩
theorem nB_lt : ∀ b, b < 256 → (nI b < 97 ↔ b < 97) ∧ (122 < nI b ↔ 122 < b) ∧ (nI b < 48 ↔ b < 48) ∧ (57 < nI b ↔ 57 < b) ∧ (nI b = 10 ↔ b = 10) ∧ (nI b = 32 ↔ b = 32) := by decide +kernel
section qAF
variable {l : Launch} {d : Nat} {D : Nat → Bool} {x : aS} {n : Nat} {B : Nat → Nat} {p i a b : Nat}
set_option maxHeartbeats 4000000 in
set_option maxRecDepth 100000 in
theorem c_X12_isSmall (hM : D 12 = true) (h : mBt n B x) (hi : i ≤ n) : aDI l mX12_isSmall d D [.ref bM, .int (nI i)] x (bI (decide (i < n ∧ bLt B i = true))) x := by
  have n7 := h.2.1
  refine a_metZ (by decide) (Nat.le_of_ble_eq_true rfl) rfl (bI_01 _) ?_
  by_cases g : i < n
  · obtain ⟨b256, eb⟩ := h.2.2.1 i g
    obtain ⟨k1, k2, -⟩ := nB_lt _ b256
    by_cases q1 : 97 ≤ B i
    · by_cases q2 : B i ≤ 122
      · rw [bI_t (p := i < n ∧ bLt B i = true) ⟨g, decide_eq_true ⟨q1, q2⟩⟩]
        refine a_iload_n (i := 1) dX12_isSmall_0 rfl rfl ?_
        refine a_aload_n (i := 0) dX12_isSmall_1 rfl rfl ?_
        refine gX12_187 rfl dX12_isSmall_2 (isM_0 hM) ?_
        rw [h.1]
        refine a_icmp_ge (tg := 34) dX12_isSmall_5 (by decide) (fun c_5 => ?_) (fun c_5 => ?_)
        · exact absurd c_5 (nI_ge g (by omega))
        · refine a_aload_n (i := 0) dX12_isSmall_8 rfl rfl ?_
          refine gX12_7 rfl dX12_isSmall_9 (isM_0 hM) ?_
          refine a_iload_n (i := 1) dX12_isSmall_12 rfl rfl ?_
          refine a_ialdN dX12_isSmall_13 (isM_1 hM) (by first | with_reducible exact rfl | with_reducible exact ix8 _ _ | with_reducible exact ix12 _ _ | exact rfl) (by omega) (by decide) ?_
          rw [eb]
          refine a_bipush (v := 97) dX12_isSmall_14 (by decide) ?_
          refine a_icmp_lt (tg := 34) dX12_isSmall_16 (by decide) (fun c_16 => ?_) (fun c_16 => ?_)
          · exact absurd (k1.mp c_16) (by omega)
          · refine a_aload_n (i := 0) dX12_isSmall_19 rfl rfl ?_
            refine gX12_7 rfl dX12_isSmall_20 (isM_0 hM) ?_
            refine a_iload_n (i := 1) dX12_isSmall_23 rfl rfl ?_
            refine a_ialdN dX12_isSmall_24 (isM_1 hM) (by first | with_reducible exact rfl | with_reducible exact ix8 _ _ | with_reducible exact ix12 _ _ | exact rfl) (by omega) (by decide) ?_
            rw [eb]
            refine a_bipush (v := 122) dX12_isSmall_25 (by decide) ?_
            refine a_icmp_gt (tg := 34) dX12_isSmall_27 (by decide) (fun c_27 => ?_) (fun c_27 => ?_)
            · exact absurd (k2.mp c_27) (by omega)
            · refine a_iconst (v := 1) dX12_isSmall_30 (by decide) ?_
              refine a_goto (tg := 35) dX12_isSmall_31 (by decide) ?_
              exact a_iret dX12_isSmall_35 (by exact ⟨rfl, rfl⟩)
      · rw [bI_f (p := i < n ∧ bLt B i = true) (fun e => q2 (of_decide_eq_true e.2).2)]
        refine a_iload_n (i := 1) dX12_isSmall_0 rfl rfl ?_
        refine a_aload_n (i := 0) dX12_isSmall_1 rfl rfl ?_
        refine gX12_187 rfl dX12_isSmall_2 (isM_0 hM) ?_
        rw [h.1]
        refine a_icmp_ge (tg := 34) dX12_isSmall_5 (by decide) (fun c_5 => ?_) (fun c_5 => ?_)
        · exact absurd c_5 (nI_ge g (by omega))
        · refine a_aload_n (i := 0) dX12_isSmall_8 rfl rfl ?_
          refine gX12_7 rfl dX12_isSmall_9 (isM_0 hM) ?_
          refine a_iload_n (i := 1) dX12_isSmall_12 rfl rfl ?_
          refine a_ialdN dX12_isSmall_13 (isM_1 hM) (by first | with_reducible exact rfl | with_reducible exact ix8 _ _ | with_reducible exact ix12 _ _ | exact rfl) (by omega) (by decide) ?_
          rw [eb]
          refine a_bipush (v := 97) dX12_isSmall_14 (by decide) ?_
          refine a_icmp_lt (tg := 34) dX12_isSmall_16 (by decide) (fun c_16 => ?_) (fun c_16 => ?_)
          · exact absurd (k1.mp c_16) (by omega)
          · refine a_aload_n (i := 0) dX12_isSmall_19 rfl rfl ?_
            refine gX12_7 rfl dX12_isSmall_20 (isM_0 hM) ?_
            refine a_iload_n (i := 1) dX12_isSmall_23 rfl rfl ?_
            refine a_ialdN dX12_isSmall_24 (isM_1 hM) (by first | with_reducible exact rfl | with_reducible exact ix8 _ _ | with_reducible exact ix12 _ _ | exact rfl) (by omega) (by decide) ?_
            rw [eb]
            refine a_bipush (v := 122) dX12_isSmall_25 (by decide) ?_
            refine a_icmp_gt (tg := 34) dX12_isSmall_27 (by decide) (fun c_27 => ?_) (fun c_27 => ?_)
            · refine a_iconst (v := 0) dX12_isSmall_34 (by decide) ?_
              exact a_iret dX12_isSmall_35 (by exact ⟨rfl, rfl⟩)
            · exact absurd (k2.mpr (by omega)) c_27
    · rw [bI_f (p := i < n ∧ bLt B i = true) (fun e => q1 (of_decide_eq_true e.2).1)]
      refine a_iload_n (i := 1) dX12_isSmall_0 rfl rfl ?_
      refine a_aload_n (i := 0) dX12_isSmall_1 rfl rfl ?_
      refine gX12_187 rfl dX12_isSmall_2 (isM_0 hM) ?_
      rw [h.1]
      refine a_icmp_ge (tg := 34) dX12_isSmall_5 (by decide) (fun c_5 => ?_) (fun c_5 => ?_)
      · exact absurd c_5 (nI_ge g (by omega))
      · refine a_aload_n (i := 0) dX12_isSmall_8 rfl rfl ?_
        refine gX12_7 rfl dX12_isSmall_9 (isM_0 hM) ?_
        refine a_iload_n (i := 1) dX12_isSmall_12 rfl rfl ?_
        refine a_ialdN dX12_isSmall_13 (isM_1 hM) (by first | with_reducible exact rfl | with_reducible exact ix8 _ _ | with_reducible exact ix12 _ _ | exact rfl) (by omega) (by decide) ?_
        rw [eb]
        refine a_bipush (v := 97) dX12_isSmall_14 (by decide) ?_
        refine a_icmp_lt (tg := 34) dX12_isSmall_16 (by decide) (fun c_16 => ?_) (fun c_16 => ?_)
        · refine a_iconst (v := 0) dX12_isSmall_34 (by decide) ?_
          exact a_iret dX12_isSmall_35 (by exact ⟨rfl, rfl⟩)
        · exact absurd (k1.mpr (by omega)) c_16
  · rw [bI_f (p := i < n ∧ bLt B i = true) (fun e => g e.1)]
    have ee : nI n ≤ nI i := nI_le (by omega) (by omega)
    refine a_iload_n (i := 1) dX12_isSmall_0 rfl rfl ?_
    refine a_aload_n (i := 0) dX12_isSmall_1 rfl rfl ?_
    refine gX12_187 rfl dX12_isSmall_2 (isM_0 hM) ?_
    rw [h.1]
    refine a_icmp_ge (tg := 34) dX12_isSmall_5 (by decide) (fun c_5 => ?_) (fun c_5 => ?_)
    · refine a_iconst (v := 0) dX12_isSmall_34 (by decide) ?_
      exact a_iret dX12_isSmall_35 (by exact ⟨rfl, rfl⟩)
    · exact absurd ee c_5
set_option maxHeartbeats 4000000 in
set_option maxRecDepth 100000 in
theorem c_X12_isDigit (hM : D 12 = true) (h : mBt n B x) (hi : i ≤ n) : aDI l mX12_isDigit d D [.ref bM, .int (nI i)] x (bI (decide (i < n ∧ bDg B i = true))) x := by
  have n7 := h.2.1
  refine a_metZ (by decide) (Nat.le_of_ble_eq_true rfl) rfl (bI_01 _) ?_
  by_cases g : i < n
  · obtain ⟨b256, eb⟩ := h.2.2.1 i g
    obtain ⟨-, -, k1, k2, -⟩ := nB_lt _ b256
    by_cases q1 : 48 ≤ B i
    · by_cases q2 : B i ≤ 57
      · rw [bI_t (p := i < n ∧ bDg B i = true) ⟨g, decide_eq_true ⟨q1, q2⟩⟩]
        refine a_iload_n (i := 1) dX12_isDigit_0 rfl rfl ?_
        refine a_aload_n (i := 0) dX12_isDigit_1 rfl rfl ?_
        refine gX12_187 rfl dX12_isDigit_2 (isM_0 hM) ?_
        rw [h.1]
        refine a_icmp_ge (tg := 34) dX12_isDigit_5 (by decide) (fun c_5 => ?_) (fun c_5 => ?_)
        · exact absurd c_5 (nI_ge g (by omega))
        · refine a_aload_n (i := 0) dX12_isDigit_8 rfl rfl ?_
          refine gX12_7 rfl dX12_isDigit_9 (isM_0 hM) ?_
          refine a_iload_n (i := 1) dX12_isDigit_12 rfl rfl ?_
          refine a_ialdN dX12_isDigit_13 (isM_1 hM) (by first | with_reducible exact rfl | with_reducible exact ix8 _ _ | with_reducible exact ix12 _ _ | exact rfl) (by omega) (by decide) ?_
          rw [eb]
          refine a_bipush (v := 48) dX12_isDigit_14 (by decide) ?_
          refine a_icmp_lt (tg := 34) dX12_isDigit_16 (by decide) (fun c_16 => ?_) (fun c_16 => ?_)
          · exact absurd (k1.mp c_16) (by omega)
          · refine a_aload_n (i := 0) dX12_isDigit_19 rfl rfl ?_
            refine gX12_7 rfl dX12_isDigit_20 (isM_0 hM) ?_
            refine a_iload_n (i := 1) dX12_isDigit_23 rfl rfl ?_
            refine a_ialdN dX12_isDigit_24 (isM_1 hM) (by first | with_reducible exact rfl | with_reducible exact ix8 _ _ | with_reducible exact ix12 _ _ | exact rfl) (by omega) (by decide) ?_
            rw [eb]
            refine a_bipush (v := 57) dX12_isDigit_25 (by decide) ?_
            refine a_icmp_gt (tg := 34) dX12_isDigit_27 (by decide) (fun c_27 => ?_) (fun c_27 => ?_)
            · exact absurd (k2.mp c_27) (by omega)
            · refine a_iconst (v := 1) dX12_isDigit_30 (by decide) ?_
              refine a_goto (tg := 35) dX12_isDigit_31 (by decide) ?_
              exact a_iret dX12_isDigit_35 (by exact ⟨rfl, rfl⟩)
      · rw [bI_f (p := i < n ∧ bDg B i = true) (fun e => q2 (of_decide_eq_true e.2).2)]
        refine a_iload_n (i := 1) dX12_isDigit_0 rfl rfl ?_
        refine a_aload_n (i := 0) dX12_isDigit_1 rfl rfl ?_
        refine gX12_187 rfl dX12_isDigit_2 (isM_0 hM) ?_
        rw [h.1]
        refine a_icmp_ge (tg := 34) dX12_isDigit_5 (by decide) (fun c_5 => ?_) (fun c_5 => ?_)
        · exact absurd c_5 (nI_ge g (by omega))
        · refine a_aload_n (i := 0) dX12_isDigit_8 rfl rfl ?_
          refine gX12_7 rfl dX12_isDigit_9 (isM_0 hM) ?_
          refine a_iload_n (i := 1) dX12_isDigit_12 rfl rfl ?_
          refine a_ialdN dX12_isDigit_13 (isM_1 hM) (by first | with_reducible exact rfl | with_reducible exact ix8 _ _ | with_reducible exact ix12 _ _ | exact rfl) (by omega) (by decide) ?_
          rw [eb]
          refine a_bipush (v := 48) dX12_isDigit_14 (by decide) ?_
          refine a_icmp_lt (tg := 34) dX12_isDigit_16 (by decide) (fun c_16 => ?_) (fun c_16 => ?_)
          · exact absurd (k1.mp c_16) (by omega)
          · refine a_aload_n (i := 0) dX12_isDigit_19 rfl rfl ?_
            refine gX12_7 rfl dX12_isDigit_20 (isM_0 hM) ?_
            refine a_iload_n (i := 1) dX12_isDigit_23 rfl rfl ?_
            refine a_ialdN dX12_isDigit_24 (isM_1 hM) (by first | with_reducible exact rfl | with_reducible exact ix8 _ _ | with_reducible exact ix12 _ _ | exact rfl) (by omega) (by decide) ?_
            rw [eb]
            refine a_bipush (v := 57) dX12_isDigit_25 (by decide) ?_
            refine a_icmp_gt (tg := 34) dX12_isDigit_27 (by decide) (fun c_27 => ?_) (fun c_27 => ?_)
            · refine a_iconst (v := 0) dX12_isDigit_34 (by decide) ?_
              exact a_iret dX12_isDigit_35 (by exact ⟨rfl, rfl⟩)
            · exact absurd (k2.mpr (by omega)) c_27
    · rw [bI_f (p := i < n ∧ bDg B i = true) (fun e => q1 (of_decide_eq_true e.2).1)]
      refine a_iload_n (i := 1) dX12_isDigit_0 rfl rfl ?_
      refine a_aload_n (i := 0) dX12_isDigit_1 rfl rfl ?_
      refine gX12_187 rfl dX12_isDigit_2 (isM_0 hM) ?_
      rw [h.1]
      refine a_icmp_ge (tg := 34) dX12_isDigit_5 (by decide) (fun c_5 => ?_) (fun c_5 => ?_)
      · exact absurd c_5 (nI_ge g (by omega))
      · refine a_aload_n (i := 0) dX12_isDigit_8 rfl rfl ?_
        refine gX12_7 rfl dX12_isDigit_9 (isM_0 hM) ?_
        refine a_iload_n (i := 1) dX12_isDigit_12 rfl rfl ?_
        refine a_ialdN dX12_isDigit_13 (isM_1 hM) (by first | with_reducible exact rfl | with_reducible exact ix8 _ _ | with_reducible exact ix12 _ _ | exact rfl) (by omega) (by decide) ?_
        rw [eb]
        refine a_bipush (v := 48) dX12_isDigit_14 (by decide) ?_
        refine a_icmp_lt (tg := 34) dX12_isDigit_16 (by decide) (fun c_16 => ?_) (fun c_16 => ?_)
        · refine a_iconst (v := 0) dX12_isDigit_34 (by decide) ?_
          exact a_iret dX12_isDigit_35 (by exact ⟨rfl, rfl⟩)
        · exact absurd (k1.mpr (by omega)) c_16
  · rw [bI_f (p := i < n ∧ bDg B i = true) (fun e => g e.1)]
    have ee : nI n ≤ nI i := nI_le (by omega) (by omega)
    refine a_iload_n (i := 1) dX12_isDigit_0 rfl rfl ?_
    refine a_aload_n (i := 0) dX12_isDigit_1 rfl rfl ?_
    refine gX12_187 rfl dX12_isDigit_2 (isM_0 hM) ?_
    rw [h.1]
    refine a_icmp_ge (tg := 34) dX12_isDigit_5 (by decide) (fun c_5 => ?_) (fun c_5 => ?_)
    · refine a_iconst (v := 0) dX12_isDigit_34 (by decide) ?_
      exact a_iret dX12_isDigit_35 (by exact ⟨rfl, rfl⟩)
    · exact absurd ee c_5
theorem wd_256 : ∀ j, j < 108 → wd j < 256 := by decide +kernel
theorem wst_0 : wst 0 = 0 ∧ wst 22 = 108 := by decide
theorem wst_lt : ∀ k, k < 22 → wst k < 108 := by decide +kernel
set_option maxHeartbeats 4000000 in
set_option maxRecDepth 100000 in
theorem c_X12_wordAt (hM : D 12 = true) (h : mBt n B x) (hab : a ≤ b) (hb : b ≤ n) : aCt l mX12_wordAt d D [.ref bM, .int (nI a), .int (nI b)] x (fun v y => y = x ∧ ((∃ k, k < 22 ∧ wmt B a b k ∧ v = some (.int (nI k))) ∨ ((∀ k, k < 22 → ¬ wmt B a b k) ∧ v = some (.int (-1))))) := by
  have n7 := h.2.1
  have hw := h.2.2.2
  have es : nI b - nI a = nI (b - a) := pk_sub hab
  have L : ∀ (f k : Nat), k + f = 22 → (∀ j, j < k → ¬ wmt B a b j) → aV l mX12_wordAt d D none 5 [(0, .ref bM), (1, .int (nI a)), (2, .int (nI b)), (3, .int (nI k)), (4, .int (nI (wst k)))] [] x (fun v y => y = x ∧ ((∃ k, k < 22 ∧ wmt B a b k ∧ v = some (.int (nI k))) ∨ ((∀ k, k < 22 → ¬ wmt B a b k) ∧ v = some (.int (-1))))) := by
    intro f
    induction f with
    | zero =>
      intro k hk no
      rw [Nat.add_zero] at hk
      subst hk
      rw [wst_0.2]
      refine a_iload (i := 4) dX12_wordAt_5 rfl ?_
      refine a_aload_n (i := 0) dX12_wordAt_7 rfl rfl ?_
      refine gX12_13 rfl dX12_wordAt_8 (isM_0 hM) ?_
      refine a_alen dX12_wordAt_11 (isM_4 hM) (by decide) ?_
      refine a_icmp_ge (tg := 126) dX12_wordAt_12 (by decide) (fun c_12 => ?_) (fun c_12 => ?_)
      · refine a_iconst (v := (-1)) dX12_wordAt_126 (by decide) ?_
        exact a_iret dX12_wordAt_127 (by exact ⟨rfl, Or.inr ⟨no, rfl⟩⟩)
      · exact absurd (Int32.le_refl _) c_12
    | succ f ih =>
      intro k hk no
      have k22 : k < 22 := by omega
      obtain ⟨k6, k0, k108, kn, k32⟩ := wd_ok k k22
      have N : ¬ wmt B a b k → ∀ (i s : Int32), aV l mX12_wordAt d D none 111 [(0, .ref bM), (1, .int (nI a)), (2, .int (nI b)), (3, .int (nI k)), (4, .int (nI (wst k))), (5, .int (nI (wln k)))] [] x (fun v y => y = x ∧ ((∃ k, k < 22 ∧ wmt B a b k ∧ v = some (.int (nI k))) ∨ ((∀ k, k < 22 → ¬ wmt B a b k) ∧ v = some (.int (-1))))) := by
        intro no1 _ _
        have ih2 := ih (k + 1) (by omega) (fun j hj => by
          by_cases e : j = k
          · subst e; exact no1
          · exact no j (by omega))
        have ea : nI (wst k) + (nI (wln k) + 1) = nI (wst (k + 1)) := by rw [nI_1, nI_add, kn]; rfl
        refine a_iload (i := 4) dX12_wordAt_111 rfl ?_
        refine a_iload (i := 5) dX12_wordAt_113 rfl ?_
        refine a_iconst (v := 1) dX12_wordAt_115 (by decide) ?_
        refine a_iadd dX12_wordAt_116 ?_
        refine a_iadd dX12_wordAt_117 ?_
        rw [ea]
        refine a_istore (i := 4) dX12_wordAt_118 (by decide) ?_
        refine a_iincK (i := 3) (u := 1) dX12_wordAt_120 rfl (by decide) (by decide) ?_
        refine a_goto (tg := 5) dX12_wordAt_123 (by decide) ?_
        rw [nI_1]; exact a_loc _ rfl ih2
      have Z : ¬ wmt B a b k → ∀ i, i ≤ wln k → aV l mX12_wordAt d D none 57 [(0, .ref bM), (1, .int (nI a)), (2, .int (nI b)), (3, .int (nI k)), (4, .int (nI (wst k))), (5, .int (nI (wln k))), (6, .int 0), (7, .int (nI i))] [] x (fun v y => y = x ∧ ((∃ k, k < 22 ∧ wmt B a b k ∧ v = some (.int (nI k))) ∨ ((∀ k, k < 22 → ¬ wmt B a b k) ∧ v = some (.int (-1))))) := by
        intro no1 i hi
        have n1 := N no1 0 0
        refine a_iload (i := 7) dX12_wordAt_57 rfl ?_
        refine a_iload (i := 5) dX12_wordAt_59 rfl ?_
        refine a_icmp_ge (tg := 104) dX12_wordAt_61 (by decide) (fun c_61 => ?_) (fun c_61 => ?_)
        · refine a_iload (i := 6) dX12_wordAt_104 rfl ?_
          refine a_if_eq (tg := 111) dX12_wordAt_106 (by decide) (fun c_106 => ?_) (fun c_106 => ?_)
          · exact a_loc _ rfl n1
          · exact absurd rfl c_106
        · refine a_iload (i := 6) dX12_wordAt_64 rfl ?_
          refine a_if_eq (tg := 104) dX12_wordAt_66 (by decide) (fun c_66 => ?_) (fun c_66 => ?_)
          · refine a_iload (i := 6) dX12_wordAt_104 rfl ?_
            refine a_if_eq (tg := 111) dX12_wordAt_106 (by decide) (fun c_106 => ?_) (fun c_106 => ?_)
            · exact a_loc _ rfl n1
            · exact absurd rfl c_106
          · exact absurd rfl c_66
      have M : wln k = b - a → ∀ (g i : Nat), i + g = wln k → (∀ j, j < i → wd (wst k + j) = B (a + j)) → aV l mX12_wordAt d D none 57 [(0, .ref bM), (1, .int (nI a)), (2, .int (nI b)), (3, .int (nI k)), (4, .int (nI (wst k))), (5, .int (nI (wln k))), (6, .int 1), (7, .int (nI i))] [] x (fun v y => y = x ∧ ((∃ k, k < 22 ∧ wmt B a b k ∧ v = some (.int (nI k))) ∨ ((∀ k, k < 22 → ¬ wmt B a b k) ∧ v = some (.int (-1))))) := by
        intro el g
        induction g with
        | zero =>
          intro i hi hm
          rw [Nat.add_zero] at hi
          subst hi
          refine a_iload (i := 7) dX12_wordAt_57 rfl ?_
          refine a_iload (i := 5) dX12_wordAt_59 rfl ?_
          refine a_icmp_ge (tg := 104) dX12_wordAt_61 (by decide) (fun c_61 => ?_) (fun c_61 => ?_)
          · refine a_iload (i := 6) dX12_wordAt_104 rfl ?_
            refine a_if_eq (tg := 111) dX12_wordAt_106 (by decide) (fun c_106 => ?_) (fun c_106 => ?_)
            · exact absurd c_106 (by decide)
            · refine a_iload_n (i := 3) dX12_wordAt_109 rfl rfl ?_
              exact a_iret dX12_wordAt_110 (by exact ⟨rfl, Or.inl ⟨k, k22, ⟨el, hm⟩, rfl⟩⟩)
          · exact absurd (Int32.le_refl _) c_61
        | succ g ih3 =>
          intro i hi hm
          have e1 := hw (wst k + i) (by omega)
          obtain ⟨b256, e2⟩ := h.2.2.1 (a + i) (by omega)
          have e3 := wd_256 (wst k + i) (by omega)
          by_cases q : wd (wst k + i) = B (a + i)
          · have ih4 := ih3 (i + 1) (by omega) (fun j hj => by
              by_cases e : j = i
              · subst e; exact q
              · exact hm j (by omega))
            refine a_iload (i := 7) dX12_wordAt_57 rfl ?_
            refine a_iload (i := 5) dX12_wordAt_59 rfl ?_
            refine a_icmp_ge (tg := 104) dX12_wordAt_61 (by decide) (fun c_61 => ?_) (fun c_61 => ?_)
            · exact absurd c_61 (nI_ge (by omega) (by omega))
            · refine a_iload (i := 6) dX12_wordAt_64 rfl ?_
              refine a_if_eq (tg := 104) dX12_wordAt_66 (by decide) (fun c_66 => ?_) (fun c_66 => ?_)
              · exact absurd c_66 (by decide)
              · refine a_aload_n (i := 0) dX12_wordAt_69 rfl rfl ?_
                refine gX12_13 rfl dX12_wordAt_70 (isM_0 hM) ?_
                refine a_iload (i := 4) dX12_wordAt_73 rfl ?_
                refine a_iload (i := 7) dX12_wordAt_75 rfl ?_
                refine a_iadd dX12_wordAt_77 ?_
                refine a_ialdN dX12_wordAt_78 (isM_4 hM) (by first | exact nI_add _ _ | with_reducible exact rfl | with_reducible exact ix8 _ _ | with_reducible exact ix12 _ _ | exact rfl) (by omega) (by decide) ?_
                rw [e1]
                refine a_aload_n (i := 0) dX12_wordAt_79 rfl rfl ?_
                refine gX12_7 rfl dX12_wordAt_80 (isM_0 hM) ?_
                refine a_iload_n (i := 1) dX12_wordAt_83 rfl rfl ?_
                refine a_iload (i := 7) dX12_wordAt_84 rfl ?_
                refine a_iadd dX12_wordAt_86 ?_
                refine a_ialdN dX12_wordAt_87 (isM_1 hM) (by first | exact nI_add _ _ | with_reducible exact rfl | with_reducible exact ix8 _ _ | with_reducible exact ix12 _ _ | exact rfl) (by omega) (by decide) ?_
                rw [e2]
                refine a_icmp_ne (tg := 95) dX12_wordAt_88 (by decide) (fun c_88 => ?_) (fun c_88 => ?_)
                · exact absurd (congrArg nI q) c_88
                · refine a_iconst (v := 1) dX12_wordAt_91 (by decide) ?_
                  refine a_goto (tg := 96) dX12_wordAt_92 (by decide) ?_
                  refine a_istore (i := 6) dX12_wordAt_96 (by decide) ?_
                  refine a_iincK (i := 7) (u := 1) dX12_wordAt_98 rfl (by decide) (by decide) ?_
                  refine a_goto (tg := 57) dX12_wordAt_101 (by decide) ?_
                  rw [nI_1]; exact a_loc _ rfl ih4
          · have z1 := Z (fun e => q (e.2 i (by omega))) (i + 1) (by omega)
            refine a_iload (i := 7) dX12_wordAt_57 rfl ?_
            refine a_iload (i := 5) dX12_wordAt_59 rfl ?_
            refine a_icmp_ge (tg := 104) dX12_wordAt_61 (by decide) (fun c_61 => ?_) (fun c_61 => ?_)
            · exact absurd c_61 (nI_ge (by omega) (by omega))
            · refine a_iload (i := 6) dX12_wordAt_64 rfl ?_
              refine a_if_eq (tg := 104) dX12_wordAt_66 (by decide) (fun c_66 => ?_) (fun c_66 => ?_)
              · exact absurd c_66 (by decide)
              · refine a_aload_n (i := 0) dX12_wordAt_69 rfl rfl ?_
                refine gX12_13 rfl dX12_wordAt_70 (isM_0 hM) ?_
                refine a_iload (i := 4) dX12_wordAt_73 rfl ?_
                refine a_iload (i := 7) dX12_wordAt_75 rfl ?_
                refine a_iadd dX12_wordAt_77 ?_
                refine a_ialdN dX12_wordAt_78 (isM_4 hM) (by first | exact nI_add _ _ | with_reducible exact rfl | with_reducible exact ix8 _ _ | with_reducible exact ix12 _ _ | exact rfl) (by omega) (by decide) ?_
                rw [e1]
                refine a_aload_n (i := 0) dX12_wordAt_79 rfl rfl ?_
                refine gX12_7 rfl dX12_wordAt_80 (isM_0 hM) ?_
                refine a_iload_n (i := 1) dX12_wordAt_83 rfl rfl ?_
                refine a_iload (i := 7) dX12_wordAt_84 rfl ?_
                refine a_iadd dX12_wordAt_86 ?_
                refine a_ialdN dX12_wordAt_87 (isM_1 hM) (by first | exact nI_add _ _ | with_reducible exact rfl | with_reducible exact ix8 _ _ | with_reducible exact ix12 _ _ | exact rfl) (by omega) (by decide) ?_
                rw [e2]
                refine a_icmp_ne (tg := 95) dX12_wordAt_88 (by decide) (fun c_88 => ?_) (fun c_88 => ?_)
                · refine a_iconst (v := 0) dX12_wordAt_95 (by decide) ?_
                  refine a_istore (i := 6) dX12_wordAt_96 (by decide) ?_
                  refine a_iincK (i := 7) (u := 1) dX12_wordAt_98 rfl (by decide) (by decide) ?_
                  refine a_goto (tg := 57) dX12_wordAt_101 (by decide) ?_
                  rw [nI_1]; exact a_loc _ rfl z1
                · exact absurd ((nI_eq (by omega) (by omega)).mp c_88) q
      have C : ∀ (g c : Nat), c + g = wln k → aV l mX12_wordAt d D none 18 [(0, .ref bM), (1, .int (nI a)), (2, .int (nI b)), (3, .int (nI k)), (4, .int (nI (wst k))), (5, .int (nI c))] [] x (fun v y => y = x ∧ ((∃ k, k < 22 ∧ wmt B a b k ∧ v = some (.int (nI k))) ∨ ((∀ k, k < 22 → ¬ wmt B a b k) ∧ v = some (.int (-1))))) := by
        intro g
        induction g with
        | zero =>
          intro c hc
          rw [Nat.add_zero] at hc
          subst hc
          have e1 := hw (wst k + wln k) k108
          rw [k32] at e1
          by_cases el : wln k = b - a
          · have m0 := M el (wln k) 0 (Nat.zero_add _) (fun j hj => absurd hj (Nat.not_lt_zero j))
            refine a_aload_n (i := 0) dX12_wordAt_18 rfl rfl ?_
            refine gX12_13 rfl dX12_wordAt_19 (isM_0 hM) ?_
            refine a_iload (i := 4) dX12_wordAt_22 rfl ?_
            refine a_iload (i := 5) dX12_wordAt_24 rfl ?_
            refine a_iadd dX12_wordAt_26 ?_
            refine a_ialdN dX12_wordAt_27 (isM_4 hM) (by first | exact nI_add _ _ | with_reducible exact rfl | with_reducible exact ix8 _ _ | with_reducible exact ix12 _ _ | exact rfl) (by omega) (by decide) ?_
            rw [e1]
            refine a_bipush (v := 32) dX12_wordAt_28 (by decide) ?_
            refine a_icmp_eq (tg := 39) dX12_wordAt_30 (by decide) (fun c_30 => ?_) (fun c_30 => ?_)
            · refine a_iload (i := 5) dX12_wordAt_39 rfl ?_
              refine a_iload_n (i := 2) dX12_wordAt_41 rfl rfl ?_
              refine a_iload_n (i := 1) dX12_wordAt_42 rfl rfl ?_
              refine a_isub dX12_wordAt_43 ?_
              rw [es]
              refine a_icmp_ne (tg := 51) dX12_wordAt_44 (by decide) (fun c_44 => ?_) (fun c_44 => ?_)
              · exact absurd (congrArg nI el) c_44
              · refine a_iconst (v := 1) dX12_wordAt_47 (by decide) ?_
                refine a_goto (tg := 52) dX12_wordAt_48 (by decide) ?_
                refine a_istore (i := 6) dX12_wordAt_52 (by decide) ?_
                refine a_iconst (v := 0) dX12_wordAt_54 (by decide) ?_
                refine a_istore (i := 7) dX12_wordAt_55 (by decide) ?_
                exact a_loc _ rfl m0
            · exact absurd rfl c_30
          · have z0 := Z (fun e => el e.1) 0 (Nat.zero_le _)
            refine a_aload_n (i := 0) dX12_wordAt_18 rfl rfl ?_
            refine gX12_13 rfl dX12_wordAt_19 (isM_0 hM) ?_
            refine a_iload (i := 4) dX12_wordAt_22 rfl ?_
            refine a_iload (i := 5) dX12_wordAt_24 rfl ?_
            refine a_iadd dX12_wordAt_26 ?_
            refine a_ialdN dX12_wordAt_27 (isM_4 hM) (by first | exact nI_add _ _ | with_reducible exact rfl | with_reducible exact ix8 _ _ | with_reducible exact ix12 _ _ | exact rfl) (by omega) (by decide) ?_
            rw [e1]
            refine a_bipush (v := 32) dX12_wordAt_28 (by decide) ?_
            refine a_icmp_eq (tg := 39) dX12_wordAt_30 (by decide) (fun c_30 => ?_) (fun c_30 => ?_)
            · refine a_iload (i := 5) dX12_wordAt_39 rfl ?_
              refine a_iload_n (i := 2) dX12_wordAt_41 rfl rfl ?_
              refine a_iload_n (i := 1) dX12_wordAt_42 rfl rfl ?_
              refine a_isub dX12_wordAt_43 ?_
              rw [es]
              refine a_icmp_ne (tg := 51) dX12_wordAt_44 (by decide) (fun c_44 => ?_) (fun c_44 => ?_)
              · refine a_iconst (v := 0) dX12_wordAt_51 (by decide) ?_
                refine a_istore (i := 6) dX12_wordAt_52 (by decide) ?_
                refine a_iconst (v := 0) dX12_wordAt_54 (by decide) ?_
                refine a_istore (i := 7) dX12_wordAt_55 (by decide) ?_
                exact a_loc _ rfl z0
              · exact absurd ((nI_eq (by omega) (by omega)).mp c_44) el
            · exact absurd rfl c_30
        | succ g ih3 =>
          intro c hc
          have e1 := hw (wst k + c) (by omega)
          have e2 := wd_lt k k22 c (by omega) (by omega)
          have ih4 := ih3 (c + 1) (by omega)
          refine a_aload_n (i := 0) dX12_wordAt_18 rfl rfl ?_
          refine gX12_13 rfl dX12_wordAt_19 (isM_0 hM) ?_
          refine a_iload (i := 4) dX12_wordAt_22 rfl ?_
          refine a_iload (i := 5) dX12_wordAt_24 rfl ?_
          refine a_iadd dX12_wordAt_26 ?_
          refine a_ialdN dX12_wordAt_27 (isM_4 hM) (by first | exact nI_add _ _ | with_reducible exact rfl | with_reducible exact ix8 _ _ | with_reducible exact ix12 _ _ | exact rfl) (by omega) (by decide) ?_
          rw [e1]
          refine a_bipush (v := 32) dX12_wordAt_28 (by decide) ?_
          refine a_icmp_eq (tg := 39) dX12_wordAt_30 (by decide) (fun c_30 => ?_) (fun c_30 => ?_)
          · exact absurd ((nI_eq (b := 32) (by omega) (by decide)).mp c_30) (by omega)
          · refine a_iincK (i := 5) (u := 1) dX12_wordAt_33 rfl (by decide) (by decide) ?_
            refine a_goto (tg := 18) dX12_wordAt_36 (by decide) ?_
            rw [nI_1]; exact a_loc _ rfl ih4
      have c0 := C (wln k) 0 (Nat.zero_add _)
      refine a_iload (i := 4) dX12_wordAt_5 rfl ?_
      refine a_aload_n (i := 0) dX12_wordAt_7 rfl rfl ?_
      refine gX12_13 rfl dX12_wordAt_8 (isM_0 hM) ?_
      refine a_alen dX12_wordAt_11 (isM_4 hM) (by decide) ?_
      refine a_icmp_ge (tg := 126) dX12_wordAt_12 (by decide) (fun c_12 => ?_) (fun c_12 => ?_)
      · exact absurd c_12 (nI_ge (b := 108) (wst_lt k k22) (by decide))
      · refine a_iconst (v := 0) dX12_wordAt_15 (by decide) ?_
        refine a_istore (i := 5) dX12_wordAt_16 (by decide) ?_
        exact a_loc _ rfl c0
  refine a_met (by decide) (Nat.le_of_ble_eq_true rfl) (fun v y q => Or.inl ⟨rfl, by rcases q.2 with ⟨k, _, _, e⟩ | ⟨_, e⟩; exact ⟨_, e⟩; exact ⟨_, e⟩⟩) ?_
  have L0 := L 22 0 rfl (fun j hj => absurd hj (Nat.not_lt_zero j))
  refine a_iconst (v := 0) dX12_wordAt_0 (by decide) ?_
  refine a_istore_n (i := 3) dX12_wordAt_1 rfl (by decide) ?_
  refine a_iconst (v := 0) dX12_wordAt_2 (by decide) ?_
  refine a_istore (i := 4) dX12_wordAt_3 (by decide) ?_
  exact a_loc _ rfl L0
end qAF
