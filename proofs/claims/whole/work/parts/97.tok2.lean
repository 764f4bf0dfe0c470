/-! TOKENS of the class: words, step -/
section qAE
variable {l : Launch} {d : Nat} {D : Nat → Bool} {x : aS} {n : Nat} {B : Nat → Nat} {p i : Nat}
theorem hW_lt {t : Nat} (h : ∀ i, i < t → 97 ≤ B (p + i) ∧ B (p + i) ≤ 122) : hW B p t < 32 ^ t := by
  induction t with
  | zero => exact Nat.one_pos
  | succ t ih =>
    have := ih (fun i hi => h i (by omega))
    have g := h t (by omega)
    show hW B p t * 32 + (B (p + t) - 96) < 32 ^ (t + 1)
    rw [Nat.pow_succ]
    omega
theorem pkW_lt {t : Nat} (h : ∀ i, i < t → 97 ≤ B (p + i) ∧ B (p + i) ≤ 122) : pkW B p t < 2 ^ 30 := by
  have g := hW_lt (B := B) (p := p) (t := min t 6) (fun i hi => h i (by omega))
  unfold pkW
  have e : (32 : Nat) ^ min t 6 = 2 ^ (5 * min t 6) := by rw [show (32 : Nat) = 2 ^ 5 from rfl, ← Nat.pow_mul]
  rw [e] at g
  have := (Nat.mul_lt_mul_right (Nat.two_pow_pos (30 - 5 * min t 6))).mpr g
  rw [← Nat.pow_add, show 5 * min t 6 + (30 - 5 * min t 6) = 30 by omega] at this
  exact this
theorem sh_k : ∀ r, r < 31 → ((nI r &&& 31).toBitVec.smod 32).toNat = r := by decide +kernel
theorem pkW_s {t : Nat} (ht : t < 6) (h : ∀ i, i < t → 97 ≤ B (p + i) ∧ B (p + i) ≤ 122) (g : 97 ≤ B (p + t) ∧ B (p + t) ≤ 122) : nI (pkW B p t) ||| ((nI (B (p + t)) - 97 + 1) <<< (nI (25 - 5 * t) &&& 31)) = nI (pkW B p (t + 1)) := by
  have e1 : nI (B (p + t)) - 97 + 1 = nI (B (p + t) - 96) := by
    rw [show (97 : Int32) = nI 97 from rfl, pk_sub g.1, nI_1]; exact congrArg nI (by omega)
  have lt1 := pkW_lt (B := B) (p := p) h
  have hs : (B (p + t) - 96) * 2 ^ (25 - 5 * t) < 2 ^ (30 - 5 * t) := by
    rw [show 30 - 5 * t = 5 + (25 - 5 * t) by omega, Nat.pow_add]
    exact (Nat.mul_lt_mul_right (Nat.two_pow_pos _)).mpr (by omega)
  have h30 : 2 ^ (30 - 5 * t) ≤ 2 ^ 30 := Nat.pow_le_pow_right (by decide) (by omega)
  rw [e1, pk_shlN _ (25 - 5 * t) (sh_k _ (by omega)) (by omega), nI_or (by omega) (by omega)]
  congr 1
  unfold pkW
  rw [Nat.min_eq_left (by omega), Nat.min_eq_left (by omega), Nat.mul_comm (hW B p t), ← Nat.two_pow_add_eq_or_of_lt hs]
  show _ = (hW B p t * 32 + (B (p + t) - 96)) * 2 ^ (30 - 5 * (t + 1))
  rw [show 30 - 5 * (t + 1) = 25 - 5 * t by omega, Nat.add_mul, Nat.mul_assoc, show (32 : Nat) * 2 ^ (25 - 5 * t) = 2 ^ (30 - 5 * t) from by rw [show 30 - 5 * t = 5 + (25 - 5 * t) by omega, Nat.pow_add], Nat.mul_comm (hW B p t)]
theorem pkW_m {t : Nat} (ht : 6 ≤ t) : pkW B p (t + 1) = pkW B p t := by
  unfold pkW
  rw [Nat.min_eq_right (by omega), Nat.min_eq_right ht]
theorem wkN_le (v : Nat) : wkN v ≤ 22 := List.findIdx_le_length
set_option maxHeartbeats 4000000 in
set_option maxRecDepth 100000 in
theorem c_X7_takeWord (hD : aDC D) (h : cTk n B x) (h3 : x.1 bTp 3 = nI p) (hp : p ≤ n) (h6 : x.1 bTp 6 = 0) : aCt l mX7_takeWord (d + 5) D [.ref bTp] x (fun v y => v = none ∧ y.1 bTp 3 = nI (nx (bLt B) n p) ∧ y.1 bTp 4 = nI (if 6 < nx (bLt B) n p - p then 38 else wkN (pkW B p (nx (bLt B) n p - p))) ∧ y.1 bTp 5 = x.1 bTp 5 ∧ y.1 bTp 6 = nI (pkW B p (nx (bLt B) n p - p)) ∧ cSt x y) := by
  obtain ⟨e, he⟩ : ∃ e, e = nx (bLt B) n p := ⟨_, rfl⟩
  have ein : ∀ t, p + t < e → 97 ≤ B (p + t) ∧ B (p + t) ≤ 122 := fun t ht => of_decide_eq_true (nx_in (q := bLt B) (n := n) (i := p) (by omega) (by omega)).2
  rw [← he]
  have n7 := h.2.1
  have E : ∀ (t : Nat), p + t ≤ n → p + t = e → ∀ y : aS, y.1 bTp 3 = nI (p + t) → y.1 bTp 5 = x.1 bTp 5 → y.1 bTp 6 = nI (pkW B p t) → cSt x y → aV l mX7_takeWord (d + 5) D none 74 [(0, .ref bTp), (1, .int (nI 30 - nI (5 * t)))] [] y (fun v y => v = none ∧ y.1 bTp 3 = nI e ∧ y.1 bTp 4 = nI (if 6 < e - p then 38 else wkN (pkW B p (e - p))) ∧ y.1 bTp 5 = x.1 bTp 5 ∧ y.1 bTp 6 = nI (pkW B p (e - p)) ∧ cSt x y) := by
    intro t ht he y y3 y5 y6 F
    have V := pkW_lt (B := B) (p := p) (t := t) (fun i hi => ein i (by omega))
    have R : ∀ k, k = (if 6 < e - p then 38 else wkN (pkW B p (e - p))) → (aWr y bTp 4 (nI k)).1 bTp 3 = nI e ∧ (aWr y bTp 4 (nI k)).1 bTp 4 = nI (if 6 < e - p then 38 else wkN (pkW B p (e - p))) ∧ (aWr y bTp 4 (nI k)).1 bTp 5 = x.1 bTp 5 ∧ (aWr y bTp 4 (nI k)).1 bTp 6 = nI (pkW B p (e - p)) ∧ cSt x (aWr y bTp 4 (nI k)) := by
      intro k hk
      exact ⟨by rw [aWr_j _ _ _ (by decide), ← he]; exact y3, by rw [aWr_s, hk], by rw [aWr_j _ _ _ (by decide)]; exact y5, by rw [aWr_j _ _ _ (by decide), ← he, Nat.add_sub_cancel_left]; exact y6, cSt_w F (by decide)⟩
    by_cases g : 6 < t
    · have r := R 38 (by rw [if_pos (by omega)])
      have c : nI 30 - nI (5 * t) < 0 := pk_sneg (by omega) (by omega)
      refine a_aload_n (i := 0) dX7_takeWord_74 rfl rfl ?_
      refine a_iload_n (i := 1) dX7_takeWord_75 rfl rfl ?_
      refine a_if_ge (tg := 84) dX7_takeWord_76 (by decide) (fun c_76 => ?_) (fun c_76 => ?_)
      · exact absurd c (Int32.not_lt.mpr c_76)
      · refine a_bipush (v := 38) dX7_takeWord_79 (by decide) ?_
        refine a_goto (tg := 91) dX7_takeWord_81 (by decide) ?_
        refine pX7_15 rfl dX7_takeWord_91 (isTp_0 hD) ?_
        exact a_vret dX7_takeWord_94 (by exact ⟨rfl, r⟩)
    · have r := R (wkN (pkW B p t)) (by rw [if_neg (by omega), show e - p = t by omega])
      have c : ¬ nI 30 - nI (5 * t) < 0 := by rw [pk_sub (by omega)]; exact nI_pos (by omega)
      refine a_aload_n (i := 0) dX7_takeWord_74 rfl rfl ?_
      refine a_iload_n (i := 1) dX7_takeWord_75 rfl rfl ?_
      refine a_if_ge (tg := 84) dX7_takeWord_76 (by decide) (fun c_76 => ?_) (fun c_76 => ?_)
      · refine a_aload_n (i := 0) dX7_takeWord_84 rfl rfl ?_
        refine gX7_40 rfl dX7_takeWord_85 (isTp_0 hD) ?_
        rw [y6]
        refine kX7_63 rfl dX7_takeWord_88 (Nat.le_of_ble_eq_true rfl) (c_X7_wordKind V) ?_
        refine pX7_15 rfl dX7_takeWord_91 (isTp_0 hD) ?_
        exact a_vret dX7_takeWord_94 (by exact ⟨rfl, r⟩)
      · exact absurd (Int32.not_lt.mp c) c_76
  have L : ∀ (f t : Nat), f = n - (p + t) → p + t ≤ n → nx (bLt B) n (p + t) = e → ∀ y : aS, y.1 bTp 3 = nI (p + t) → y.1 bTp 5 = x.1 bTp 5 → y.1 bTp 6 = nI (pkW B p t) → cSt x y → aV l mX7_takeWord (d + 5) D none 3 [(0, .ref bTp), (1, .int (nI 30 - nI (5 * t)))] [] y (fun v y => v = none ∧ y.1 bTp 3 = nI e ∧ y.1 bTp 4 = nI (if 6 < e - p then 38 else wkN (pkW B p (e - p))) ∧ y.1 bTp 5 = x.1 bTp 5 ∧ y.1 bTp 6 = nI (pkW B p (e - p)) ∧ cSt x y) := by
    intro f
    induction f with
    | zero =>
      intro t hf ht he y y3 y5 y6 F
      have k := cTk_s h F
      rw [nx_st (by omega)] at he
      have ee : nI n ≤ nI (p + t) := nI_le (by omega) (by omega)
      have ee2 := E t ht he y y3 y5 y6 F
      refine a_aload_n (i := 0) dX7_takeWord_3 rfl rfl ?_
      refine gX7_31 rfl dX7_takeWord_4 (isTp_0 hD) ?_
      rw [y3]
      refine a_aload_n (i := 0) dX7_takeWord_7 rfl rfl ?_
      refine gX7_28 rfl dX7_takeWord_8 (isTp_0 hD) ?_
      rw [k.1]
      refine a_icmp_ge (tg := 74) dX7_takeWord_11 (by decide) (fun c_11 => ?_) (fun c_11 => ?_)
      · exact a_loc _ rfl ee2
      · exact absurd ee c_11
    | succ f ih =>
      intro t hf ht he y y3 y5 y6 F
      have k := cTk_s h F
      obtain ⟨b256, eb⟩ := k.2.2 (p + t) (by omega)
      by_cases q : bLt B (p + t) = true
      · rw [nx_go (by omega) q] at he
        have qq : 97 ≤ B (p + t) ∧ B (p + t) ≤ 122 := of_decide_eq_true q
        have el : p + t < e := by have := nx_le (q := bLt B) (n := n) (i := p + t + 1); omega
        have er : nI 30 - nI (5 * t) + (-5) = nI 30 - nI (5 * (t + 1)) := by
          rw [show 5 * (t + 1) = 5 * t + 5 by omega, ← nI_add, show (-5 : Int32) = - nI 5 from rfl, ← Int32.sub_eq_add_neg, Int32.sub_sub]
        by_cases g : t < 6
        · have ih2 := ih (t + 1) (by omega) (by omega) he (aWr (aWr y bTp 6 (nI (pkW B p (t + 1)))) bTp 3 (nI (p + t + 1))) (aWr_s _ _ _ _) (by rw [aWr_j _ _ _ (by decide), aWr_j _ _ _ (by decide)]; exact y5) (by rw [aWr_j _ _ _ (by decide), aWr_s]) (cSt_w (cSt_w F (by decide)) (by decide))
          have s0 : nI 30 - nI (5 * (t + 1)) = nI (25 - 5 * t) := by rw [pk_sub (by omega)]; exact congrArg nI (by omega)
          have sh := pkW_s (B := B) (p := p) g (fun i hi => ein i (by omega)) qq
          rw [s0] at er ih2
          refine a_aload_n (i := 0) dX7_takeWord_3 rfl rfl ?_
          refine gX7_31 rfl dX7_takeWord_4 (isTp_0 hD) ?_
          rw [y3]
          refine a_aload_n (i := 0) dX7_takeWord_7 rfl rfl ?_
          refine gX7_28 rfl dX7_takeWord_8 (isTp_0 hD) ?_
          rw [k.1]
          refine a_icmp_ge (tg := 74) dX7_takeWord_11 (by decide) (fun c_11 => ?_) (fun c_11 => ?_)
          · exact absurd c_11 (nI_ge (by omega) (by omega))
          · refine a_aload_n (i := 0) dX7_takeWord_14 rfl rfl ?_
            refine gX7_9 rfl dX7_takeWord_15 (isTp_0 hD) ?_
            refine a_aload_n (i := 0) dX7_takeWord_18 rfl rfl ?_
            refine gX7_31 rfl dX7_takeWord_19 (isTp_0 hD) ?_
            rw [y3]
            refine a_baldN dX7_takeWord_22 (isTp_2 hD) (by first | with_reducible exact rfl | with_reducible exact ix8 _ _ | with_reducible exact ix12 _ _ | exact rfl) (by omega) (by decide) ?_
            rw [eb]
            refine kX7_43 rfl dX7_takeWord_23 (Nat.le_of_ble_eq_true rfl) (c_X7_isLetter) ?_
            rw [sB_lt _ b256, decide_eq_true qq]
            refine a_if_eq (tg := 74) dX7_takeWord_26 (by decide) (fun c_26 => ?_) (fun c_26 => ?_)
            · exact absurd c_26 (by decide)
            · refine a_iincK (i := 1) (u := (-5)) dX7_takeWord_29 rfl (by decide) (by decide) ?_
              rw [er]
              refine a_iload_n (i := 1) dX7_takeWord_32 rfl rfl ?_
              refine a_if_lt (tg := 61) dX7_takeWord_33 (by decide) (fun c_33 => ?_) (fun c_33 => ?_)
              · exact absurd c_33 (nI_pos (by omega))
              · refine a_aload_n (i := 0) dX7_takeWord_36 rfl rfl ?_
                refine a_dup dX7_takeWord_37 rfl ?_
                refine gX7_40 rfl dX7_takeWord_38 (isTp_0 hD) ?_
                rw [y6]
                refine a_aload_n (i := 0) dX7_takeWord_41 rfl rfl ?_
                refine gX7_9 rfl dX7_takeWord_42 (isTp_0 hD) ?_
                refine a_aload_n (i := 0) dX7_takeWord_45 rfl rfl ?_
                refine gX7_31 rfl dX7_takeWord_46 (isTp_0 hD) ?_
                rw [y3]
                refine a_baldN dX7_takeWord_49 (isTp_2 hD) (by first | with_reducible exact rfl | with_reducible exact ix8 _ _ | with_reducible exact ix12 _ _ | exact rfl) (by omega) (by decide) ?_
                rw [eb, sB_n _ (by omega)]
                refine a_bipush (v := 97) dX7_takeWord_50 (by decide) ?_
                refine a_isub dX7_takeWord_52 ?_
                refine a_iconst (v := 1) dX7_takeWord_53 (by decide) ?_
                refine a_iadd dX7_takeWord_54 ?_
                refine a_iload_n (i := 1) dX7_takeWord_55 rfl rfl ?_
                refine a_ishl dX7_takeWord_56 ?_
                refine a_ior dX7_takeWord_57 ?_
                rw [sh]
                refine pX7_40 rfl dX7_takeWord_58 (isTp_0 hD) ?_
                refine a_aload_n (i := 0) dX7_takeWord_61 rfl rfl ?_
                refine a_dup dX7_takeWord_62 rfl ?_
                refine gX7_31 rfl dX7_takeWord_63 (isTp_0 hD) ?_
                rw [aWr_j _ _ _ (by decide), y3]
                refine a_iconst (v := 1) dX7_takeWord_66 (by decide) ?_
                refine a_iadd dX7_takeWord_67 ?_
                rw [nI_1]
                refine pX7_31 rfl dX7_takeWord_68 (isTp_0 hD) ?_
                refine a_goto (tg := 3) dX7_takeWord_71 (by decide) ?_
                exact a_loc _ rfl ih2
        · have ih2 := ih (t + 1) (by omega) (by omega) he (aWr y bTp 3 (nI (p + t + 1))) (aWr_s _ _ _ _) (by rw [aWr_j _ _ _ (by decide)]; exact y5) (by rw [aWr_j _ _ _ (by decide), pkW_m (by omega)]; exact y6) (cSt_w F (by decide))
          have s0 : nI 30 - nI (5 * (t + 1)) < 0 := pk_sneg (by omega) (by omega)
          refine a_aload_n (i := 0) dX7_takeWord_3 rfl rfl ?_
          refine gX7_31 rfl dX7_takeWord_4 (isTp_0 hD) ?_
          rw [y3]
          refine a_aload_n (i := 0) dX7_takeWord_7 rfl rfl ?_
          refine gX7_28 rfl dX7_takeWord_8 (isTp_0 hD) ?_
          rw [k.1]
          refine a_icmp_ge (tg := 74) dX7_takeWord_11 (by decide) (fun c_11 => ?_) (fun c_11 => ?_)
          · exact absurd c_11 (nI_ge (by omega) (by omega))
          · refine a_aload_n (i := 0) dX7_takeWord_14 rfl rfl ?_
            refine gX7_9 rfl dX7_takeWord_15 (isTp_0 hD) ?_
            refine a_aload_n (i := 0) dX7_takeWord_18 rfl rfl ?_
            refine gX7_31 rfl dX7_takeWord_19 (isTp_0 hD) ?_
            rw [y3]
            refine a_baldN dX7_takeWord_22 (isTp_2 hD) (by first | with_reducible exact rfl | with_reducible exact ix8 _ _ | with_reducible exact ix12 _ _ | exact rfl) (by omega) (by decide) ?_
            rw [eb]
            refine kX7_43 rfl dX7_takeWord_23 (Nat.le_of_ble_eq_true rfl) (c_X7_isLetter) ?_
            rw [sB_lt _ b256, decide_eq_true qq]
            refine a_if_eq (tg := 74) dX7_takeWord_26 (by decide) (fun c_26 => ?_) (fun c_26 => ?_)
            · exact absurd c_26 (by decide)
            · refine a_iincK (i := 1) (u := (-5)) dX7_takeWord_29 rfl (by decide) (by decide) ?_
              rw [er]
              refine a_iload_n (i := 1) dX7_takeWord_32 rfl rfl ?_
              refine a_if_lt (tg := 61) dX7_takeWord_33 (by decide) (fun c_33 => ?_) (fun c_33 => ?_)
              · refine a_aload_n (i := 0) dX7_takeWord_61 rfl rfl ?_
                refine a_dup dX7_takeWord_62 rfl ?_
                refine gX7_31 rfl dX7_takeWord_63 (isTp_0 hD) ?_
                rw [y3]
                refine a_iconst (v := 1) dX7_takeWord_66 (by decide) ?_
                refine a_iadd dX7_takeWord_67 ?_
                rw [nI_1]
                refine pX7_31 rfl dX7_takeWord_68 (isTp_0 hD) ?_
                refine a_goto (tg := 3) dX7_takeWord_71 (by decide) ?_
                exact a_loc _ rfl ih2
              · exact absurd s0 c_33
      · have q2 : ¬ (97 ≤ B (p + t) ∧ B (p + t) ≤ 122) := fun g => q (decide_eq_true g)
        rw [nx_st (fun g => q g.2)] at he
        have ee2 := E t ht he y y3 y5 y6 F
        refine a_aload_n (i := 0) dX7_takeWord_3 rfl rfl ?_
        refine gX7_31 rfl dX7_takeWord_4 (isTp_0 hD) ?_
        rw [y3]
        refine a_aload_n (i := 0) dX7_takeWord_7 rfl rfl ?_
        refine gX7_28 rfl dX7_takeWord_8 (isTp_0 hD) ?_
        rw [k.1]
        refine a_icmp_ge (tg := 74) dX7_takeWord_11 (by decide) (fun c_11 => ?_) (fun c_11 => ?_)
        · exact absurd c_11 (nI_ge (by omega) (by omega))
        · refine a_aload_n (i := 0) dX7_takeWord_14 rfl rfl ?_
          refine gX7_9 rfl dX7_takeWord_15 (isTp_0 hD) ?_
          refine a_aload_n (i := 0) dX7_takeWord_18 rfl rfl ?_
          refine gX7_31 rfl dX7_takeWord_19 (isTp_0 hD) ?_
          rw [y3]
          refine a_baldN dX7_takeWord_22 (isTp_2 hD) (by first | with_reducible exact rfl | with_reducible exact ix8 _ _ | with_reducible exact ix12 _ _ | exact rfl) (by omega) (by decide) ?_
          rw [eb]
          refine kX7_43 rfl dX7_takeWord_23 (Nat.le_of_ble_eq_true rfl) (c_X7_isLetter) ?_
          rw [sB_lt _ b256, decide_eq_false q2]
          refine a_if_eq (tg := 74) dX7_takeWord_26 (by decide) (fun c_26 => ?_) (fun c_26 => ?_)
          · exact a_loc _ rfl ee2
          · exact absurd rfl c_26
  refine a_met (by decide) (Nat.le_of_ble_eq_true rfl) (fun v y q => Or.inr (Or.inr (Or.inr ⟨rfl, q.1⟩))) ?_
  have p0 : pkW B p 0 = 0 := by simp [pkW, hW]
  have L0 := L (n - (p + 0)) 0 rfl hp he.symm x h3 rfl (by rw [p0]; exact h6) (cSt_r x)
  refine a_bipush (v := 30) dX7_takeWord_0 (by decide) ?_
  refine a_istore_n (i := 1) dX7_takeWord_2 rfl (by decide) ?_
  exact a_loc _ rfl L0
set_option maxHeartbeats 4000000 in
set_option maxRecDepth 100000 in
theorem c_X7_step (hD : aDC D) (h : cTk n B x) (h3 : x.1 bTp 3 = nI i) (hi : i ≤ n) : aCt l mX7_step (d + 6) D [.ref bTp] x (fun v y => v = none ∧ rK (tok B n i) y ∧ cSt x y) := by
  have n7 := h.2.1
  have E : ∀ (p : Nat), p ≤ n → ∀ y : aS, y.1 bTp 3 = nI p → cSt x y → aV l mX7_step (d + 6) D none 52 [(0, .ref bTp)] [] y (fun v y => v = none ∧ rK (tokA B n p) y ∧ cSt x y) := by
    intro p hp y y3 F
    obtain ⟨Y, hY⟩ : ∃ Y, Y = aWr (aWr y bTp 5 (nI p)) bTp 6 0 := ⟨_, rfl⟩
    have Y3 : Y.1 bTp 3 = nI p := by rw [hY, aWr_j _ _ _ (by decide), aWr_j _ _ _ (by decide)]; exact y3
    have Y5 : Y.1 bTp 5 = nI p := by rw [hY, aWr_j _ _ _ (by decide), aWr_s]
    have Y6 : Y.1 bTp 6 = 0 := by rw [hY, aWr_s]
    have FY : cSt x Y := by rw [hY]; exact cSt_w (cSt_w F (by decide)) (by decide)
    have k := cTk_s h FY
    refine a_aload_n (i := 0) dX7_step_52 rfl rfl ?_
    refine a_aload_n (i := 0) dX7_step_53 rfl rfl ?_
    refine gX7_31 rfl dX7_step_54 (isTp_0 hD) ?_
    rw [y3]
    refine pX7_37 rfl dX7_step_57 (isTp_0 hD) ?_
    refine a_aload_n (i := 0) dX7_step_60 rfl rfl ?_
    refine a_iconst (v := 0) dX7_step_61 (by decide) ?_
    refine pX7_40 rfl dX7_step_62 (isTp_0 hD) ?_
    rw [← hY]
    refine a_loc [(0, .ref bTp)] rfl ?_
    unfold tokA
    by_cases g : n ≤ p
    · rw [if_pos g]
      have ee : nI n ≤ nI p := nI_le g (by omega)
      refine a_aload_n (i := 0) dX7_step_65 rfl rfl ?_
      refine gX7_31 rfl dX7_step_66 (isTp_0 hD) ?_
      rw [Y3]
      refine a_aload_n (i := 0) dX7_step_69 rfl rfl ?_
      refine gX7_28 rfl dX7_step_70 (isTp_0 hD) ?_
      rw [k.1]
      refine a_icmp_lt (tg := 85) dX7_step_73 (by decide) (fun c_73 => ?_) (fun c_73 => ?_)
      · exact absurd c_73 (Int32.not_lt.mpr ee)
      · refine a_aload_n (i := 0) dX7_step_76 rfl rfl ?_
        refine a_bipush (v := 37) dX7_step_77 (by decide) ?_
        refine pX7_15 rfl dX7_step_79 (isTp_0 hD) ?_
        refine a_goto (tg := 159) dX7_step_82 (by decide) ?_
        exact a_vret dX7_step_159 (by exact ⟨rfl, ⟨by rw [aWr_j _ _ _ (by decide)]; exact Y3, aWr_s _ _ _ _, by rw [aWr_j _ _ _ (by decide)]; exact Y5, by rw [aWr_j _ _ _ (by decide)]; exact Y6⟩, cSt_w FY (by decide)⟩)
    · rw [if_neg g]
      have ee : nI p < nI n := nI_lt (by omega) (by omega)
      obtain ⟨b256, eb⟩ := k.2.2 p (by omega)
      by_cases q : bLt B p = true
      · have qq : 97 ≤ B p ∧ B p ≤ 122 := of_decide_eq_true q
        rw [if_pos q]
        refine a_aload_n (i := 0) dX7_step_65 rfl rfl ?_
        refine gX7_31 rfl dX7_step_66 (isTp_0 hD) ?_
        rw [Y3]
        refine a_aload_n (i := 0) dX7_step_69 rfl rfl ?_
        refine gX7_28 rfl dX7_step_70 (isTp_0 hD) ?_
        rw [k.1]
        refine a_icmp_lt (tg := 85) dX7_step_73 (by decide) (fun c_73 => ?_) (fun c_73 => ?_)
        · refine a_aload_n (i := 0) dX7_step_85 rfl rfl ?_
          refine gX7_9 rfl dX7_step_86 (isTp_0 hD) ?_
          refine a_aload_n (i := 0) dX7_step_89 rfl rfl ?_
          refine gX7_31 rfl dX7_step_90 (isTp_0 hD) ?_
          rw [Y3]
          refine a_baldN dX7_step_93 (isTp_2 hD) (by first | with_reducible exact rfl | with_reducible exact ix8 _ _ | with_reducible exact ix12 _ _ | exact rfl) (by omega) (by decide) ?_
          rw [eb]
          refine kX7_43 rfl dX7_step_94 (Nat.le_of_ble_eq_true rfl) (c_X7_isLetter) ?_
          rw [sB_lt _ b256, decide_eq_true qq]
          refine a_if_eq (tg := 107) dX7_step_97 (by decide) (fun c_97 => ?_) (fun c_97 => ?_)
          · exact absurd c_97 (by decide)
          · refine a_aload_n (i := 0) dX7_step_100 rfl rfl ?_
            refine kgX7_47 rfl dX7_step_101 (Nat.le_of_ble_eq_true rfl) (isTp_0 hD) (c_X7_takeWord hD k Y3 (by omega) Y6) ?_
            rintro v z ⟨rfl, a3, a4, a5, a6, G⟩
            refine a_goto (tg := 159) dX7_step_104 (by decide) ?_
            exact a_vret dX7_step_159 (by exact ⟨rfl, ⟨a3, a4, a5.trans Y5, a6⟩, cSt_t FY G⟩)
        · exact absurd ee c_73
      · have q2 : ¬ (97 ≤ B p ∧ B p ≤ 122) := fun g => q (decide_eq_true g)
        rw [if_neg q]
        by_cases r : bDg B p = true
        · have rr : 48 ≤ B p ∧ B p ≤ 57 := of_decide_eq_true r
          rw [if_pos r]
          refine a_aload_n (i := 0) dX7_step_65 rfl rfl ?_
          refine gX7_31 rfl dX7_step_66 (isTp_0 hD) ?_
          rw [Y3]
          refine a_aload_n (i := 0) dX7_step_69 rfl rfl ?_
          refine gX7_28 rfl dX7_step_70 (isTp_0 hD) ?_
          rw [k.1]
          refine a_icmp_lt (tg := 85) dX7_step_73 (by decide) (fun c_73 => ?_) (fun c_73 => ?_)
          · refine a_aload_n (i := 0) dX7_step_85 rfl rfl ?_
            refine gX7_9 rfl dX7_step_86 (isTp_0 hD) ?_
            refine a_aload_n (i := 0) dX7_step_89 rfl rfl ?_
            refine gX7_31 rfl dX7_step_90 (isTp_0 hD) ?_
            rw [Y3]
            refine a_baldN dX7_step_93 (isTp_2 hD) (by first | with_reducible exact rfl | with_reducible exact ix8 _ _ | with_reducible exact ix12 _ _ | exact rfl) (by omega) (by decide) ?_
            rw [eb]
            refine kX7_43 rfl dX7_step_94 (Nat.le_of_ble_eq_true rfl) (c_X7_isLetter) ?_
            rw [sB_lt _ b256, decide_eq_false q2]
            refine a_if_eq (tg := 107) dX7_step_97 (by decide) (fun c_97 => ?_) (fun c_97 => ?_)
            · refine a_aload_n (i := 0) dX7_step_107 rfl rfl ?_
              refine gX7_9 rfl dX7_step_108 (isTp_0 hD) ?_
              refine a_aload_n (i := 0) dX7_step_111 rfl rfl ?_
              refine gX7_31 rfl dX7_step_112 (isTp_0 hD) ?_
              rw [Y3]
              refine a_baldN dX7_step_115 (isTp_2 hD) (by first | with_reducible exact rfl | with_reducible exact ix8 _ _ | with_reducible exact ix12 _ _ | exact rfl) (by omega) (by decide) ?_
              rw [eb]
              refine kX7_50 rfl dX7_step_116 (Nat.le_of_ble_eq_true rfl) (c_X7_isDigit) ?_
              rw [sB_dg _ b256, decide_eq_true rr]
              refine a_if_eq (tg := 129) dX7_step_119 (by decide) (fun c_119 => ?_) (fun c_119 => ?_)
              · exact absurd c_119 (by decide)
              · refine a_aload_n (i := 0) dX7_step_122 rfl rfl ?_
                refine kgX7_53 rfl dX7_step_123 (Nat.le_of_ble_eq_true rfl) (isTp_0 hD) (c_X7_takeNumber hD k Y3 (by omega) Y6) ?_
                rintro v z ⟨rfl, a3, a4, a5, a6, G⟩
                refine a_goto (tg := 159) dX7_step_126 (by decide) ?_
                exact a_vret dX7_step_159 (by exact ⟨rfl, ⟨a3, a4, a5.trans Y5, a6⟩, cSt_t FY G⟩)
            · exact absurd rfl c_97
          · exact absurd ee c_73
        · have r2 : ¬ (48 ≤ B p ∧ B p ≤ 57) := fun g => r (decide_eq_true g)
          rw [if_neg r]
          obtain ⟨U, hU⟩ : ∃ U, U = aWr (aWr Y bTp 4 (nI (sgK (B p)))) bTp 3 (nI (p + 1)) := ⟨_, rfl⟩
          have FU : cSt Y U := by rw [hU]; exact cSt_w (cSt_w (cSt_r Y) (by decide)) (by decide)
          have U3 : U.1 bTp 3 = nI (p + 1) := by rw [hU, aWr_s]
          have U4 : U.1 bTp 4 = nI (sgK (B p)) := by rw [hU, aWr_j _ _ _ (by decide), aWr_s]
          have U5 : U.1 bTp 5 = nI p := by rw [hU, aWr_j _ _ _ (by decide), aWr_j _ _ _ (by decide)]; exact Y5
          have U6 : U.1 bTp 6 = 0 := by rw [hU, aWr_j _ _ _ (by decide), aWr_j _ _ _ (by decide)]; exact Y6
          refine a_aload_n (i := 0) dX7_step_65 rfl rfl ?_
          refine gX7_31 rfl dX7_step_66 (isTp_0 hD) ?_
          rw [Y3]
          refine a_aload_n (i := 0) dX7_step_69 rfl rfl ?_
          refine gX7_28 rfl dX7_step_70 (isTp_0 hD) ?_
          rw [k.1]
          refine a_icmp_lt (tg := 85) dX7_step_73 (by decide) (fun c_73 => ?_) (fun c_73 => ?_)
          · refine a_aload_n (i := 0) dX7_step_85 rfl rfl ?_
            refine gX7_9 rfl dX7_step_86 (isTp_0 hD) ?_
            refine a_aload_n (i := 0) dX7_step_89 rfl rfl ?_
            refine gX7_31 rfl dX7_step_90 (isTp_0 hD) ?_
            rw [Y3]
            refine a_baldN dX7_step_93 (isTp_2 hD) (by first | with_reducible exact rfl | with_reducible exact ix8 _ _ | with_reducible exact ix12 _ _ | exact rfl) (by omega) (by decide) ?_
            rw [eb]
            refine kX7_43 rfl dX7_step_94 (Nat.le_of_ble_eq_true rfl) (c_X7_isLetter) ?_
            rw [sB_lt _ b256, decide_eq_false q2]
            refine a_if_eq (tg := 107) dX7_step_97 (by decide) (fun c_97 => ?_) (fun c_97 => ?_)
            · refine a_aload_n (i := 0) dX7_step_107 rfl rfl ?_
              refine gX7_9 rfl dX7_step_108 (isTp_0 hD) ?_
              refine a_aload_n (i := 0) dX7_step_111 rfl rfl ?_
              refine gX7_31 rfl dX7_step_112 (isTp_0 hD) ?_
              rw [Y3]
              refine a_baldN dX7_step_115 (isTp_2 hD) (by first | with_reducible exact rfl | with_reducible exact ix8 _ _ | with_reducible exact ix12 _ _ | exact rfl) (by omega) (by decide) ?_
              rw [eb]
              refine kX7_50 rfl dX7_step_116 (Nat.le_of_ble_eq_true rfl) (c_X7_isDigit) ?_
              rw [sB_dg _ b256, decide_eq_false r2]
              refine a_if_eq (tg := 129) dX7_step_119 (by decide) (fun c_119 => ?_) (fun c_119 => ?_)
              · refine a_aload_n (i := 0) dX7_step_129 rfl rfl ?_
                refine a_aload_n (i := 0) dX7_step_130 rfl rfl ?_
                refine gX7_9 rfl dX7_step_131 (isTp_0 hD) ?_
                refine a_aload_n (i := 0) dX7_step_134 rfl rfl ?_
                refine gX7_31 rfl dX7_step_135 (isTp_0 hD) ?_
                rw [Y3]
                refine a_baldN dX7_step_138 (isTp_2 hD) (by first | with_reducible exact rfl | with_reducible exact ix8 _ _ | with_reducible exact ix12 _ _ | exact rfl) (by omega) (by decide) ?_
                rw [eb]
                refine kX7_56 rfl dX7_step_139 (Nat.le_of_ble_eq_true rfl) (c_X7_sign) ?_
                rw [sB_sg _ b256]
                refine pX7_15 rfl dX7_step_142 (isTp_0 hD) ?_
                refine a_aload_n (i := 0) dX7_step_145 rfl rfl ?_
                refine a_dup dX7_step_146 rfl ?_
                refine gX7_31 rfl dX7_step_147 (isTp_0 hD) ?_
                rw [aWr_j _ _ _ (by decide), Y3]
                refine a_iconst (v := 1) dX7_step_150 (by decide) ?_
                refine a_iadd dX7_step_151 ?_
                rw [nI_1]
                refine pX7_31 rfl dX7_step_152 (isTp_0 hD) ?_
                rw [← hU]
                refine a_aload_n (i := 0) dX7_step_155 rfl rfl ?_
                refine kgX7_60 rfl dX7_step_156 (Nat.le_of_ble_eq_true rfl) (isTp_0 hD) (c_X7_widenSign hD (cTk_s k FU) (by omega) U3 U4) ?_
                rintro v z ⟨rfl, a3, a4, a5, a6, G⟩
                exact a_vret dX7_step_159 (by exact ⟨rfl, ⟨a3, a4, a5.trans U5, a6.trans U6⟩, cSt_t FY (cSt_t FU G)⟩)
              · exact absurd rfl c_119
            · exact absurd rfl c_97
          · exact absurd ee c_73
  have L : ∀ (f i : Nat), f = n - i → i ≤ n → ∀ y : aS, y.1 bTp 3 = nI i → cSt x y → aV l mX7_step (d + 6) D none 0 [(0, .ref bTp)] [] y (fun v y => v = none ∧ rK (tok B n i) y ∧ cSt x y) := by
    intro f
    induction f with
    | zero =>
      intro i hf hi y y3 F
      have k := cTk_s h F
      unfold tok
      rw [nx_st (by omega)]
      have ee : nI n ≤ nI i := nI_le (by omega) (by omega)
      have e2 := E i hi y y3 F
      refine a_aload_n (i := 0) dX7_step_0 rfl rfl ?_
      refine gX7_31 rfl dX7_step_1 (isTp_0 hD) ?_
      rw [y3]
      refine a_aload_n (i := 0) dX7_step_4 rfl rfl ?_
      refine gX7_28 rfl dX7_step_5 (isTp_0 hD) ?_
      rw [k.1]
      refine a_icmp_ge (tg := 52) dX7_step_8 (by decide) (fun c_8 => ?_) (fun c_8 => ?_)
      · exact a_loc _ rfl e2
      · exact absurd ee c_8
    | succ f ih =>
      intro i hf hi y y3 F
      have k := cTk_s h F
      obtain ⟨b256, eb⟩ := k.2.2 i (by omega)
      obtain ⟨c10, c32, -, -⟩ := sB_eq _ b256
      have ih2 := ih (i + 1) (by omega) (by omega) (aWr y bTp 3 (nI (i + 1))) (aWr_s _ _ _ _) (cSt_w F (by decide))
      unfold tok at ih2 ⊢
      by_cases g1 : B i = 10
      · rw [nx_go (by omega) (decide_eq_true (Or.inl g1))]
        refine a_aload_n (i := 0) dX7_step_0 rfl rfl ?_
        refine gX7_31 rfl dX7_step_1 (isTp_0 hD) ?_
        rw [y3]
        refine a_aload_n (i := 0) dX7_step_4 rfl rfl ?_
        refine gX7_28 rfl dX7_step_5 (isTp_0 hD) ?_
        rw [k.1]
        refine a_icmp_ge (tg := 52) dX7_step_8 (by decide) (fun c_8 => ?_) (fun c_8 => ?_)
        · exact absurd c_8 (nI_ge (by omega) (by omega))
        · refine a_aload_n (i := 0) dX7_step_11 rfl rfl ?_
          refine gX7_9 rfl dX7_step_12 (isTp_0 hD) ?_
          refine a_aload_n (i := 0) dX7_step_15 rfl rfl ?_
          refine gX7_31 rfl dX7_step_16 (isTp_0 hD) ?_
          rw [y3]
          refine a_baldN dX7_step_19 (isTp_2 hD) (by first | with_reducible exact rfl | with_reducible exact ix8 _ _ | with_reducible exact ix12 _ _ | exact rfl) (by omega) (by decide) ?_
          rw [eb]
          refine a_bipush (v := 10) dX7_step_20 (by decide) ?_
          refine a_icmp_eq (tg := 39) dX7_step_22 (by decide) (fun c_22 => ?_) (fun c_22 => ?_)
          · refine a_aload_n (i := 0) dX7_step_39 rfl rfl ?_
            refine a_dup dX7_step_40 rfl ?_
            refine gX7_31 rfl dX7_step_41 (isTp_0 hD) ?_
            rw [y3]
            refine a_iconst (v := 1) dX7_step_44 (by decide) ?_
            refine a_iadd dX7_step_45 ?_
            rw [nI_1]
            refine pX7_31 rfl dX7_step_46 (isTp_0 hD) ?_
            refine a_goto (tg := 0) dX7_step_49 (by decide) ?_
            exact a_loc _ rfl ih2
          · exact absurd (c10.mpr g1) c_22
      · by_cases g2 : B i = 32
        · rw [nx_go (by omega) (decide_eq_true (Or.inr g2))]
          refine a_aload_n (i := 0) dX7_step_0 rfl rfl ?_
          refine gX7_31 rfl dX7_step_1 (isTp_0 hD) ?_
          rw [y3]
          refine a_aload_n (i := 0) dX7_step_4 rfl rfl ?_
          refine gX7_28 rfl dX7_step_5 (isTp_0 hD) ?_
          rw [k.1]
          refine a_icmp_ge (tg := 52) dX7_step_8 (by decide) (fun c_8 => ?_) (fun c_8 => ?_)
          · exact absurd c_8 (nI_ge (by omega) (by omega))
          · refine a_aload_n (i := 0) dX7_step_11 rfl rfl ?_
            refine gX7_9 rfl dX7_step_12 (isTp_0 hD) ?_
            refine a_aload_n (i := 0) dX7_step_15 rfl rfl ?_
            refine gX7_31 rfl dX7_step_16 (isTp_0 hD) ?_
            rw [y3]
            refine a_baldN dX7_step_19 (isTp_2 hD) (by first | with_reducible exact rfl | with_reducible exact ix8 _ _ | with_reducible exact ix12 _ _ | exact rfl) (by omega) (by decide) ?_
            rw [eb]
            refine a_bipush (v := 10) dX7_step_20 (by decide) ?_
            refine a_icmp_eq (tg := 39) dX7_step_22 (by decide) (fun c_22 => ?_) (fun c_22 => ?_)
            · exact absurd (c10.mp c_22) g1
            · refine a_aload_n (i := 0) dX7_step_25 rfl rfl ?_
              refine gX7_9 rfl dX7_step_26 (isTp_0 hD) ?_
              refine a_aload_n (i := 0) dX7_step_29 rfl rfl ?_
              refine gX7_31 rfl dX7_step_30 (isTp_0 hD) ?_
              rw [y3]
              refine a_baldN dX7_step_33 (isTp_2 hD) (by first | with_reducible exact rfl | with_reducible exact ix8 _ _ | with_reducible exact ix12 _ _ | exact rfl) (by omega) (by decide) ?_
              rw [eb]
              refine a_bipush (v := 32) dX7_step_34 (by decide) ?_
              refine a_icmp_ne (tg := 52) dX7_step_36 (by decide) (fun c_36 => ?_) (fun c_36 => ?_)
              · exact absurd (c32.mpr g2) c_36
              · refine a_aload_n (i := 0) dX7_step_39 rfl rfl ?_
                refine a_dup dX7_step_40 rfl ?_
                refine gX7_31 rfl dX7_step_41 (isTp_0 hD) ?_
                rw [y3]
                refine a_iconst (v := 1) dX7_step_44 (by decide) ?_
                refine a_iadd dX7_step_45 ?_
                rw [nI_1]
                refine pX7_31 rfl dX7_step_46 (isTp_0 hD) ?_
                refine a_goto (tg := 0) dX7_step_49 (by decide) ?_
                exact a_loc _ rfl ih2
        · rw [nx_st (fun e => by rcases of_decide_eq_true e.2 with u | u; exact g1 u; exact g2 u)]
          have e2 := E i hi y y3 F
          refine a_aload_n (i := 0) dX7_step_0 rfl rfl ?_
          refine gX7_31 rfl dX7_step_1 (isTp_0 hD) ?_
          rw [y3]
          refine a_aload_n (i := 0) dX7_step_4 rfl rfl ?_
          refine gX7_28 rfl dX7_step_5 (isTp_0 hD) ?_
          rw [k.1]
          refine a_icmp_ge (tg := 52) dX7_step_8 (by decide) (fun c_8 => ?_) (fun c_8 => ?_)
          · exact absurd c_8 (nI_ge (by omega) (by omega))
          · refine a_aload_n (i := 0) dX7_step_11 rfl rfl ?_
            refine gX7_9 rfl dX7_step_12 (isTp_0 hD) ?_
            refine a_aload_n (i := 0) dX7_step_15 rfl rfl ?_
            refine gX7_31 rfl dX7_step_16 (isTp_0 hD) ?_
            rw [y3]
            refine a_baldN dX7_step_19 (isTp_2 hD) (by first | with_reducible exact rfl | with_reducible exact ix8 _ _ | with_reducible exact ix12 _ _ | exact rfl) (by omega) (by decide) ?_
            rw [eb]
            refine a_bipush (v := 10) dX7_step_20 (by decide) ?_
            refine a_icmp_eq (tg := 39) dX7_step_22 (by decide) (fun c_22 => ?_) (fun c_22 => ?_)
            · exact absurd (c10.mp c_22) g1
            · refine a_aload_n (i := 0) dX7_step_25 rfl rfl ?_
              refine gX7_9 rfl dX7_step_26 (isTp_0 hD) ?_
              refine a_aload_n (i := 0) dX7_step_29 rfl rfl ?_
              refine gX7_31 rfl dX7_step_30 (isTp_0 hD) ?_
              rw [y3]
              refine a_baldN dX7_step_33 (isTp_2 hD) (by first | with_reducible exact rfl | with_reducible exact ix8 _ _ | with_reducible exact ix12 _ _ | exact rfl) (by omega) (by decide) ?_
              rw [eb]
              refine a_bipush (v := 32) dX7_step_34 (by decide) ?_
              refine a_icmp_ne (tg := 52) dX7_step_36 (by decide) (fun c_36 => ?_) (fun c_36 => ?_)
              · exact a_loc _ rfl e2
              · exact absurd (c32.mp c_36) g2
  refine a_met (by decide) (Nat.le_of_ble_eq_true rfl) (fun v y q => Or.inr (Or.inr (Or.inr ⟨rfl, q.1⟩))) ?_
  exact a_loc _ rfl (L (n - i) i rfl hi x h3 (cSt_r x))
end qAE
