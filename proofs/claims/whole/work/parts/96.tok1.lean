/-! TOKENS of the class -/
def cTk (n : Nat) (B : Nat → Nat) (x : aS) : Prop := x.1 bTp 2 = nI n ∧ n ≤ 700 ∧ ∀ i, i < n → B i < 256 ∧ x.1 (bTp + 2) i = sB (B i)
def cSt (x y : aS) : Prop := (∀ m j, ¬ (m = bTp ∧ 3 ≤ j ∧ j ≤ 6) → y.1 m j = x.1 m j) ∧ y.2 = x.2
theorem cSt_r (x : aS) : cSt x x := ⟨fun _ _ _ => rfl, rfl⟩
theorem cSt_t {x y z : aS} (h : cSt x y) (g : cSt y z) : cSt x z := ⟨fun m j e => (g.1 m j e).trans (h.1 m j e), g.2.trans h.2⟩
theorem cSt_w {x y : aS} {j : Nat} {v : Int32} (h : cSt x y) (hj : 3 ≤ j ∧ j ≤ 6) : cSt x (aWr y bTp j v) := ⟨fun m k e => by rw [aWr_o _ _ (fun g => e ⟨g.1, by omega, by omega⟩)]; exact h.1 m k e, h.2⟩
theorem cTk_s {n : Nat} {B : Nat → Nat} {x y : aS} (h : cTk n B x) (g : cSt x y) : cTk n B y := ⟨by rw [g.1 _ _ (by omega)]; exact h.1, h.2.1, fun i hi => ⟨(h.2.2 i hi).1, by rw [g.1 _ _ (fun e => absurd e.1 (by decide))]; exact (h.2.2 i hi).2⟩⟩
theorem sB_lt : ∀ b, b < 256 → bI (decide (97 ≤ sB b ∧ sB b ≤ 122)) = bI (decide (97 ≤ b ∧ b ≤ 122)) := by decide +kernel
theorem sB_dg : ∀ b, b < 256 → bI (decide (48 ≤ sB b ∧ sB b ≤ 57)) = bI (decide (48 ≤ b ∧ b ≤ 57)) := by decide +kernel
theorem sB_n : ∀ b, b < 128 → sB b = nI b := by decide +kernel
theorem sB_eq : ∀ b, b < 256 → (sB b = 10 ↔ b = 10) ∧ (sB b = 32 ↔ b = 32) ∧ (sB b = 61 ↔ b = 61) ∧ (sB b = 62 ↔ b = 62) := by decide +kernel
def sgC (c : Int32) : Int32 := if c = 59 then 26 else if c = 40 then 24 else if c = 41 then 25 else if c = 60 then 27 else if c = 61 then 29 else if c = 62 then 32 else if c = 43 then 33 else if c = 45 then 34 else if c = 42 then 35 else if c = 47 then 36 else 38
theorem sB_sg : ∀ b, b < 256 → sgC (sB b) = nI (sgK b) := by decide +kernel
theorem sgK_i : ∀ b, b < 256 → (sgK b = 27 ↔ b = 60) ∧ (sgK b = 32 ↔ b = 62) ∧ sgK b < 39 := by decide +kernel
section qAD
variable {l : Launch} {d : Nat} {D : Nat → Bool} {x : aS} {n : Nat} {B : Nat → Nat} {p : Nat}
set_option maxHeartbeats 4000000 in
set_option maxRecDepth 100000 in
theorem c_X7_isLetter {a : Int32} : aDI l mX7_isLetter d D [.int a] x (bI (decide (97 ≤ a ∧ a ≤ 122))) x := by
  refine a_metZ (by decide) (Nat.le_of_ble_eq_true rfl) rfl (bI_01 _) ?_
  refine a_iload_n (i := 0) dX7_isLetter_0 rfl rfl ?_
  refine a_bipush (v := 97) dX7_isLetter_1 (by decide) ?_
  refine a_icmp_lt (tg := 16) dX7_isLetter_3 (by decide) (fun c_3 => ?_) (fun c_3 => ?_)
  · have q := bI_f (p := 97 ≤ a ∧ a ≤ 122) (fun g => absurd g.1 (Int32.not_le.mpr c_3))
    refine a_iconst (v := 0) dX7_isLetter_16 (by decide) ?_
    exact a_iret dX7_isLetter_17 (by rw [q]; exact ⟨rfl, rfl⟩)
  · refine a_iload_n (i := 0) dX7_isLetter_6 rfl rfl ?_
    refine a_bipush (v := 122) dX7_isLetter_7 (by decide) ?_
    refine a_icmp_gt (tg := 16) dX7_isLetter_9 (by decide) (fun c_9 => ?_) (fun c_9 => ?_)
    · have q := bI_f (p := 97 ≤ a ∧ a ≤ 122) (fun g => absurd g.2 (Int32.not_le.mpr c_9))
      refine a_iconst (v := 0) dX7_isLetter_16 (by decide) ?_
      exact a_iret dX7_isLetter_17 (by rw [q]; exact ⟨rfl, rfl⟩)
    · have q := bI_t (p := 97 ≤ a ∧ a ≤ 122) ⟨Int32.not_lt.mp c_3, Int32.not_lt.mp c_9⟩
      refine a_iconst (v := 1) dX7_isLetter_12 (by decide) ?_
      refine a_goto (tg := 17) dX7_isLetter_13 (by decide) ?_
      exact a_iret dX7_isLetter_17 (by rw [q]; exact ⟨rfl, rfl⟩)
set_option maxHeartbeats 4000000 in
set_option maxRecDepth 100000 in
theorem c_X7_isDigit {a : Int32} : aDI l mX7_isDigit d D [.int a] x (bI (decide (48 ≤ a ∧ a ≤ 57))) x := by
  refine a_metZ (by decide) (Nat.le_of_ble_eq_true rfl) rfl (bI_01 _) ?_
  refine a_iload_n (i := 0) dX7_isDigit_0 rfl rfl ?_
  refine a_bipush (v := 48) dX7_isDigit_1 (by decide) ?_
  refine a_icmp_lt (tg := 16) dX7_isDigit_3 (by decide) (fun c_3 => ?_) (fun c_3 => ?_)
  · have q := bI_f (p := 48 ≤ a ∧ a ≤ 57) (fun g => absurd g.1 (Int32.not_le.mpr c_3))
    refine a_iconst (v := 0) dX7_isDigit_16 (by decide) ?_
    exact a_iret dX7_isDigit_17 (by rw [q]; exact ⟨rfl, rfl⟩)
  · refine a_iload_n (i := 0) dX7_isDigit_6 rfl rfl ?_
    refine a_bipush (v := 57) dX7_isDigit_7 (by decide) ?_
    refine a_icmp_gt (tg := 16) dX7_isDigit_9 (by decide) (fun c_9 => ?_) (fun c_9 => ?_)
    · have q := bI_f (p := 48 ≤ a ∧ a ≤ 57) (fun g => absurd g.2 (Int32.not_le.mpr c_9))
      refine a_iconst (v := 0) dX7_isDigit_16 (by decide) ?_
      exact a_iret dX7_isDigit_17 (by rw [q]; exact ⟨rfl, rfl⟩)
    · have q := bI_t (p := 48 ≤ a ∧ a ≤ 57) ⟨Int32.not_lt.mp c_3, Int32.not_lt.mp c_9⟩
      refine a_iconst (v := 1) dX7_isDigit_12 (by decide) ?_
      refine a_goto (tg := 17) dX7_isDigit_13 (by decide) ?_
      exact a_iret dX7_isDigit_17 (by rw [q]; exact ⟨rfl, rfl⟩)
set_option maxHeartbeats 4000000 in
set_option maxRecDepth 100000 in
theorem c_X7_sign {c : Int32} : aDI l mX7_sign d D [.int c] x (sgC c) x := by
  refine a_metI (by decide) (Nat.le_of_ble_eq_true rfl) rfl ?_
  refine a_iload_n (i := 0) dX7_sign_0 rfl rfl ?_
  refine sX7_sign_1 dX7_sign_1 (fun s_1 => ?_) (fun s_1 => ?_) (fun s_1 => ?_) (fun s_1 => ?_) (fun s_1 => ?_) (fun s_1 => ?_) (fun s_1 => ?_) (fun s_1 => ?_) (fun s_1 => ?_) (fun s_1 => ?_) (fun s_1_0 s_1_1 s_1_2 s_1_3 s_1_4 s_1_5 s_1_6 s_1_7 s_1_8 s_1_9 => ?_)
  · refine a_bipush (v := 24) dX7_sign_111 (by decide) ?_
    exact a_iret dX7_sign_113 (by rw [s_1]; exact ⟨rfl, rfl⟩)
  · refine a_bipush (v := 25) dX7_sign_114 (by decide) ?_
    exact a_iret dX7_sign_116 (by rw [s_1]; exact ⟨rfl, rfl⟩)
  · refine a_bipush (v := 35) dX7_sign_132 (by decide) ?_
    exact a_iret dX7_sign_134 (by rw [s_1]; exact ⟨rfl, rfl⟩)
  · refine a_bipush (v := 33) dX7_sign_126 (by decide) ?_
    exact a_iret dX7_sign_128 (by rw [s_1]; exact ⟨rfl, rfl⟩)
  · refine a_bipush (v := 34) dX7_sign_129 (by decide) ?_
    exact a_iret dX7_sign_131 (by rw [s_1]; exact ⟨rfl, rfl⟩)
  · refine a_bipush (v := 36) dX7_sign_135 (by decide) ?_
    exact a_iret dX7_sign_137 (by rw [s_1]; exact ⟨rfl, rfl⟩)
  · refine a_bipush (v := 26) dX7_sign_108 (by decide) ?_
    exact a_iret dX7_sign_110 (by rw [s_1]; exact ⟨rfl, rfl⟩)
  · refine a_bipush (v := 27) dX7_sign_117 (by decide) ?_
    exact a_iret dX7_sign_119 (by rw [s_1]; exact ⟨rfl, rfl⟩)
  · refine a_bipush (v := 29) dX7_sign_120 (by decide) ?_
    exact a_iret dX7_sign_122 (by rw [s_1]; exact ⟨rfl, rfl⟩)
  · refine a_bipush (v := 32) dX7_sign_123 (by decide) ?_
    exact a_iret dX7_sign_125 (by rw [s_1]; exact ⟨rfl, rfl⟩)
  · refine a_bipush (v := 38) dX7_sign_138 (by decide) ?_
    exact a_iret dX7_sign_140 (by rw [show sgC c = 38 from by unfold sgC; rw [if_neg s_1_6, if_neg s_1_0, if_neg s_1_1, if_neg s_1_7, if_neg s_1_8, if_neg s_1_9, if_neg s_1_3, if_neg s_1_4, if_neg s_1_2, if_neg s_1_5]]; exact ⟨rfl, rfl⟩)
theorem nmC_le (B : Nat → Nat) (p t : Nat) : nmC B p t ≤ 1000000 := by
  cases t with
  | zero => exact Nat.zero_le _
  | succ t => exact Nat.min_le_right _ _
set_option maxHeartbeats 4000000 in
set_option maxRecDepth 100000 in
theorem c_X7_takeNumber (hD : aDC D) (h : cTk n B x) (h3 : x.1 bTp 3 = nI p) (hp : p ≤ n) (h6 : x.1 bTp 6 = 0) : aCt l mX7_takeNumber (d + 1) D [.ref bTp] x (fun v y => v = none ∧ y.1 bTp 3 = nI (nx (bDg B) n p) ∧ y.1 bTp 4 = 23 ∧ y.1 bTp 5 = x.1 bTp 5 ∧ y.1 bTp 6 = nI (nmC B p (nx (bDg B) n p - p)) ∧ cSt x y) := by
  obtain ⟨e, he⟩ : ∃ e, e = nx (bDg B) n p := ⟨_, rfl⟩
  rw [← he]
  have n7 := h.2.1
  have L : ∀ (f t : Nat), f = n - (p + t) → p + t ≤ n → nx (bDg B) n (p + t) = e → ∀ y : aS, y.1 bTp 3 = nI (p + t) → y.1 bTp 5 = x.1 bTp 5 → y.1 bTp 6 = nI (nmC B p t) → cSt x y → aV l mX7_takeNumber (d + 1) D none 0 [(0, .ref bTp)] [] y (fun v y => v = none ∧ y.1 bTp 3 = nI e ∧ y.1 bTp 4 = 23 ∧ y.1 bTp 5 = x.1 bTp 5 ∧ y.1 bTp 6 = nI (nmC B p (e - p)) ∧ cSt x y) := by
    intro f
    induction f with
    | zero =>
      intro t hf ht he y y3 y5 y6 F
      have k := cTk_s h F
      rw [nx_st (by omega)] at he
      have ee : nI n ≤ nI (p + t) := nI_le (by omega) (by omega)
      refine a_aload_n (i := 0) dX7_takeNumber_0 rfl rfl ?_
      refine gX7_31 rfl dX7_takeNumber_1 (isTp_0 hD) ?_
      rw [y3]
      refine a_aload_n (i := 0) dX7_takeNumber_4 rfl rfl ?_
      refine gX7_28 rfl dX7_takeNumber_5 (isTp_0 hD) ?_
      rw [k.1]
      refine a_icmp_ge (tg := 68) dX7_takeNumber_8 (by decide) (fun c_8 => ?_) (fun c_8 => ?_)
      · refine a_aload_n (i := 0) dX7_takeNumber_68 rfl rfl ?_
        refine a_bipush (v := 23) dX7_takeNumber_69 (by decide) ?_
        refine pX7_15 rfl dX7_takeNumber_71 (isTp_0 hD) ?_
        exact a_vret dX7_takeNumber_74 (by exact ⟨rfl, by rw [aWr_j _ _ _ (by decide), ← he]; exact y3, aWr_s _ _ _ _, by rw [aWr_j _ _ _ (by decide)]; exact y5, by rw [aWr_j _ _ _ (by decide), ← he, Nat.add_sub_cancel_left]; exact y6, cSt_w F (by decide)⟩)
      · exact absurd ee c_8
    | succ f ih =>
      intro t hf ht he y y3 y5 y6 F
      have k := cTk_s h F
      obtain ⟨b256, eb⟩ := k.2.2 (p + t) (by omega)
      by_cases q : bDg B (p + t) = true
      · rw [nx_go (by omega) q] at he
        have qq : 48 ≤ B (p + t) ∧ B (p + t) ≤ 57 := of_decide_eq_true q
        have m6 := nmC_le B p t
        have em : (if (1000000 : Int32) < nI (nmC B p t) * 10 + nI (B (p + t)) - 48 then 1000000 else nI (nmC B p t) * 10 + nI (B (p + t)) - 48) = nI (nmC B p (t + 1)) := by
          rw [show (10 : Int32) = nI 10 from rfl, show (48 : Int32) = nI 48 from rfl, pk_mul, nI_add, pk_sub (by omega)]
          exact jmin_n (a := nmC B p t * 10 + B (p + t) - 48) (b := 1000000) (by omega) (by decide)
        have ih2 := ih (t + 1) (by omega) (by omega) he (aWr (aWr y bTp 6 (nI (nmC B p (t + 1)))) bTp 3 (nI (p + t + 1))) (aWr_s _ _ _ _) (by rw [aWr_j _ _ _ (by decide), aWr_j _ _ _ (by decide)]; exact y5) (by rw [aWr_j _ _ _ (by decide), aWr_s]) (cSt_w (cSt_w F (by decide)) (by decide))
        refine a_aload_n (i := 0) dX7_takeNumber_0 rfl rfl ?_
        refine gX7_31 rfl dX7_takeNumber_1 (isTp_0 hD) ?_
        rw [y3]
        refine a_aload_n (i := 0) dX7_takeNumber_4 rfl rfl ?_
        refine gX7_28 rfl dX7_takeNumber_5 (isTp_0 hD) ?_
        rw [k.1]
        refine a_icmp_ge (tg := 68) dX7_takeNumber_8 (by decide) (fun c_8 => ?_) (fun c_8 => ?_)
        · exact absurd c_8 (nI_ge (by omega) (by omega))
        · refine a_aload_n (i := 0) dX7_takeNumber_11 rfl rfl ?_
          refine gX7_9 rfl dX7_takeNumber_12 (isTp_0 hD) ?_
          refine a_aload_n (i := 0) dX7_takeNumber_15 rfl rfl ?_
          refine gX7_31 rfl dX7_takeNumber_16 (isTp_0 hD) ?_
          rw [y3]
          refine a_baldN dX7_takeNumber_19 (isTp_2 hD) (by first | with_reducible exact rfl | with_reducible exact ix8 _ _ | with_reducible exact ix12 _ _ | exact rfl) (by omega) (by decide) ?_
          rw [eb]
          refine kX7_50 rfl dX7_takeNumber_20 (Nat.le_of_ble_eq_true rfl) (c_X7_isDigit) ?_
          rw [sB_dg _ b256, decide_eq_true qq]
          refine a_if_eq (tg := 68) dX7_takeNumber_23 (by decide) (fun c_23 => ?_) (fun c_23 => ?_)
          · exact absurd c_23 (by decide)
          · refine a_aload_n (i := 0) dX7_takeNumber_26 rfl rfl ?_
            refine a_aload_n (i := 0) dX7_takeNumber_27 rfl rfl ?_
            refine gX7_40 rfl dX7_takeNumber_28 (isTp_0 hD) ?_
            rw [y6]
            refine a_bipush (v := 10) dX7_takeNumber_31 (by decide) ?_
            refine a_imul dX7_takeNumber_33 ?_
            refine a_aload_n (i := 0) dX7_takeNumber_34 rfl rfl ?_
            refine gX7_9 rfl dX7_takeNumber_35 (isTp_0 hD) ?_
            refine a_aload_n (i := 0) dX7_takeNumber_38 rfl rfl ?_
            refine gX7_31 rfl dX7_takeNumber_39 (isTp_0 hD) ?_
            rw [y3]
            refine a_baldN dX7_takeNumber_42 (isTp_2 hD) (by first | with_reducible exact rfl | with_reducible exact ix8 _ _ | with_reducible exact ix12 _ _ | exact rfl) (by omega) (by decide) ?_
            rw [eb, sB_n _ (by omega)]
            refine a_iadd dX7_takeNumber_43 ?_
            refine a_bipush (v := 48) dX7_takeNumber_44 (by decide) ?_
            refine a_isub dX7_takeNumber_46 ?_
            refine a_ldc (v := 1000000) dX7_takeNumber_47 (oX7_77 rfl) ?_
            refine kX7_22 rfl dX7_takeNumber_49 (Nat.le_of_ble_eq_true rfl) ?_
            rw [em]
            refine pX7_40 rfl dX7_takeNumber_52 (isTp_0 hD) ?_
            refine a_aload_n (i := 0) dX7_takeNumber_55 rfl rfl ?_
            refine a_dup dX7_takeNumber_56 rfl ?_
            refine gX7_31 rfl dX7_takeNumber_57 (isTp_0 hD) ?_
            rw [aWr_j _ _ _ (by decide), y3]
            refine a_iconst (v := 1) dX7_takeNumber_60 (by decide) ?_
            refine a_iadd dX7_takeNumber_61 ?_
            rw [nI_1]
            refine pX7_31 rfl dX7_takeNumber_62 (isTp_0 hD) ?_
            refine a_goto (tg := 0) dX7_takeNumber_65 (by decide) ?_
            exact a_loc _ rfl ih2
      · have q2 : ¬ (48 ≤ B (p + t) ∧ B (p + t) ≤ 57) := fun g => q (decide_eq_true g)
        rw [nx_st (fun g => q g.2)] at he
        refine a_aload_n (i := 0) dX7_takeNumber_0 rfl rfl ?_
        refine gX7_31 rfl dX7_takeNumber_1 (isTp_0 hD) ?_
        rw [y3]
        refine a_aload_n (i := 0) dX7_takeNumber_4 rfl rfl ?_
        refine gX7_28 rfl dX7_takeNumber_5 (isTp_0 hD) ?_
        rw [k.1]
        refine a_icmp_ge (tg := 68) dX7_takeNumber_8 (by decide) (fun c_8 => ?_) (fun c_8 => ?_)
        · exact absurd c_8 (nI_ge (by omega) (by omega))
        · refine a_aload_n (i := 0) dX7_takeNumber_11 rfl rfl ?_
          refine gX7_9 rfl dX7_takeNumber_12 (isTp_0 hD) ?_
          refine a_aload_n (i := 0) dX7_takeNumber_15 rfl rfl ?_
          refine gX7_31 rfl dX7_takeNumber_16 (isTp_0 hD) ?_
          rw [y3]
          refine a_baldN dX7_takeNumber_19 (isTp_2 hD) (by first | with_reducible exact rfl | with_reducible exact ix8 _ _ | with_reducible exact ix12 _ _ | exact rfl) (by omega) (by decide) ?_
          rw [eb]
          refine kX7_50 rfl dX7_takeNumber_20 (Nat.le_of_ble_eq_true rfl) (c_X7_isDigit) ?_
          rw [sB_dg _ b256, decide_eq_false q2]
          refine a_if_eq (tg := 68) dX7_takeNumber_23 (by decide) (fun c_23 => ?_) (fun c_23 => ?_)
          · refine a_aload_n (i := 0) dX7_takeNumber_68 rfl rfl ?_
            refine a_bipush (v := 23) dX7_takeNumber_69 (by decide) ?_
            refine pX7_15 rfl dX7_takeNumber_71 (isTp_0 hD) ?_
            exact a_vret dX7_takeNumber_74 (by exact ⟨rfl, by rw [aWr_j _ _ _ (by decide), ← he]; exact y3, aWr_s _ _ _ _, by rw [aWr_j _ _ _ (by decide)]; exact y5, by rw [aWr_j _ _ _ (by decide), ← he, Nat.add_sub_cancel_left]; exact y6, cSt_w F (by decide)⟩)
          · exact absurd rfl c_23
  refine a_met (by decide) (Nat.le_of_ble_eq_true rfl) (fun v y q => Or.inr (Or.inr (Or.inr ⟨rfl, q.1⟩))) ?_
  exact a_loc _ rfl (L (n - (p + 0)) 0 rfl hp he.symm x h3 rfl h6 (cSt_r x))
set_option maxHeartbeats 4000000 in
set_option maxRecDepth 100000 in
theorem c_X7_widenSign (hD : aDC D) (h : cTk n B x) (hp : p < n) (h3 : x.1 bTp 3 = nI (p + 1)) (h4 : x.1 bTp 4 = nI (sgK (B p))) : aCt l mX7_widenSign d D [.ref bTp] x (fun v y => v = none ∧ y.1 bTp 3 = nI (sgW B n p).2 ∧ y.1 bTp 4 = nI (sgW B n p).1 ∧ y.1 bTp 5 = x.1 bTp 5 ∧ y.1 bTp 6 = x.1 bTp 6 ∧ cSt x y) := by
  have n7 := h.2.1
  have b256 := (h.2.2 p hp).1
  obtain ⟨s1, s2, s3⟩ := sgK_i _ b256
  have R : sgW B n p = (sgK (B p), p + 1) → x.1 bTp 3 = nI (sgW B n p).2 ∧ x.1 bTp 4 = nI (sgW B n p).1 ∧ x.1 bTp 5 = x.1 bTp 5 ∧ x.1 bTp 6 = x.1 bTp 6 ∧ cSt x x := fun g => by
    rw [g]; exact ⟨h3, h4, rfl, rfl, cSt_r x⟩
  have R2 : ∀ k, sgW B n p = (k, p + 2) → (aWr (aWr x bTp 4 (nI k)) bTp 3 (nI (p + 1 + 1))).1 bTp 3 = nI (sgW B n p).2 ∧ (aWr (aWr x bTp 4 (nI k)) bTp 3 (nI (p + 1 + 1))).1 bTp 4 = nI (sgW B n p).1 ∧ (aWr (aWr x bTp 4 (nI k)) bTp 3 (nI (p + 1 + 1))).1 bTp 5 = x.1 bTp 5 ∧ (aWr (aWr x bTp 4 (nI k)) bTp 3 (nI (p + 1 + 1))).1 bTp 6 = x.1 bTp 6 ∧ cSt x (aWr (aWr x bTp 4 (nI k)) bTp 3 (nI (p + 1 + 1))) := fun k g => by
    rw [g]; exact ⟨aWr_s _ _ _ _, by rw [aWr_j _ _ _ (by decide), aWr_s], by rw [aWr_j _ _ _ (by decide), aWr_j _ _ _ (by decide)], by rw [aWr_j _ _ _ (by decide), aWr_j _ _ _ (by decide)], cSt_w (cSt_w (cSt_r x) (by decide)) (by decide)⟩
  refine a_met (by decide) (Nat.le_of_ble_eq_true rfl) (fun v y q => Or.inr (Or.inr (Or.inr ⟨rfl, q.1⟩))) ?_
  by_cases g : p + 1 < n
  · obtain ⟨c256, ec⟩ := h.2.2 (p + 1) g
    obtain ⟨-, -, c61, c62⟩ := sB_eq _ c256
    by_cases b60 : B p = 60
    · have k27 : x.1 bTp 4 = 27 := by rw [h4, s1.mpr b60]; rfl
      by_cases q61 : B (p + 1) = 61
      · have r := R2 28 (by unfold sgW; rw [if_pos ⟨g, b60, q61⟩])
        refine a_aload_n (i := 0) dX7_widenSign_0 rfl rfl ?_
        refine gX7_31 rfl dX7_widenSign_1 (isTp_0 hD) ?_
        rw [h3]
        refine a_aload_n (i := 0) dX7_widenSign_4 rfl rfl ?_
        refine gX7_28 rfl dX7_widenSign_5 (isTp_0 hD) ?_
        rw [h.1]
        refine a_icmp_ge (tg := 29) dX7_widenSign_8 (by decide) (fun c_8 => ?_) (fun c_8 => ?_)
        · exact absurd c_8 (nI_ge g (by omega))
        · refine a_aload_n (i := 0) dX7_widenSign_11 rfl rfl ?_
          refine gX7_15 rfl dX7_widenSign_12 (isTp_0 hD) ?_
          rw [k27]
          refine a_bipush (v := 27) dX7_widenSign_15 (by decide) ?_
          refine a_icmp_eq (tg := 30) dX7_widenSign_17 (by decide) (fun c_17 => ?_) (fun c_17 => ?_)
          · refine a_aload_n (i := 0) dX7_widenSign_30 rfl rfl ?_
            refine gX7_9 rfl dX7_widenSign_31 (isTp_0 hD) ?_
            refine a_aload_n (i := 0) dX7_widenSign_34 rfl rfl ?_
            refine gX7_31 rfl dX7_widenSign_35 (isTp_0 hD) ?_
            rw [h3]
            refine a_baldN dX7_widenSign_38 (isTp_2 hD) (by first | with_reducible exact rfl | with_reducible exact ix8 _ _ | with_reducible exact ix12 _ _ | exact rfl) (by omega) (by decide) ?_
            rw [ec, c61.mpr q61]
            refine a_bipush (v := 61) dX7_widenSign_39 (by decide) ?_
            refine a_icmp_ne (tg := 77) dX7_widenSign_41 (by decide) (fun c_41 => ?_) (fun c_41 => ?_)
            · exact absurd rfl c_41
            · refine a_aload_n (i := 0) dX7_widenSign_44 rfl rfl ?_
              refine a_aload_n (i := 0) dX7_widenSign_45 rfl rfl ?_
              refine gX7_15 rfl dX7_widenSign_46 (isTp_0 hD) ?_
              rw [k27]
              refine a_bipush (v := 27) dX7_widenSign_49 (by decide) ?_
              refine a_icmp_ne (tg := 59) dX7_widenSign_51 (by decide) (fun c_51 => ?_) (fun c_51 => ?_)
              · exact absurd rfl c_51
              · refine a_bipush (v := 28) dX7_widenSign_54 (by decide) ?_
                refine a_goto (tg := 61) dX7_widenSign_56 (by decide) ?_
                refine pX7_15 rfl dX7_widenSign_61 (isTp_0 hD) ?_
                refine a_aload_n (i := 0) dX7_widenSign_64 rfl rfl ?_
                refine a_dup dX7_widenSign_65 rfl ?_
                refine gX7_31 rfl dX7_widenSign_66 (isTp_0 hD) ?_
                rw [aWr_j _ _ _ (by decide), h3]
                refine a_iconst (v := 1) dX7_widenSign_69 (by decide) ?_
                refine a_iadd dX7_widenSign_70 ?_
                rw [nI_1]
                refine pX7_31 rfl dX7_widenSign_71 (isTp_0 hD) ?_
                refine a_goto (tg := 116) dX7_widenSign_74 (by decide) ?_
                exact a_vret dX7_widenSign_116 (by exact ⟨rfl, r⟩)
          · exact absurd rfl c_17
      · by_cases q62 : B (p + 1) = 62
        · have r := R2 30 (by unfold sgW; rw [if_neg (fun e => q61 e.2.2), if_neg (fun e => q61 e.2.2), if_pos ⟨g, b60, q62⟩])
          refine a_aload_n (i := 0) dX7_widenSign_0 rfl rfl ?_
          refine gX7_31 rfl dX7_widenSign_1 (isTp_0 hD) ?_
          rw [h3]
          refine a_aload_n (i := 0) dX7_widenSign_4 rfl rfl ?_
          refine gX7_28 rfl dX7_widenSign_5 (isTp_0 hD) ?_
          rw [h.1]
          refine a_icmp_ge (tg := 29) dX7_widenSign_8 (by decide) (fun c_8 => ?_) (fun c_8 => ?_)
          · exact absurd c_8 (nI_ge g (by omega))
          · refine a_aload_n (i := 0) dX7_widenSign_11 rfl rfl ?_
            refine gX7_15 rfl dX7_widenSign_12 (isTp_0 hD) ?_
            rw [k27]
            refine a_bipush (v := 27) dX7_widenSign_15 (by decide) ?_
            refine a_icmp_eq (tg := 30) dX7_widenSign_17 (by decide) (fun c_17 => ?_) (fun c_17 => ?_)
            · refine a_aload_n (i := 0) dX7_widenSign_30 rfl rfl ?_
              refine gX7_9 rfl dX7_widenSign_31 (isTp_0 hD) ?_
              refine a_aload_n (i := 0) dX7_widenSign_34 rfl rfl ?_
              refine gX7_31 rfl dX7_widenSign_35 (isTp_0 hD) ?_
              rw [h3]
              refine a_baldN dX7_widenSign_38 (isTp_2 hD) (by first | with_reducible exact rfl | with_reducible exact ix8 _ _ | with_reducible exact ix12 _ _ | exact rfl) (by omega) (by decide) ?_
              rw [ec]
              refine a_bipush (v := 61) dX7_widenSign_39 (by decide) ?_
              refine a_icmp_ne (tg := 77) dX7_widenSign_41 (by decide) (fun c_41 => ?_) (fun c_41 => ?_)
              · refine a_aload_n (i := 0) dX7_widenSign_77 rfl rfl ?_
                refine gX7_9 rfl dX7_widenSign_78 (isTp_0 hD) ?_
                refine a_aload_n (i := 0) dX7_widenSign_81 rfl rfl ?_
                refine gX7_31 rfl dX7_widenSign_82 (isTp_0 hD) ?_
                rw [h3]
                refine a_baldN dX7_widenSign_85 (isTp_2 hD) (by first | with_reducible exact rfl | with_reducible exact ix8 _ _ | with_reducible exact ix12 _ _ | exact rfl) (by omega) (by decide) ?_
                rw [ec]
                refine a_bipush (v := 62) dX7_widenSign_86 (by decide) ?_
                refine a_icmp_ne (tg := 116) dX7_widenSign_88 (by decide) (fun c_88 => ?_) (fun c_88 => ?_)
                · exact absurd (c62.mpr q62) c_88
                · refine a_aload_n (i := 0) dX7_widenSign_91 rfl rfl ?_
                  refine gX7_15 rfl dX7_widenSign_92 (isTp_0 hD) ?_
                  rw [k27]
                  refine a_bipush (v := 27) dX7_widenSign_95 (by decide) ?_
                  refine a_icmp_ne (tg := 116) dX7_widenSign_97 (by decide) (fun c_97 => ?_) (fun c_97 => ?_)
                  · exact absurd rfl c_97
                  · refine a_aload_n (i := 0) dX7_widenSign_100 rfl rfl ?_
                    refine a_bipush (v := 30) dX7_widenSign_101 (by decide) ?_
                    refine pX7_15 rfl dX7_widenSign_103 (isTp_0 hD) ?_
                    refine a_aload_n (i := 0) dX7_widenSign_106 rfl rfl ?_
                    refine a_dup dX7_widenSign_107 rfl ?_
                    refine gX7_31 rfl dX7_widenSign_108 (isTp_0 hD) ?_
                    rw [aWr_j _ _ _ (by decide), h3]
                    refine a_iconst (v := 1) dX7_widenSign_111 (by decide) ?_
                    refine a_iadd dX7_widenSign_112 ?_
                    rw [nI_1]
                    refine pX7_31 rfl dX7_widenSign_113 (isTp_0 hD) ?_
                    exact a_vret dX7_widenSign_116 (by exact ⟨rfl, r⟩)
              · exact absurd (c61.mp c_41) q61
            · exact absurd rfl c_17
        · have r := R (by unfold sgW; rw [if_neg (fun e => q61 e.2.2), if_neg (fun e => q61 e.2.2), if_neg (fun e => q62 e.2.2)])
          refine a_aload_n (i := 0) dX7_widenSign_0 rfl rfl ?_
          refine gX7_31 rfl dX7_widenSign_1 (isTp_0 hD) ?_
          rw [h3]
          refine a_aload_n (i := 0) dX7_widenSign_4 rfl rfl ?_
          refine gX7_28 rfl dX7_widenSign_5 (isTp_0 hD) ?_
          rw [h.1]
          refine a_icmp_ge (tg := 29) dX7_widenSign_8 (by decide) (fun c_8 => ?_) (fun c_8 => ?_)
          · exact absurd c_8 (nI_ge g (by omega))
          · refine a_aload_n (i := 0) dX7_widenSign_11 rfl rfl ?_
            refine gX7_15 rfl dX7_widenSign_12 (isTp_0 hD) ?_
            rw [k27]
            refine a_bipush (v := 27) dX7_widenSign_15 (by decide) ?_
            refine a_icmp_eq (tg := 30) dX7_widenSign_17 (by decide) (fun c_17 => ?_) (fun c_17 => ?_)
            · refine a_aload_n (i := 0) dX7_widenSign_30 rfl rfl ?_
              refine gX7_9 rfl dX7_widenSign_31 (isTp_0 hD) ?_
              refine a_aload_n (i := 0) dX7_widenSign_34 rfl rfl ?_
              refine gX7_31 rfl dX7_widenSign_35 (isTp_0 hD) ?_
              rw [h3]
              refine a_baldN dX7_widenSign_38 (isTp_2 hD) (by first | with_reducible exact rfl | with_reducible exact ix8 _ _ | with_reducible exact ix12 _ _ | exact rfl) (by omega) (by decide) ?_
              rw [ec]
              refine a_bipush (v := 61) dX7_widenSign_39 (by decide) ?_
              refine a_icmp_ne (tg := 77) dX7_widenSign_41 (by decide) (fun c_41 => ?_) (fun c_41 => ?_)
              · refine a_aload_n (i := 0) dX7_widenSign_77 rfl rfl ?_
                refine gX7_9 rfl dX7_widenSign_78 (isTp_0 hD) ?_
                refine a_aload_n (i := 0) dX7_widenSign_81 rfl rfl ?_
                refine gX7_31 rfl dX7_widenSign_82 (isTp_0 hD) ?_
                rw [h3]
                refine a_baldN dX7_widenSign_85 (isTp_2 hD) (by first | with_reducible exact rfl | with_reducible exact ix8 _ _ | with_reducible exact ix12 _ _ | exact rfl) (by omega) (by decide) ?_
                rw [ec]
                refine a_bipush (v := 62) dX7_widenSign_86 (by decide) ?_
                refine a_icmp_ne (tg := 116) dX7_widenSign_88 (by decide) (fun c_88 => ?_) (fun c_88 => ?_)
                · exact a_vret dX7_widenSign_116 (by exact ⟨rfl, r⟩)
                · exact absurd (c62.mp c_88) q62
              · exact absurd (c61.mp c_41) q61
            · exact absurd rfl c_17
    · have k27 : ¬ x.1 bTp 4 = 27 := by rw [h4]; exact fun e => b60 (s1.mp ((nI_eq (b := 27) (by omega) (by decide)).mp e))
      by_cases b62 : B p = 62
      · have k32 : x.1 bTp 4 = 32 := by rw [h4, s2.mpr b62]; rfl
        by_cases q61 : B (p + 1) = 61
        · have r := R2 31 (by unfold sgW; rw [if_neg (fun e => b60 e.2.1), if_pos ⟨g, b62, q61⟩])
          refine a_aload_n (i := 0) dX7_widenSign_0 rfl rfl ?_
          refine gX7_31 rfl dX7_widenSign_1 (isTp_0 hD) ?_
          rw [h3]
          refine a_aload_n (i := 0) dX7_widenSign_4 rfl rfl ?_
          refine gX7_28 rfl dX7_widenSign_5 (isTp_0 hD) ?_
          rw [h.1]
          refine a_icmp_ge (tg := 29) dX7_widenSign_8 (by decide) (fun c_8 => ?_) (fun c_8 => ?_)
          · exact absurd c_8 (nI_ge g (by omega))
          · refine a_aload_n (i := 0) dX7_widenSign_11 rfl rfl ?_
            refine gX7_15 rfl dX7_widenSign_12 (isTp_0 hD) ?_
            refine a_bipush (v := 27) dX7_widenSign_15 (by decide) ?_
            refine a_icmp_eq (tg := 30) dX7_widenSign_17 (by decide) (fun c_17 => ?_) (fun c_17 => ?_)
            · exact absurd c_17 k27
            · refine a_aload_n (i := 0) dX7_widenSign_20 rfl rfl ?_
              refine gX7_15 rfl dX7_widenSign_21 (isTp_0 hD) ?_
              refine a_bipush (v := 32) dX7_widenSign_24 (by decide) ?_
              refine a_icmp_eq (tg := 30) dX7_widenSign_26 (by decide) (fun c_26 => ?_) (fun c_26 => ?_)
              · refine a_aload_n (i := 0) dX7_widenSign_30 rfl rfl ?_
                refine gX7_9 rfl dX7_widenSign_31 (isTp_0 hD) ?_
                refine a_aload_n (i := 0) dX7_widenSign_34 rfl rfl ?_
                refine gX7_31 rfl dX7_widenSign_35 (isTp_0 hD) ?_
                rw [h3]
                refine a_baldN dX7_widenSign_38 (isTp_2 hD) (by first | with_reducible exact rfl | with_reducible exact ix8 _ _ | with_reducible exact ix12 _ _ | exact rfl) (by omega) (by decide) ?_
                rw [ec, c61.mpr q61]
                refine a_bipush (v := 61) dX7_widenSign_39 (by decide) ?_
                refine a_icmp_ne (tg := 77) dX7_widenSign_41 (by decide) (fun c_41 => ?_) (fun c_41 => ?_)
                · exact absurd rfl c_41
                · refine a_aload_n (i := 0) dX7_widenSign_44 rfl rfl ?_
                  refine a_aload_n (i := 0) dX7_widenSign_45 rfl rfl ?_
                  refine gX7_15 rfl dX7_widenSign_46 (isTp_0 hD) ?_
                  refine a_bipush (v := 27) dX7_widenSign_49 (by decide) ?_
                  refine a_icmp_ne (tg := 59) dX7_widenSign_51 (by decide) (fun c_51 => ?_) (fun c_51 => ?_)
                  · refine a_bipush (v := 31) dX7_widenSign_59 (by decide) ?_
                    refine pX7_15 rfl dX7_widenSign_61 (isTp_0 hD) ?_
                    refine a_aload_n (i := 0) dX7_widenSign_64 rfl rfl ?_
                    refine a_dup dX7_widenSign_65 rfl ?_
                    refine gX7_31 rfl dX7_widenSign_66 (isTp_0 hD) ?_
                    rw [aWr_j _ _ _ (by decide), h3]
                    refine a_iconst (v := 1) dX7_widenSign_69 (by decide) ?_
                    refine a_iadd dX7_widenSign_70 ?_
                    rw [nI_1]
                    refine pX7_31 rfl dX7_widenSign_71 (isTp_0 hD) ?_
                    refine a_goto (tg := 116) dX7_widenSign_74 (by decide) ?_
                    exact a_vret dX7_widenSign_116 (by exact ⟨rfl, r⟩)
                  · exact absurd c_51 k27
              · exact absurd k32 c_26
        · have r := R (by unfold sgW; rw [if_neg (fun e => q61 e.2.2), if_neg (fun e => q61 e.2.2), if_neg (fun e => b60 e.2.1)])
          refine a_aload_n (i := 0) dX7_widenSign_0 rfl rfl ?_
          refine gX7_31 rfl dX7_widenSign_1 (isTp_0 hD) ?_
          rw [h3]
          refine a_aload_n (i := 0) dX7_widenSign_4 rfl rfl ?_
          refine gX7_28 rfl dX7_widenSign_5 (isTp_0 hD) ?_
          rw [h.1]
          refine a_icmp_ge (tg := 29) dX7_widenSign_8 (by decide) (fun c_8 => ?_) (fun c_8 => ?_)
          · exact absurd c_8 (nI_ge g (by omega))
          · refine a_aload_n (i := 0) dX7_widenSign_11 rfl rfl ?_
            refine gX7_15 rfl dX7_widenSign_12 (isTp_0 hD) ?_
            refine a_bipush (v := 27) dX7_widenSign_15 (by decide) ?_
            refine a_icmp_eq (tg := 30) dX7_widenSign_17 (by decide) (fun c_17 => ?_) (fun c_17 => ?_)
            · exact absurd c_17 k27
            · refine a_aload_n (i := 0) dX7_widenSign_20 rfl rfl ?_
              refine gX7_15 rfl dX7_widenSign_21 (isTp_0 hD) ?_
              refine a_bipush (v := 32) dX7_widenSign_24 (by decide) ?_
              refine a_icmp_eq (tg := 30) dX7_widenSign_26 (by decide) (fun c_26 => ?_) (fun c_26 => ?_)
              · refine a_aload_n (i := 0) dX7_widenSign_30 rfl rfl ?_
                refine gX7_9 rfl dX7_widenSign_31 (isTp_0 hD) ?_
                refine a_aload_n (i := 0) dX7_widenSign_34 rfl rfl ?_
                refine gX7_31 rfl dX7_widenSign_35 (isTp_0 hD) ?_
                rw [h3]
                refine a_baldN dX7_widenSign_38 (isTp_2 hD) (by first | with_reducible exact rfl | with_reducible exact ix8 _ _ | with_reducible exact ix12 _ _ | exact rfl) (by omega) (by decide) ?_
                rw [ec]
                refine a_bipush (v := 61) dX7_widenSign_39 (by decide) ?_
                refine a_icmp_ne (tg := 77) dX7_widenSign_41 (by decide) (fun c_41 => ?_) (fun c_41 => ?_)
                · refine a_aload_n (i := 0) dX7_widenSign_77 rfl rfl ?_
                  refine gX7_9 rfl dX7_widenSign_78 (isTp_0 hD) ?_
                  refine a_aload_n (i := 0) dX7_widenSign_81 rfl rfl ?_
                  refine gX7_31 rfl dX7_widenSign_82 (isTp_0 hD) ?_
                  rw [h3]
                  refine a_baldN dX7_widenSign_85 (isTp_2 hD) (by first | with_reducible exact rfl | with_reducible exact ix8 _ _ | with_reducible exact ix12 _ _ | exact rfl) (by omega) (by decide) ?_
                  rw [ec]
                  refine a_bipush (v := 62) dX7_widenSign_86 (by decide) ?_
                  refine a_icmp_ne (tg := 116) dX7_widenSign_88 (by decide) (fun c_88 => ?_) (fun c_88 => ?_)
                  · exact a_vret dX7_widenSign_116 (by exact ⟨rfl, r⟩)
                  · refine a_aload_n (i := 0) dX7_widenSign_91 rfl rfl ?_
                    refine gX7_15 rfl dX7_widenSign_92 (isTp_0 hD) ?_
                    refine a_bipush (v := 27) dX7_widenSign_95 (by decide) ?_
                    refine a_icmp_ne (tg := 116) dX7_widenSign_97 (by decide) (fun c_97 => ?_) (fun c_97 => ?_)
                    · exact a_vret dX7_widenSign_116 (by exact ⟨rfl, r⟩)
                    · exact absurd c_97 k27
                · exact absurd (c61.mp c_41) q61
              · exact absurd k32 c_26
      · have k32 : ¬ x.1 bTp 4 = 32 := by rw [h4]; exact fun e => b62 (s2.mp ((nI_eq (b := 32) (by omega) (by decide)).mp e))
        have r := R (by unfold sgW; rw [if_neg (fun e => b60 e.2.1), if_neg (fun e => b62 e.2.1), if_neg (fun e => b60 e.2.1)])
        refine a_aload_n (i := 0) dX7_widenSign_0 rfl rfl ?_
        refine gX7_31 rfl dX7_widenSign_1 (isTp_0 hD) ?_
        rw [h3]
        refine a_aload_n (i := 0) dX7_widenSign_4 rfl rfl ?_
        refine gX7_28 rfl dX7_widenSign_5 (isTp_0 hD) ?_
        rw [h.1]
        refine a_icmp_ge (tg := 29) dX7_widenSign_8 (by decide) (fun c_8 => ?_) (fun c_8 => ?_)
        · exact absurd c_8 (nI_ge g (by omega))
        · refine a_aload_n (i := 0) dX7_widenSign_11 rfl rfl ?_
          refine gX7_15 rfl dX7_widenSign_12 (isTp_0 hD) ?_
          refine a_bipush (v := 27) dX7_widenSign_15 (by decide) ?_
          refine a_icmp_eq (tg := 30) dX7_widenSign_17 (by decide) (fun c_17 => ?_) (fun c_17 => ?_)
          · exact absurd c_17 k27
          · refine a_aload_n (i := 0) dX7_widenSign_20 rfl rfl ?_
            refine gX7_15 rfl dX7_widenSign_21 (isTp_0 hD) ?_
            refine a_bipush (v := 32) dX7_widenSign_24 (by decide) ?_
            refine a_icmp_eq (tg := 30) dX7_widenSign_26 (by decide) (fun c_26 => ?_) (fun c_26 => ?_)
            · exact absurd c_26 k32
            · exact a_vret dX7_widenSign_29 (by exact ⟨rfl, r⟩)
  · have r := R (by unfold sgW; rw [if_neg (fun e => g e.1), if_neg (fun e => g e.1), if_neg (fun e => g e.1)])
    have ee : nI n ≤ nI (p + 1) := nI_le (by omega) (by omega)
    refine a_aload_n (i := 0) dX7_widenSign_0 rfl rfl ?_
    refine gX7_31 rfl dX7_widenSign_1 (isTp_0 hD) ?_
    rw [h3]
    refine a_aload_n (i := 0) dX7_widenSign_4 rfl rfl ?_
    refine gX7_28 rfl dX7_widenSign_5 (isTp_0 hD) ?_
    rw [h.1]
    refine a_icmp_ge (tg := 29) dX7_widenSign_8 (by decide) (fun c_8 => ?_) (fun c_8 => ?_)
    · exact a_vret dX7_widenSign_29 (by exact ⟨rfl, r⟩)
    · exact absurd ee c_8
end qAD
