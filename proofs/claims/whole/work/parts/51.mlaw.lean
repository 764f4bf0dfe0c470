/-! LastHouseModel: laws -/
def bI (e : Bool) : Int32 := if e then 1 else 0
theorem bI_01 (e : Bool) : bI e = 0 ∨ bI e = 1 := by cases e <;> simp [bI]
theorem bI_z (e : Bool) : bI e = 0 ↔ e = false := by cases e <;> simp [bI]
theorem aWr_id (x : aS) (n j : Nat) (v : Int32) (h : x.1 n j = v) : aWr x n j v = x := by
  unfold aWr
  have : (fun a => if a = n then (fun i => if i = j then v else x.1 n i) else x.1 a) = x.1 := by
    funext a
    by_cases ha : a = n
    · subst ha
      rw [if_pos rfl]
      funext i
      by_cases hi : i = j
      · subst hi; rw [if_pos rfl, h]
      · rw [if_neg hi]
    · rw [if_neg ha]
  rw [this]
def mB : Int64 := 1000000000000
def mBd (r : Int64) (e : Bool) : Int64 × Bool := (if (e || decide (mB < r) || decide (r < -mB)) then 0 else r, e || decide (mB < r) || decide (r < -mB))
def mTm (a b : Int64) (e : Bool) : Int64 × Bool := (if (e || decide (a ≠ 0 ∧ b ≠ 0 ∧ mB / labs a < labs b)) then 0 else a * b, e || decide (a ≠ 0 ∧ b ≠ 0 ∧ mB / labs a < labs b))
def mCmp (c : Int32) (a b : Int64) : Bool := if c = 5 then decide (a < b) else if c = 6 then decide (a ≤ b) else if c = 7 then decide (a = b) else if c = 8 then decide (a ≠ b) else if c = 9 then decide (b ≤ a) else decide (b < a)
def mNode (c p : Int32) (nm a b : Int64) (e : Bool) : Int64 × Bool :=
  if c = 0 then (p.toInt64, e) else if c = 1 then (nm, e) else if c = 2 then (if a = 0 then 1 else 0, e)
  else if c = 3 then (if a ≠ 0 ∧ b ≠ 0 then 1 else 0, e) else if c = 4 then (if a ≠ 0 ∨ b ≠ 0 then 1 else 0, e)
  else if c = 11 then mBd (a + b) e else if c = 12 then mBd (a - b) e else if c = 13 then mTm a b e
  else if c = 14 then (if (e || decide (b = 0)) then 0 else a / b, e || decide (b = 0))
  else (if mCmp c a b then 1 else 0, e)
set_option maxHeartbeats 4000000 in
set_option maxRecDepth 100000 in
theorem c_X12_compares {l : Launch} {d : Nat} {D : Nat → Bool} {c : Int32} {a b : Int64} {x : aS} : aDI l mX12_compares d D [.int c, .long a, .long b] x (bI (mCmp c a b)) x := by
  refine a_metZ (by decide) (Nat.le_of_ble_eq_true rfl) rfl (bI_01 _) ?_
  refine a_iload_n (i := 0) dX12_compares_0 rfl rfl ?_
  refine sX12_compares_1 dX12_compares_1 (fun s_1 => ?_) (fun s_1 => ?_) (fun s_1 => ?_) (fun s_1 => ?_) (fun s_1 => ?_) (fun s_1_0 s_1_1 s_1_2 s_1_3 s_1_4 => ?_)
  · refine a_lload_n (i := 1) dX12_compares_36 rfl rfl ?_
    refine a_lload_n (i := 3) dX12_compares_37 rfl rfl ?_
    refine a_lcmp dX12_compares_38 ?_
    refine a_if_ge (tg := 46) dX12_compares_39 (by decide) (fun c_39 => ?_) (fun c_39 => ?_)
    · refine a_iconst (v := 0) dX12_compares_46 (by decide) ?_
      exact a_iret dX12_compares_47 (by simp_all [mCmp, bI, lg_cmp_eq, lg_cmp_lt, lg_cmp_le, lg_cmp_gt, lg_cmp_ge, l_not_lt, l_not_le])
    · refine a_iconst (v := 1) dX12_compares_42 (by decide) ?_
      refine a_goto (tg := 47) dX12_compares_43 (by decide) ?_
      exact a_iret dX12_compares_47 (by simp_all [mCmp, bI, lg_cmp_eq, lg_cmp_lt, lg_cmp_le, lg_cmp_gt, lg_cmp_ge, l_not_lt, l_not_le])
  · refine a_lload_n (i := 1) dX12_compares_48 rfl rfl ?_
    refine a_lload_n (i := 3) dX12_compares_49 rfl rfl ?_
    refine a_lcmp dX12_compares_50 ?_
    refine a_if_gt (tg := 58) dX12_compares_51 (by decide) (fun c_51 => ?_) (fun c_51 => ?_)
    · refine a_iconst (v := 0) dX12_compares_58 (by decide) ?_
      exact a_iret dX12_compares_59 (by simp_all [mCmp, bI, lg_cmp_eq, lg_cmp_lt, lg_cmp_le, lg_cmp_gt, lg_cmp_ge, l_not_lt, l_not_le])
    · refine a_iconst (v := 1) dX12_compares_54 (by decide) ?_
      refine a_goto (tg := 59) dX12_compares_55 (by decide) ?_
      exact a_iret dX12_compares_59 (by simp_all [mCmp, bI, lg_cmp_eq, lg_cmp_lt, lg_cmp_le, lg_cmp_gt, lg_cmp_ge, l_not_lt, l_not_le])
  · refine a_lload_n (i := 1) dX12_compares_60 rfl rfl ?_
    refine a_lload_n (i := 3) dX12_compares_61 rfl rfl ?_
    refine a_lcmp dX12_compares_62 ?_
    refine a_if_ne (tg := 70) dX12_compares_63 (by decide) (fun c_63 => ?_) (fun c_63 => ?_)
    · refine a_iconst (v := 0) dX12_compares_70 (by decide) ?_
      exact a_iret dX12_compares_71 (by simp_all [mCmp, bI, lg_cmp_eq, lg_cmp_lt, lg_cmp_le, lg_cmp_gt, lg_cmp_ge, l_not_lt, l_not_le])
    · refine a_iconst (v := 1) dX12_compares_66 (by decide) ?_
      refine a_goto (tg := 71) dX12_compares_67 (by decide) ?_
      exact a_iret dX12_compares_71 (by simp_all [mCmp, bI, lg_cmp_eq, lg_cmp_lt, lg_cmp_le, lg_cmp_gt, lg_cmp_ge, l_not_lt, l_not_le])
  · refine a_lload_n (i := 1) dX12_compares_72 rfl rfl ?_
    refine a_lload_n (i := 3) dX12_compares_73 rfl rfl ?_
    refine a_lcmp dX12_compares_74 ?_
    refine a_if_eq (tg := 82) dX12_compares_75 (by decide) (fun c_75 => ?_) (fun c_75 => ?_)
    · refine a_iconst (v := 0) dX12_compares_82 (by decide) ?_
      exact a_iret dX12_compares_83 (by simp_all [mCmp, bI, lg_cmp_eq, lg_cmp_lt, lg_cmp_le, lg_cmp_gt, lg_cmp_ge, l_not_lt, l_not_le])
    · refine a_iconst (v := 1) dX12_compares_78 (by decide) ?_
      refine a_goto (tg := 83) dX12_compares_79 (by decide) ?_
      exact a_iret dX12_compares_83 (by simp_all [mCmp, bI, lg_cmp_eq, lg_cmp_lt, lg_cmp_le, lg_cmp_gt, lg_cmp_ge, l_not_lt, l_not_le])
  · refine a_lload_n (i := 1) dX12_compares_84 rfl rfl ?_
    refine a_lload_n (i := 3) dX12_compares_85 rfl rfl ?_
    refine a_lcmp dX12_compares_86 ?_
    refine a_if_lt (tg := 94) dX12_compares_87 (by decide) (fun c_87 => ?_) (fun c_87 => ?_)
    · refine a_iconst (v := 0) dX12_compares_94 (by decide) ?_
      exact a_iret dX12_compares_95 (by simp_all [mCmp, bI, lg_cmp_eq, lg_cmp_lt, lg_cmp_le, lg_cmp_gt, lg_cmp_ge, l_not_lt, l_not_le])
    · refine a_iconst (v := 1) dX12_compares_90 (by decide) ?_
      refine a_goto (tg := 95) dX12_compares_91 (by decide) ?_
      exact a_iret dX12_compares_95 (by simp_all [mCmp, bI, lg_cmp_eq, lg_cmp_lt, lg_cmp_le, lg_cmp_gt, lg_cmp_ge, l_not_lt, l_not_le])
  · refine a_lload_n (i := 1) dX12_compares_96 rfl rfl ?_
    refine a_lload_n (i := 3) dX12_compares_97 rfl rfl ?_
    refine a_lcmp dX12_compares_98 ?_
    refine a_if_le (tg := 106) dX12_compares_99 (by decide) (fun c_99 => ?_) (fun c_99 => ?_)
    · refine a_iconst (v := 0) dX12_compares_106 (by decide) ?_
      exact a_iret dX12_compares_107 (by simp_all [mCmp, bI, lg_cmp_eq, lg_cmp_lt, lg_cmp_le, lg_cmp_gt, lg_cmp_ge, l_not_lt, l_not_le])
    · refine a_iconst (v := 1) dX12_compares_102 (by decide) ?_
      refine a_goto (tg := 107) dX12_compares_103 (by decide) ?_
      exact a_iret dX12_compares_107 (by simp_all [mCmp, bI, lg_cmp_eq, lg_cmp_lt, lg_cmp_le, lg_cmp_gt, lg_cmp_ge, l_not_lt, l_not_le])
set_option maxHeartbeats 4000000 in
set_option maxRecDepth 100000 in
theorem c_X12_bounded {l : Launch} {d : Nat} {D : Nat → Bool} {r : Int64} {e : Bool} {x : aS} (hM : D 12 = true) (he : x.1 bM 58 = bI e) : aDJ l mX12_bounded d D [.ref bM, .long r] x (mBd r e).1 (aWr x bM 58 (bI (mBd r e).2)) := by
  refine a_metJ (by decide) (Nat.le_of_ble_eq_true rfl) rfl ?_
  have K1 : (e || decide (mB < r) || decide (r < -mB)) = true → aV l mX12_bounded d D none 24 [(0, .ref bM), (1, .long r)] [.ref bM] x (fun v z => v = some (.long (mBd r e).1) ∧ z = aWr x bM 58 (bI (mBd r e).2)) := by
    intro h
    unfold mBd
    rw [h]
    refine a_iconst (v := 1) dX12_bounded_24 (by decide) ?_
    refine a_goto (tg := 29) dX12_bounded_25 (by decide) ?_
    refine pX12_369 rfl dX12_bounded_29 (by exact isM_0 hM) (by first | exact Or.inl rfl | exact Or.inr rfl | assumption) ?_
    refine a_aload_n (i := 0) dX12_bounded_32 rfl rfl ?_
    refine gX12_369 rfl dX12_bounded_33 (isM_0 hM) ?_
    rw [aWr_s]
    refine a_if_eq (tg := 43) dX12_bounded_36 (by decide) (fun c_36 => ?_) (fun c_36 => ?_)
    · exact absurd c_36 (by decide)
    · refine a_lconst (v := 0) dX12_bounded_39 (by decide) ?_
      refine a_goto (tg := 44) dX12_bounded_40 (by decide) ?_
      exact a_lret dX12_bounded_44 (by exact ⟨rfl, rfl⟩)
  have K0 : (e || decide (mB < r) || decide (r < -mB)) = false → aV l mX12_bounded d D none 28 [(0, .ref bM), (1, .long r)] [.ref bM] x (fun v z => v = some (.long (mBd r e).1) ∧ z = aWr x bM 58 (bI (mBd r e).2)) := by
    intro h
    unfold mBd
    rw [h]
    refine a_iconst (v := 0) dX12_bounded_28 (by decide) ?_
    refine pX12_369 rfl dX12_bounded_29 (by exact isM_0 hM) (by first | exact Or.inl rfl | exact Or.inr rfl | assumption) ?_
    refine a_aload_n (i := 0) dX12_bounded_32 rfl rfl ?_
    refine gX12_369 rfl dX12_bounded_33 (isM_0 hM) ?_
    rw [aWr_s]
    refine a_if_eq (tg := 43) dX12_bounded_36 (by decide) (fun c_36 => ?_) (fun c_36 => ?_)
    · refine a_lload_n (i := 1) dX12_bounded_43 rfl rfl ?_
      exact a_lret dX12_bounded_44 (by exact ⟨rfl, rfl⟩)
    · exact absurd rfl c_36
  refine a_aload_n (i := 0) dX12_bounded_0 rfl rfl ?_
  refine a_aload_n (i := 0) dX12_bounded_1 rfl rfl ?_
  refine gX12_369 rfl dX12_bounded_2 (isM_0 hM) ?_
  rw [he]
  refine a_if_ne (tg := 24) dX12_bounded_5 (by decide) (fun c_5 => ?_) (fun c_5 => ?_)
  · have e1 : e = true := by cases e; exact absurd rfl c_5; rfl
    exact a_loc _ rfl (K1 (by simp_all))
  · have e1 : e = false := (bI_z e).mp c_5
    refine a_lload_n (i := 1) dX12_bounded_8 rfl rfl ?_
    refine a_ldc2 (v := 1000000000000) dX12_bounded_9 (oX12_372 rfl) ?_
    refine a_lcmp dX12_bounded_12 ?_
    refine a_if_gt (tg := 24) dX12_bounded_13 (by decide) (fun c_13 => ?_) (fun c_13 => ?_)
    · have e2 : mB < r := (lg_cmp_gt _ _).mp c_13
      exact a_loc _ rfl (K1 (by simp_all))
    · have e2 : ¬ mB < r := fun h => c_13 ((lg_cmp_gt _ _).mpr h)
      refine a_lload_n (i := 1) dX12_bounded_16 rfl rfl ?_
      refine a_ldc2 (v := (-1000000000000)) dX12_bounded_17 (oX12_374 rfl) ?_
      refine a_lcmp dX12_bounded_20 ?_
      refine a_if_ge (tg := 28) dX12_bounded_21 (by decide) (fun c_21 => ?_) (fun c_21 => ?_)
      · have e3 : ¬ r < -mB := l_not_lt.mpr ((lg_cmp_ge _ _).mp c_21)
        exact a_loc _ rfl (K0 (by simp_all))
      · have e3 : r < -mB := l_not_le.mp (fun h => c_21 ((lg_cmp_ge _ _).mpr h))
        exact a_loc _ rfl (K1 (by simp_all))
set_option maxHeartbeats 4000000 in
set_option maxRecDepth 100000 in
theorem c_X12_times {l : Launch} {d : Nat} {D : Nat → Bool} {a b : Int64} {e : Bool} {x : aS} (hM : D 12 = true) (he : x.1 bM 58 = bI e) : aDJ l mX12_times d D [.ref bM, .long a, .long b] x (mTm a b e).1 (aWr x bM 58 (bI (mTm a b e).2)) := by
  refine a_metJ (by decide) (Nat.le_of_ble_eq_true rfl) rfl ?_
  have G : aV l mX12_times d D none 49 [(0, .ref bM), (1, .long a), (3, .long b)] [.int (bI (decide (a ≠ 0 ∧ b ≠ 0 ∧ mB / labs a < labs b)))] x (fun v z => v = some (.long (mTm a b e).1) ∧ z = aWr x bM 58 (bI (mTm a b e).2)) := by
    unfold mTm
    generalize decide (a ≠ 0 ∧ b ≠ 0 ∧ mB / labs a < labs b) = f
    have K1 : (e || f) = true → aV l mX12_times d D none 64 [(0, .ref bM), (1, .long a), (3, .long b)] [.ref bM] x (fun v z => v = some (.long (if (e || f) then 0 else a * b)) ∧ z = aWr x bM 58 (bI (e || f))) := by
      intro h
      rw [h]
      refine a_iconst (v := 1) dX12_times_64 (by decide) ?_
      refine a_goto (tg := 69) dX12_times_65 (by decide) ?_
      refine pX12_369 rfl dX12_times_69 (by exact isM_0 hM) (by first | exact Or.inl rfl | exact Or.inr rfl | assumption) ?_
      refine a_aload_n (i := 0) dX12_times_72 rfl rfl ?_
      refine gX12_369 rfl dX12_times_73 (isM_0 hM) ?_
      rw [aWr_s]
      refine a_if_eq (tg := 83) dX12_times_76 (by decide) (fun c_76 => ?_) (fun c_76 => ?_)
      · exact absurd c_76 (by decide)
      · refine a_lconst (v := 0) dX12_times_79 (by decide) ?_
        refine a_goto (tg := 86) dX12_times_80 (by decide) ?_
        exact a_lret dX12_times_86 (by exact ⟨rfl, rfl⟩)
    have K0 : (e || f) = false → aV l mX12_times d D none 68 [(0, .ref bM), (1, .long a), (3, .long b)] [.ref bM] x (fun v z => v = some (.long (if (e || f) then 0 else a * b)) ∧ z = aWr x bM 58 (bI (e || f))) := by
      intro h
      rw [h]
      refine a_iconst (v := 0) dX12_times_68 (by decide) ?_
      refine pX12_369 rfl dX12_times_69 (by exact isM_0 hM) (by first | exact Or.inl rfl | exact Or.inr rfl | assumption) ?_
      refine a_aload_n (i := 0) dX12_times_72 rfl rfl ?_
      refine gX12_369 rfl dX12_times_73 (isM_0 hM) ?_
      rw [aWr_s]
      refine a_if_eq (tg := 83) dX12_times_76 (by decide) (fun c_76 => ?_) (fun c_76 => ?_)
      · refine a_lload_n (i := 1) dX12_times_83 rfl rfl ?_
        refine a_lload_n (i := 3) dX12_times_84 rfl rfl ?_
        refine a_lmul dX12_times_85 ?_
        exact a_lret dX12_times_86 (by exact ⟨rfl, rfl⟩)
      · exact absurd rfl c_76
    refine a_istore (i := 5) dX12_times_49 (by decide) ?_
    refine a_aload_n (i := 0) dX12_times_51 rfl rfl ?_
    refine a_aload_n (i := 0) dX12_times_52 rfl rfl ?_
    refine gX12_369 rfl dX12_times_53 (isM_0 hM) ?_
    rw [he]
    refine a_if_ne (tg := 64) dX12_times_56 (by decide) (fun c_56 => ?_) (fun c_56 => ?_)
    · have e1 : e = true := by cases e; exact absurd rfl c_56; rfl
      exact a_loc _ rfl (K1 (by simp_all))
    · have e1 : e = false := (bI_z e).mp c_56
      refine a_iload (i := 5) dX12_times_59 rfl ?_
      refine a_if_eq (tg := 68) dX12_times_61 (by decide) (fun c_61 => ?_) (fun c_61 => ?_)
      · have f1 : f = false := (bI_z f).mp c_61
        exact a_loc _ rfl (K0 (by simp_all))
      · have f1 : f = true := by cases f; exact absurd rfl c_61; rfl
        exact a_loc _ rfl (K1 (by simp_all))
  refine a_lload_n (i := 1) dX12_times_0 rfl rfl ?_
  refine a_lconst (v := 0) dX12_times_1 (by decide) ?_
  refine a_lcmp dX12_times_2 ?_
  refine a_if_eq (tg := 48) dX12_times_3 (by decide) (fun c_3 => ?_) (fun c_3 => ?_)
  · have g : bI (decide (a ≠ 0 ∧ b ≠ 0 ∧ mB / labs a < labs b)) = 0 := (bI_z _).mpr (decide_eq_false (fun h => h.1 ((lg_cmp_eq _ _).mp c_3)))
    refine a_iconst (v := 0) dX12_times_48 (by decide) ?_
    rw [g] at G; exact a_loc _ rfl G
  · refine a_lload_n (i := 3) dX12_times_6 rfl rfl ?_
    refine a_lconst (v := 0) dX12_times_7 (by decide) ?_
    refine a_lcmp dX12_times_8 ?_
    refine a_if_eq (tg := 48) dX12_times_9 (by decide) (fun c_9 => ?_) (fun c_9 => ?_)
    · have g : bI (decide (a ≠ 0 ∧ b ≠ 0 ∧ mB / labs a < labs b)) = 0 := (bI_z _).mpr (decide_eq_false (fun h => h.2.1 ((lg_cmp_eq _ _).mp c_9)))
      refine a_iconst (v := 0) dX12_times_48 (by decide) ?_
      rw [g] at G; exact a_loc _ rfl G
    · refine a_lload_n (i := 3) dX12_times_12 rfl rfl ?_
      refine a_lconst (v := 0) dX12_times_13 (by decide) ?_
      refine a_lcmp dX12_times_14 ?_
      refine a_if_ge (tg := 23) dX12_times_15 (by decide) (fun c_15 => ?_) (fun c_15 => ?_)
      · have eb : labs b = b := if_neg (l_not_lt.mpr ((lg_cmp_ge b 0).mp c_15))
        refine a_lload_n (i := 3) dX12_times_23 rfl rfl ?_
        refine a_ldc2 (v := 1000000000000) dX12_times_24 (oX12_372 rfl) ?_
        refine a_lload_n (i := 1) dX12_times_27 rfl rfl ?_
        refine a_lconst (v := 0) dX12_times_28 (by decide) ?_
        refine a_lcmp dX12_times_29 ?_
        refine a_if_ge (tg := 38) dX12_times_30 (by decide) (fun c_30 => ?_) (fun c_30 => ?_)
        · have ea : labs a = a := if_neg (l_not_lt.mpr ((lg_cmp_ge a 0).mp c_30))
          refine a_lload_n (i := 1) dX12_times_38 rfl rfl ?_
          refine a_ldiv dX12_times_39 (by intro q; exact labs_ne (fun h => c_3 ((lg_cmp_eq a 0).mpr h)) (ea.trans q)) ?_
          refine a_lcmp dX12_times_40 ?_
          refine a_if_le (tg := 48) dX12_times_41 (by decide) (fun c_41 => ?_) (fun c_41 => ?_)
          · have g : bI (decide (a ≠ 0 ∧ b ≠ 0 ∧ mB / labs a < labs b)) = 0 := (bI_z _).mpr (decide_eq_false (fun h => absurd h.2.2 (l_not_lt.mpr (by rw [ea, eb]; exact (lg_cmp_le _ _).mp c_41))))
            refine a_iconst (v := 0) dX12_times_48 (by decide) ?_
            rw [g] at G; exact a_loc _ rfl G
          · have g : bI (decide (a ≠ 0 ∧ b ≠ 0 ∧ mB / labs a < labs b)) = 1 := by rw [decide_eq_true (⟨fun h => c_3 ((lg_cmp_eq _ _).mpr h), fun h => c_9 ((lg_cmp_eq _ _).mpr h), by rw [ea, eb]; exact l_not_le.mp (fun h => c_41 ((lg_cmp_le _ _).mpr h))⟩ : a ≠ 0 ∧ b ≠ 0 ∧ mB / labs a < labs b)]; rfl
            refine a_iconst (v := 1) dX12_times_44 (by decide) ?_
            refine a_goto (tg := 49) dX12_times_45 (by decide) ?_
            rw [g] at G; exact a_loc _ rfl G
        · have ea : labs a = -a := if_pos (l_not_le.mp (fun h => c_30 ((lg_cmp_ge a 0).mpr h)))
          refine a_lload_n (i := 1) dX12_times_33 rfl rfl ?_
          refine a_lneg dX12_times_34 ?_
          refine a_goto (tg := 39) dX12_times_35 (by decide) ?_
          refine a_ldiv dX12_times_39 (by intro q; exact labs_ne (fun h => c_3 ((lg_cmp_eq a 0).mpr h)) (ea.trans q)) ?_
          refine a_lcmp dX12_times_40 ?_
          refine a_if_le (tg := 48) dX12_times_41 (by decide) (fun c_41 => ?_) (fun c_41 => ?_)
          · have g : bI (decide (a ≠ 0 ∧ b ≠ 0 ∧ mB / labs a < labs b)) = 0 := (bI_z _).mpr (decide_eq_false (fun h => absurd h.2.2 (l_not_lt.mpr (by rw [ea, eb]; exact (lg_cmp_le _ _).mp c_41))))
            refine a_iconst (v := 0) dX12_times_48 (by decide) ?_
            rw [g] at G; exact a_loc _ rfl G
          · have g : bI (decide (a ≠ 0 ∧ b ≠ 0 ∧ mB / labs a < labs b)) = 1 := by rw [decide_eq_true (⟨fun h => c_3 ((lg_cmp_eq _ _).mpr h), fun h => c_9 ((lg_cmp_eq _ _).mpr h), by rw [ea, eb]; exact l_not_le.mp (fun h => c_41 ((lg_cmp_le _ _).mpr h))⟩ : a ≠ 0 ∧ b ≠ 0 ∧ mB / labs a < labs b)]; rfl
            refine a_iconst (v := 1) dX12_times_44 (by decide) ?_
            refine a_goto (tg := 49) dX12_times_45 (by decide) ?_
            rw [g] at G; exact a_loc _ rfl G
      · have eb : labs b = -b := if_pos (l_not_le.mp (fun h => c_15 ((lg_cmp_ge b 0).mpr h)))
        refine a_lload_n (i := 3) dX12_times_18 rfl rfl ?_
        refine a_lneg dX12_times_19 ?_
        refine a_goto (tg := 24) dX12_times_20 (by decide) ?_
        refine a_ldc2 (v := 1000000000000) dX12_times_24 (oX12_372 rfl) ?_
        refine a_lload_n (i := 1) dX12_times_27 rfl rfl ?_
        refine a_lconst (v := 0) dX12_times_28 (by decide) ?_
        refine a_lcmp dX12_times_29 ?_
        refine a_if_ge (tg := 38) dX12_times_30 (by decide) (fun c_30 => ?_) (fun c_30 => ?_)
        · have ea : labs a = a := if_neg (l_not_lt.mpr ((lg_cmp_ge a 0).mp c_30))
          refine a_lload_n (i := 1) dX12_times_38 rfl rfl ?_
          refine a_ldiv dX12_times_39 (by intro q; exact labs_ne (fun h => c_3 ((lg_cmp_eq a 0).mpr h)) (ea.trans q)) ?_
          refine a_lcmp dX12_times_40 ?_
          refine a_if_le (tg := 48) dX12_times_41 (by decide) (fun c_41 => ?_) (fun c_41 => ?_)
          · have g : bI (decide (a ≠ 0 ∧ b ≠ 0 ∧ mB / labs a < labs b)) = 0 := (bI_z _).mpr (decide_eq_false (fun h => absurd h.2.2 (l_not_lt.mpr (by rw [ea, eb]; exact (lg_cmp_le _ _).mp c_41))))
            refine a_iconst (v := 0) dX12_times_48 (by decide) ?_
            rw [g] at G; exact a_loc _ rfl G
          · have g : bI (decide (a ≠ 0 ∧ b ≠ 0 ∧ mB / labs a < labs b)) = 1 := by rw [decide_eq_true (⟨fun h => c_3 ((lg_cmp_eq _ _).mpr h), fun h => c_9 ((lg_cmp_eq _ _).mpr h), by rw [ea, eb]; exact l_not_le.mp (fun h => c_41 ((lg_cmp_le _ _).mpr h))⟩ : a ≠ 0 ∧ b ≠ 0 ∧ mB / labs a < labs b)]; rfl
            refine a_iconst (v := 1) dX12_times_44 (by decide) ?_
            refine a_goto (tg := 49) dX12_times_45 (by decide) ?_
            rw [g] at G; exact a_loc _ rfl G
        · have ea : labs a = -a := if_pos (l_not_le.mp (fun h => c_30 ((lg_cmp_ge a 0).mpr h)))
          refine a_lload_n (i := 1) dX12_times_33 rfl rfl ?_
          refine a_lneg dX12_times_34 ?_
          refine a_goto (tg := 39) dX12_times_35 (by decide) ?_
          refine a_ldiv dX12_times_39 (by intro q; exact labs_ne (fun h => c_3 ((lg_cmp_eq a 0).mpr h)) (ea.trans q)) ?_
          refine a_lcmp dX12_times_40 ?_
          refine a_if_le (tg := 48) dX12_times_41 (by decide) (fun c_41 => ?_) (fun c_41 => ?_)
          · have g : bI (decide (a ≠ 0 ∧ b ≠ 0 ∧ mB / labs a < labs b)) = 0 := (bI_z _).mpr (decide_eq_false (fun h => absurd h.2.2 (l_not_lt.mpr (by rw [ea, eb]; exact (lg_cmp_le _ _).mp c_41))))
            refine a_iconst (v := 0) dX12_times_48 (by decide) ?_
            rw [g] at G; exact a_loc _ rfl G
          · have g : bI (decide (a ≠ 0 ∧ b ≠ 0 ∧ mB / labs a < labs b)) = 1 := by rw [decide_eq_true (⟨fun h => c_3 ((lg_cmp_eq _ _).mpr h), fun h => c_9 ((lg_cmp_eq _ _).mpr h), by rw [ea, eb]; exact l_not_le.mp (fun h => c_41 ((lg_cmp_le _ _).mpr h))⟩ : a ≠ 0 ∧ b ≠ 0 ∧ mB / labs a < labs b)]; rfl
            refine a_iconst (v := 1) dX12_times_44 (by decide) ?_
            refine a_goto (tg := 49) dX12_times_45 (by decide) ?_
            rw [g] at G; exact a_loc _ rfl G
theorem mN_0 (p : Int32) (nm a b : Int64) (e : Bool) : mNode 0 p nm a b e = (p.toInt64, e) := by simp [mNode]
theorem mN_1 (p : Int32) (nm a b : Int64) (e : Bool) : mNode 1 p nm a b e = (nm, e) := by simp [mNode]
theorem mN_2 (p : Int32) (nm a b : Int64) (e : Bool) : mNode 2 p nm a b e = (if a = 0 then 1 else 0, e) := by simp [mNode]
theorem mN_3 (p : Int32) (nm a b : Int64) (e : Bool) : mNode 3 p nm a b e = (if a ≠ 0 ∧ b ≠ 0 then 1 else 0, e) := by simp [mNode]
theorem mN_4 (p : Int32) (nm a b : Int64) (e : Bool) : mNode 4 p nm a b e = (if a ≠ 0 ∨ b ≠ 0 then 1 else 0, e) := by simp [mNode]
theorem mN_11 (p : Int32) (nm a b : Int64) (e : Bool) : mNode 11 p nm a b e = mBd (a + b) e := by simp [mNode]
theorem mN_12 (p : Int32) (nm a b : Int64) (e : Bool) : mNode 12 p nm a b e = mBd (a - b) e := by simp [mNode]
theorem mN_13 (p : Int32) (nm a b : Int64) (e : Bool) : mNode 13 p nm a b e = mTm a b e := by simp [mNode]
theorem mN_14 (p : Int32) (nm a b : Int64) (e : Bool) : mNode 14 p nm a b e = (if (e || decide (b = 0)) then 0 else a / b, e || decide (b = 0)) := by simp [mNode]
theorem mN_d {c : Int32} (p : Int32) (nm a b : Int64) (e : Bool) (h0 : ¬ c = 0) (h1 : ¬ c = 1) (h2 : ¬ c = 2) (h3 : ¬ c = 3) (h4 : ¬ c = 4) (h5 : ¬ c = 11) (h6 : ¬ c = 12) (h7 : ¬ c = 13) (h8 : ¬ c = 14) : mNode c p nm a b e = (if mCmp c a b then 1 else 0, e) := by simp [mNode, h0, h1, h2, h3, h4, h5, h6, h7, h8]
set_option maxHeartbeats 4000000 in
set_option maxRecDepth 100000 in
theorem c_X12_valueOf {l : Launch} {d : Nat} {D : Nat → Bool} {k P O : Nat} {c : Int32} {e : Bool} {x : aS} (hM : D 12 = true) (he : x.1 bM 58 = bI e) (hk : k < 64) (hc : x.1 (bM + 46) k = c) (h1 : ¬ c = 0 → x.1 (bM + 47) k = nI P ∧ P < 64 ∧ (c = 1 → P < 7)) (h2 : ¬ c = 0 → ¬ c = 1 → ¬ c = 2 → x.1 (bM + 48) k = nI O ∧ O < 64) : aDJ l mX12_valueOf (d + 1) D [.ref bM, .int (nI k)] x (mNode c (x.1 (bM + 47) k) (x.2 (bM + 57) P) (x.2 (bM + 58) P) (x.2 (bM + 58) O) e).1 (aWr x bM 58 (bI (mNode c (x.1 (bM + 47) k) (x.2 (bM + 57) P) (x.2 (bM + 58) P) (x.2 (bM + 58) O) e).2)) := by
  have keep : x = aWr x bM 58 (bI e) := (aWr_id _ _ _ _ he).symm
  -- division
  have V1 : ∀ a b : Int64, (e || decide (b = 0)) = true → aV l mX12_valueOf (d + 1) D none 235 [(0, .ref bM), (2, .long a), (4, .long b)] [.ref bM] x (fun v z => v = some (.long 0) ∧ z = aWr x bM 58 (bI true)) := by
    intro a b h
    refine a_iconst (v := 1) dX12_valueOf_235 (by decide) ?_
    refine a_goto (tg := 240) dX12_valueOf_236 (by decide) ?_
    refine pX12_369 rfl dX12_valueOf_240 (by exact isM_0 hM) (by first | exact Or.inl rfl | exact Or.inr rfl | assumption) ?_
    refine a_aload_n (i := 0) dX12_valueOf_243 rfl rfl ?_
    refine gX12_369 rfl dX12_valueOf_244 (isM_0 hM) ?_
    rw [aWr_s]
    refine a_if_eq (tg := 254) dX12_valueOf_247 (by decide) (fun c_247 => ?_) (fun c_247 => ?_)
    · exact absurd c_247 (by decide)
    · refine a_lconst (v := 0) dX12_valueOf_250 (by decide) ?_
      refine a_goto (tg := 258) dX12_valueOf_251 (by decide) ?_
      exact a_lret dX12_valueOf_258 (by exact ⟨rfl, rfl⟩)
  have V0 : ∀ a b : Int64, ¬ b = 0 → aV l mX12_valueOf (d + 1) D none 239 [(0, .ref bM), (2, .long a), (4, .long b)] [.ref bM] x (fun v z => v = some (.long (a / b)) ∧ z = aWr x bM 58 (bI false)) := by
    intro a b h
    refine a_iconst (v := 0) dX12_valueOf_239 (by decide) ?_
    refine pX12_369 rfl dX12_valueOf_240 (by exact isM_0 hM) (by first | exact Or.inl rfl | exact Or.inr rfl | assumption) ?_
    refine a_aload_n (i := 0) dX12_valueOf_243 rfl rfl ?_
    refine gX12_369 rfl dX12_valueOf_244 (isM_0 hM) ?_
    rw [aWr_s]
    refine a_if_eq (tg := 254) dX12_valueOf_247 (by decide) (fun c_247 => ?_) (fun c_247 => ?_)
    · refine a_lload_n (i := 2) dX12_valueOf_254 rfl rfl ?_
      refine a_lload (i := 4) dX12_valueOf_255 rfl ?_
      refine a_ldiv dX12_valueOf_257 (by exact h) ?_
      exact a_lret dX12_valueOf_258 (by exact ⟨rfl, rfl⟩)
    · exact absurd rfl c_247
  refine a_metJ (by decide) (Nat.le_of_ble_eq_true rfl) rfl ?_
  refine a_aload_n (i := 0) dX12_valueOf_0 rfl rfl ?_
  refine gX12_84 rfl dX12_valueOf_1 (isM_0 hM) ?_
  refine a_iload_n (i := 1) dX12_valueOf_4 rfl rfl ?_
  refine a_ialdN dX12_valueOf_5 (isM_46 hM) (by first | with_reducible exact rfl | with_reducible exact ix8 _ _ | with_reducible exact ix12 _ _ | exact rfl) (by omega) (by decide) ?_
  rw [hc]
  refine a_if_ne (tg := 17) dX12_valueOf_6 (by decide) (fun c_6 => ?_) (fun c_6 => ?_)
  · refine a_aload_n (i := 0) dX12_valueOf_17 rfl rfl ?_
    refine gX12_84 rfl dX12_valueOf_18 (isM_0 hM) ?_
    refine a_iload_n (i := 1) dX12_valueOf_21 rfl rfl ?_
    refine a_ialdN dX12_valueOf_22 (isM_46 hM) (by first | with_reducible exact rfl | with_reducible exact ix8 _ _ | with_reducible exact ix12 _ _ | exact rfl) (by omega) (by decide) ?_
    rw [hc]
    refine a_iconst (v := 1) dX12_valueOf_23 (by decide) ?_
    refine a_icmp_ne (tg := 39) dX12_valueOf_24 (by decide) (fun c_24 => ?_) (fun c_24 => ?_)
    · refine a_aload_n (i := 0) dX12_valueOf_39 rfl rfl ?_
      refine gX12_103 rfl dX12_valueOf_40 (isM_0 hM) ?_
      refine a_aload_n (i := 0) dX12_valueOf_43 rfl rfl ?_
      refine gX12_87 rfl dX12_valueOf_44 (isM_0 hM) ?_
      refine a_iload_n (i := 1) dX12_valueOf_47 rfl rfl ?_
      refine a_ialdN dX12_valueOf_48 (isM_47 hM) (by first | with_reducible exact rfl | with_reducible exact ix8 _ _ | with_reducible exact ix12 _ _ | exact rfl) (by omega) (by decide) ?_
      rw [(h1 c_6).1]
      refine a_laldN dX12_valueOf_49 (isM_58 hM) (by first | with_reducible exact rfl | with_reducible exact ix8 _ _ | with_reducible exact ix12 _ _ | exact rfl) (by exact (h1 c_6).2.1) (by decide) ?_
      refine a_lstore_n (i := 2) dX12_valueOf_50 rfl (by decide) ?_
      refine a_aload_n (i := 0) dX12_valueOf_51 rfl rfl ?_
      refine gX12_84 rfl dX12_valueOf_52 (isM_0 hM) ?_
      refine a_iload_n (i := 1) dX12_valueOf_55 rfl rfl ?_
      refine a_ialdN dX12_valueOf_56 (isM_46 hM) (by first | with_reducible exact rfl | with_reducible exact ix8 _ _ | with_reducible exact ix12 _ _ | exact rfl) (by omega) (by decide) ?_
      rw [hc]
      refine a_iconst (v := 2) dX12_valueOf_57 (by decide) ?_
      refine a_icmp_ne (tg := 73) dX12_valueOf_58 (by decide) (fun c_58 => ?_) (fun c_58 => ?_)
      · refine a_aload_n (i := 0) dX12_valueOf_73 rfl rfl ?_
        refine gX12_103 rfl dX12_valueOf_74 (isM_0 hM) ?_
        refine a_aload_n (i := 0) dX12_valueOf_77 rfl rfl ?_
        refine gX12_90 rfl dX12_valueOf_78 (isM_0 hM) ?_
        refine a_iload_n (i := 1) dX12_valueOf_81 rfl rfl ?_
        refine a_ialdN dX12_valueOf_82 (isM_48 hM) (by first | with_reducible exact rfl | with_reducible exact ix8 _ _ | with_reducible exact ix12 _ _ | exact rfl) (by omega) (by decide) ?_
        rw [(h2 c_6 c_24 c_58).1]
        refine a_laldN dX12_valueOf_83 (isM_58 hM) (by first | with_reducible exact rfl | with_reducible exact ix8 _ _ | with_reducible exact ix12 _ _ | exact rfl) (by exact (h2 c_6 c_24 c_58).2) (by decide) ?_
        refine a_lstore (i := 4) dX12_valueOf_84 (by decide) ?_
        refine a_aload_n (i := 0) dX12_valueOf_86 rfl rfl ?_
        refine gX12_84 rfl dX12_valueOf_87 (isM_0 hM) ?_
        refine a_iload_n (i := 1) dX12_valueOf_90 rfl rfl ?_
        refine a_ialdN dX12_valueOf_91 (isM_46 hM) (by first | with_reducible exact rfl | with_reducible exact ix8 _ _ | with_reducible exact ix12 _ _ | exact rfl) (by omega) (by decide) ?_
        rw [hc]
        refine sX12_valueOf_92 dX12_valueOf_92 (fun s_92 => ?_) (fun s_92 => ?_) (fun s_92 => ?_) (fun s_92 => ?_) (fun s_92 => ?_) (fun s_92 => ?_) (fun s_92_0 s_92_1 s_92_2 s_92_3 s_92_4 s_92_5 => ?_)
        · subst s_92
          rw [mN_3]
          refine a_lload_n (i := 2) dX12_valueOf_156 rfl rfl ?_
          refine a_lconst (v := 0) dX12_valueOf_157 (by decide) ?_
          refine a_lcmp dX12_valueOf_158 ?_
          refine a_if_eq (tg := 173) dX12_valueOf_159 (by decide) (fun c_159 => ?_) (fun c_159 => ?_)
          · rw [if_neg (fun h => h.1 ((lg_cmp_eq _ _).mp c_159))]
            refine a_lconst (v := 0) dX12_valueOf_173 (by decide) ?_
            exact a_lret dX12_valueOf_174 (by exact ⟨rfl, keep⟩)
          · refine a_lload (i := 4) dX12_valueOf_162 rfl ?_
            refine a_lconst (v := 0) dX12_valueOf_164 (by decide) ?_
            refine a_lcmp dX12_valueOf_165 ?_
            refine a_if_eq (tg := 173) dX12_valueOf_166 (by decide) (fun c_166 => ?_) (fun c_166 => ?_)
            · rw [if_neg (fun h => h.2 ((lg_cmp_eq _ _).mp c_166))]
              refine a_lconst (v := 0) dX12_valueOf_173 (by decide) ?_
              exact a_lret dX12_valueOf_174 (by exact ⟨rfl, keep⟩)
            · rw [if_pos ⟨fun h => c_159 ((lg_cmp_eq _ _).mpr h), fun h => c_166 ((lg_cmp_eq _ _).mpr h)⟩]
              refine a_lconst (v := 1) dX12_valueOf_169 (by decide) ?_
              refine a_goto (tg := 174) dX12_valueOf_170 (by decide) ?_
              exact a_lret dX12_valueOf_174 (by exact ⟨rfl, keep⟩)
        · subst s_92
          rw [mN_4]
          refine a_lload_n (i := 2) dX12_valueOf_175 rfl rfl ?_
          refine a_lconst (v := 0) dX12_valueOf_176 (by decide) ?_
          refine a_lcmp dX12_valueOf_177 ?_
          refine a_if_ne (tg := 188) dX12_valueOf_178 (by decide) (fun c_178 => ?_) (fun c_178 => ?_)
          · rw [if_pos (Or.inl (fun h => c_178 ((lg_cmp_eq _ _).mpr h)))]
            refine a_lconst (v := 1) dX12_valueOf_188 (by decide) ?_
            refine a_goto (tg := 193) dX12_valueOf_189 (by decide) ?_
            exact a_lret dX12_valueOf_193 (by exact ⟨rfl, keep⟩)
          · refine a_lload (i := 4) dX12_valueOf_181 rfl ?_
            refine a_lconst (v := 0) dX12_valueOf_183 (by decide) ?_
            refine a_lcmp dX12_valueOf_184 ?_
            refine a_if_eq (tg := 192) dX12_valueOf_185 (by decide) (fun c_185 => ?_) (fun c_185 => ?_)
            · rw [if_neg (fun h => h.elim (fun g => g ((lg_cmp_eq _ _).mp c_178)) (fun g => g ((lg_cmp_eq _ _).mp c_185)))]
              refine a_lconst (v := 0) dX12_valueOf_192 (by decide) ?_
              exact a_lret dX12_valueOf_193 (by exact ⟨rfl, keep⟩)
            · rw [if_pos (Or.inr (fun h => c_185 ((lg_cmp_eq _ _).mpr h)))]
              refine a_lconst (v := 1) dX12_valueOf_188 (by decide) ?_
              refine a_goto (tg := 193) dX12_valueOf_189 (by decide) ?_
              exact a_lret dX12_valueOf_193 (by exact ⟨rfl, keep⟩)
        · subst s_92
          rw [mN_11]
          refine a_aload_n (i := 0) dX12_valueOf_194 rfl rfl ?_
          refine a_lload_n (i := 2) dX12_valueOf_195 rfl rfl ?_
          refine a_lload (i := 4) dX12_valueOf_196 rfl ?_
          refine a_ladd dX12_valueOf_198 ?_
          refine kX12_376 rfl dX12_valueOf_199 (Nat.le_of_ble_eq_true rfl) (isM_0 hM) (c_X12_bounded hM he) ?_
          exact a_lret dX12_valueOf_202 (by exact ⟨rfl, rfl⟩)
        · subst s_92
          rw [mN_12]
          refine a_aload_n (i := 0) dX12_valueOf_203 rfl rfl ?_
          refine a_lload_n (i := 2) dX12_valueOf_204 rfl rfl ?_
          refine a_lload (i := 4) dX12_valueOf_205 rfl ?_
          refine a_lsub dX12_valueOf_207 ?_
          refine kX12_376 rfl dX12_valueOf_208 (Nat.le_of_ble_eq_true rfl) (isM_0 hM) (c_X12_bounded hM he) ?_
          exact a_lret dX12_valueOf_211 (by exact ⟨rfl, rfl⟩)
        · subst s_92
          rw [mN_13]
          refine a_aload_n (i := 0) dX12_valueOf_212 rfl rfl ?_
          refine a_lload_n (i := 2) dX12_valueOf_213 rfl rfl ?_
          refine a_lload (i := 4) dX12_valueOf_214 rfl ?_
          refine kX12_380 rfl dX12_valueOf_216 (Nat.le_of_ble_eq_true rfl) (isM_0 hM) (c_X12_times hM he) ?_
          exact a_lret dX12_valueOf_219 (by exact ⟨rfl, rfl⟩)
        · subst s_92
          rw [mN_14]
          refine a_aload_n (i := 0) dX12_valueOf_220 rfl rfl ?_
          refine a_aload_n (i := 0) dX12_valueOf_221 rfl rfl ?_
          refine gX12_369 rfl dX12_valueOf_222 (isM_0 hM) ?_
          rw [he]
          refine a_if_ne (tg := 235) dX12_valueOf_225 (by decide) (fun c_225 => ?_) (fun c_225 => ?_)
          · have e1 : (e || decide (x.2 (bM + 58) O = 0)) = true := by cases e; exact absurd rfl c_225; rfl
            rw [e1]
            exact a_loc _ rfl (V1 _ _ e1)
          · have e0 : e = false := (bI_z e).mp c_225
            refine a_lload (i := 4) dX12_valueOf_228 rfl ?_
            refine a_lconst (v := 0) dX12_valueOf_230 (by decide) ?_
            refine a_lcmp dX12_valueOf_231 ?_
            refine a_if_ne (tg := 239) dX12_valueOf_232 (by decide) (fun c_232 => ?_) (fun c_232 => ?_)
            · have e1 : (e || decide (x.2 (bM + 58) O = 0)) = false := by rw [e0]; exact decide_eq_false (fun h => c_232 ((lg_cmp_eq _ _).mpr h))
              rw [e1]
              exact a_loc _ rfl (V0 _ _ (fun h => c_232 ((lg_cmp_eq _ _).mpr h)))
            · have e1 : (e || decide (x.2 (bM + 58) O = 0)) = true := by rw [e0]; exact decide_eq_true ((lg_cmp_eq _ _).mp c_232)
              rw [e1]
              exact a_loc _ rfl (V1 _ _ e1)
        · rw [mN_d _ _ _ _ _ c_6 c_24 c_58 s_92_0 s_92_1 s_92_2 s_92_3 s_92_4 s_92_5]
          refine a_aload_n (i := 0) dX12_valueOf_259 rfl rfl ?_
          refine gX12_84 rfl dX12_valueOf_260 (isM_0 hM) ?_
          refine a_iload_n (i := 1) dX12_valueOf_263 rfl rfl ?_
          refine a_ialdN dX12_valueOf_264 (isM_46 hM) (by first | with_reducible exact rfl | with_reducible exact ix8 _ _ | with_reducible exact ix12 _ _ | exact rfl) (by omega) (by decide) ?_
          rw [hc]
          refine a_lload_n (i := 2) dX12_valueOf_265 rfl rfl ?_
          refine a_lload (i := 4) dX12_valueOf_266 rfl ?_
          refine kX12_384 rfl dX12_valueOf_268 (Nat.le_of_ble_eq_true rfl) (c_X12_compares) ?_
          refine a_if_eq (tg := 278) dX12_valueOf_271 (by decide) (fun c_271 => ?_) (fun c_271 => ?_)
          · rw [if_neg (fun h => by rw [h] at c_271; exact absurd c_271 (by decide))]
            refine a_lconst (v := 0) dX12_valueOf_278 (by decide) ?_
            exact a_lret dX12_valueOf_279 (by exact ⟨rfl, keep⟩)
          · rw [if_pos (by cases q : mCmp c (x.2 (bM + 58) P) (x.2 (bM + 58) O); rw [q] at c_271; exact absurd rfl c_271; rfl)]
            refine a_lconst (v := 1) dX12_valueOf_274 (by decide) ?_
            refine a_goto (tg := 279) dX12_valueOf_275 (by decide) ?_
            exact a_lret dX12_valueOf_279 (by exact ⟨rfl, keep⟩)
      · subst c_58
        rw [mN_2]
        refine a_lload_n (i := 2) dX12_valueOf_61 rfl rfl ?_
        refine a_lconst (v := 0) dX12_valueOf_62 (by decide) ?_
        refine a_lcmp dX12_valueOf_63 ?_
        refine a_if_ne (tg := 71) dX12_valueOf_64 (by decide) (fun c_64 => ?_) (fun c_64 => ?_)
        · rw [if_neg (fun h => c_64 ((lg_cmp_eq _ _).mpr h))]
          refine a_lconst (v := 0) dX12_valueOf_71 (by decide) ?_
          exact a_lret dX12_valueOf_72 (by exact ⟨rfl, keep⟩)
        · rw [if_pos ((lg_cmp_eq _ _).mp c_64)]
          refine a_lconst (v := 1) dX12_valueOf_67 (by decide) ?_
          refine a_goto (tg := 72) dX12_valueOf_68 (by decide) ?_
          exact a_lret dX12_valueOf_72 (by exact ⟨rfl, keep⟩)
    · subst c_24
      rw [mN_1]
      refine a_aload_n (i := 0) dX12_valueOf_27 rfl rfl ?_
      refine gX12_99 rfl dX12_valueOf_28 (isM_0 hM) ?_
      refine a_aload_n (i := 0) dX12_valueOf_31 rfl rfl ?_
      refine gX12_87 rfl dX12_valueOf_32 (isM_0 hM) ?_
      refine a_iload_n (i := 1) dX12_valueOf_35 rfl rfl ?_
      refine a_ialdN dX12_valueOf_36 (isM_47 hM) (by first | with_reducible exact rfl | with_reducible exact ix8 _ _ | with_reducible exact ix12 _ _ | exact rfl) (by omega) (by decide) ?_
      rw [(h1 c_6).1]
      refine a_laldN dX12_valueOf_37 (isM_57 hM) (by first | with_reducible exact rfl | with_reducible exact ix8 _ _ | with_reducible exact ix12 _ _ | exact rfl) (by exact (h1 c_6).2.2 rfl) (by decide) ?_
      exact a_lret dX12_valueOf_38 (by exact ⟨rfl, keep⟩)
  · subst c_6
    rw [mN_0]
    refine a_aload_n (i := 0) dX12_valueOf_9 rfl rfl ?_
    refine gX12_87 rfl dX12_valueOf_10 (isM_0 hM) ?_
    refine a_iload_n (i := 1) dX12_valueOf_13 rfl rfl ?_
    refine a_ialdN dX12_valueOf_14 (isM_47 hM) (by first | with_reducible exact rfl | with_reducible exact ix8 _ _ | with_reducible exact ix12 _ _ | exact rfl) (by omega) (by decide) ?_
    refine a_i2l dX12_valueOf_15 ?_
    exact a_lret dX12_valueOf_16 (by exact ⟨rfl, keep⟩)
