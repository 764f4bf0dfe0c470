/-! ease: the model -/
set_option maxRecDepth 100000 in
theorem many_eq0 : ∀ i, i < 64 → ∀ j, j < 64 → zMany (nI (64 * i + j)) = jbc (nI (64 * i + j)) ∧ jbc (nI (64 * i + j)) < 13 := by decide +kernel
theorem many_eq (k : Nat) (h : k < 4096) : zMany (nI k) = jbc (nI k) ∧ jbc (nI k) < 13 := by
  have := many_eq0 (k / 64) (by omega) (k % 64) (by omega)
  rwa [Nat.div_add_mod] at this
section qS
variable {l : Launch} {d : Nat} {D : Nat → Bool} {T : zT} {W : Nat → zL} {Z : zS} {t : Nat} {x : aS}
set_option maxHeartbeats 4000000 in
set_option maxRecDepth 100000 in
theorem c_X12_manyOf {u : Int32} : aDI l mX12_manyOf d D [.int u] x (zMany u) x := by
  refine a_metI (by decide) (Nat.le_of_ble_eq_true rfl) rfl ?_
  refine a_iconst (v := 0) dX12_manyOf_0 (by decide) ?_
  refine a_istore_n (i := 1) dX12_manyOf_1 rfl (by decide) ?_
  refine a_iconst (v := 0) dX12_manyOf_2 (by decide) ?_
  refine a_istore_n (i := 2) dX12_manyOf_3 rfl (by decide) ?_
  refine a_loc [(0, .int u), (1, .int 0), (2, .int (nI 0))] rfl ?_
  refine lp_rule (P := fun i a => aV l mX12_manyOf d D none 4 [(0, .int u), (1, .int a), (2, .int (nI i))] [] x _) (fun k a => a + (u >>> (nI k &&& 31) &&& 1)) ?_ 21 0 0 rfl ?_
  · intro i a hi ih
    refine a_iload_n (i := 2) dX12_manyOf_4 rfl rfl ?_
    refine a_bipush (v := 21) dX12_manyOf_5 (by decide) ?_
    refine a_icmp_ge (tg := 24) dX12_manyOf_7 (by decide) (fun c_7 => ?_) (fun c_7 => ?_)
    · exact absurd c_7 (nI_ge hi (by decide))
    · refine a_iload_n (i := 1) dX12_manyOf_10 rfl rfl ?_
      refine a_iload_n (i := 0) dX12_manyOf_11 rfl rfl ?_
      refine a_iload_n (i := 2) dX12_manyOf_12 rfl rfl ?_
      refine a_ishr dX12_manyOf_13 ?_
      refine a_iconst (v := 1) dX12_manyOf_14 (by decide) ?_
      refine a_iand dX12_manyOf_15 ?_
      refine a_iadd dX12_manyOf_16 ?_
      refine a_istore_n (i := 1) dX12_manyOf_17 rfl (by decide) ?_
      refine a_iincK (i := 2) (u := 1) dX12_manyOf_18 rfl (by decide) (by decide) ?_
      refine a_goto (tg := 4) dX12_manyOf_21 (by decide) ?_
      rw [nI_1]; exact a_loc _ rfl ih
  · refine a_iload_n (i := 2) dX12_manyOf_4 rfl rfl ?_
    refine a_bipush (v := 21) dX12_manyOf_5 (by decide) ?_
    refine a_icmp_ge (tg := 24) dX12_manyOf_7 (by decide) (fun c_7 => ?_) (fun c_7 => ?_)
    · refine a_iload_n (i := 1) dX12_manyOf_24 rfl rfl ?_
      exact a_iret dX12_manyOf_25 (by exact ⟨rfl, rfl⟩)
    · exact absurd (Int32.le_refl _) c_7
theorem mLast_b {h z o : Nat} (ok : zTok T) (hZ : zOk T Z) (hS : rM T Z x 0) (hh : h < T.1 0) (hz : z < 8) (ho : o < 4096) : mLast x 0 h z (Z.2 1 h) (nI o) = zLB Z h z (fun k => o.testBit k) := by
  have c12 := (hZ.2.1 h hh).1
  obtain ⟨g1, g2, g3⟩ := hS.2.2.1 h hh
  unfold mLast zLB
  rw [lp_plus, g1 z hz]
  congr 1
  refine lp_congr _ _ _ (fun k a _ hk => ?_)
  obtain ⟨a1, a2⟩ := g3 k (by omega)
  have hzk := (hZ.2.1 h hh).2 k (by omega)
  rw [a1, a2, jbit_t (by omega) (by omega)]
  show a + (if nI (Z.2 2 (h * 12 + k)) = nI z ∧ o.testBit k = false then Z.1 2 (h * 12 + k) else 0) = a + (if Z.2 2 (h * 12 + k) = z ∧ o.testBit k = false then Z.1 2 (h * 12 + k) else 0)
  by_cases e : Z.2 2 (h * 12 + k) = z
  · by_cases b : o.testBit k = false
    · rw [if_pos ⟨by rw [e], b⟩, if_pos ⟨e, b⟩]
    · rw [if_neg (fun q => b q.2), if_neg (fun q => b q.2)]
  · rw [if_neg (fun q => e ((nI_eq (by omega) (by omega)).mp q.1)), if_neg (fun q => e q.1)]
theorem mFar_b {m h o : Nat} (ok : zTok T) (hZ : zOk T Z) (hT : rTM T x) (hS : rM T Z x 0) (hm : m < T.1 1) (hh : h < T.1 0) (ho : o < 4096) : mFar x 0 m h (Z.2 1 h) (nI o) = zFB T Z m h (fun k => o.testBit k) := by
  unfold mFar zFB sm
  refine lp_congr _ _ _ (fun z a _ hz => ?_)
  rw [mFoot_z ok hT hS hm (by omega), mLast_b ok hZ hS hh (by omega) ho, msize_sub]
  rfl
set_option maxHeartbeats 4000000 in
set_option maxRecDepth 100000 in
theorem c_X12_ease {a n : Int32} (hM : D 12 = true) (h : mR T W Z x) : aDI l mX12_ease (d + 3) D [.ref bM, .int a, .int n] x (qEase T Z a n) (aWr x bM 2 0) := by
  obtain ⟨ok, hZ, hT, hW, hS⟩ := mR_0 h
  refine a_metI (by decide) (Nat.le_of_ble_eq_true rfl) rfl ?_
  refine a_aload_n (i := 0) dX12_ease_0 rfl rfl ?_
  refine a_iconst (v := 0) dX12_ease_1 (by decide) ?_
  refine pX12_175 rfl dX12_ease_2 (isM_0 hM) ?_
  refine a_loc [(0, .ref bM), (1, .int a), (2, .int n)] rfl ?_
  generalize aWr x bM 2 0 = y at *
  have h6 := ok.1
  have h8 := ok.2.1
  unfold qEase
  by_cases q : zIn (T.1 1) a ∧ (0 ≤ n ∧ n ≤ 9999)
  · rw [if_pos q]
    obtain ⟨q1, q2⟩ := q
    obtain ⟨A, hA, rfl⟩ := zIn_of (by omega) q1
    rw [nI_clamp (by omega)]
    have hh := hZ.2.2 A hA
    have c12 := (hZ.2.1 _ hh).1
    have f1 : y.1 (bM + 64) A = nI (Z.2 3 A) := by have := (hS.2.2.2 A hA).1; rwa [Nat.mul_zero, Nat.zero_add] at this
    have f3' := (hS.2.2.1 _ hh).2.1
    have f3 : y.1 (bM + 63) (Z.2 3 A) = nI (Z.2 1 (Z.2 3 A)) := by rwa [Nat.mul_zero, Nat.zero_add] at f3'
    generalize hH : Z.2 3 A = H at *
    have p12 : 2 ^ Z.2 1 H ≤ 4096 := Nat.pow_le_pow_right (i := Z.2 1 H) (j := 12) (by decide) c12
    have B : ∀ (f o : Nat), o + f = 2 ^ Z.2 1 H → ∀ b : Int32, (b = -2 ∨ ∃ j, j < 4096 ∧ b = nI j) → aV l mX12_ease (d + 3) D none 40 [(0, .ref bM), (1, .int (nI A)), (2, .int n), (3, .int (nI H)), (4, .int b), (5, .int (nI o))] [] y (fun v w => v = some (.int (lp (zEs T Z A H n) o f b)) ∧ w = y) := by
      intro f
      induction f with
      | zero =>
        intro o ho b _
        rw [Nat.add_zero] at ho
        refine a_iload (i := 5) dX12_ease_40 rfl ?_
        refine a_iconst (v := 1) dX12_ease_42 (by decide) ?_
        refine a_aload_n (i := 0) dX12_ease_43 rfl rfl ?_
        refine gX12_115 rfl dX12_ease_44 (isM_0 hM) ?_
        refine a_iload_n (i := 3) dX12_ease_47 rfl rfl ?_
        refine a_ialdN dX12_ease_48 (isM_63 hM) (by first | with_reducible exact rfl | with_reducible exact ix8 _ _ | with_reducible exact ix12 _ _ | exact rfl) (by omega) (by decide) ?_
        rw [f3]
        refine a_ishl dX12_ease_49 ?_
        rw [two_L _ (by omega)]
        refine a_icmp_ge (tg := 97) dX12_ease_50 (by decide) (fun c_50 => ?_) (fun c_50 => ?_)
        · refine a_iload (i := 4) dX12_ease_97 rfl ?_
          exact a_iret dX12_ease_99 (by exact ⟨rfl, rfl⟩)
        · exact absurd (nI_le (show 2 ^ Z.2 1 H ≤ o by omega) (by omega)) c_50
      | succ f ih =>
        intro o ho b hb
        have o12 : o < 4096 := by omega
        have hf := c_X12_farBut (l := l) (d := d) (D := D) (i := 0) (u := nI o) hM (by decide) (show A < 8 by omega) (show H < 6 by omega) f3' c12
        rw [mFar_b ok hZ hT hS hA hh o12] at hf
        obtain ⟨m1, m2⟩ := many_eq o o12
        have ih1 := ih (o + 1) (by omega) (nI o) (Or.inr ⟨o, o12, rfl⟩)
        have ih2 := ih (o + 1) (by omega) b hb
        show aV _ _ _ _ _ _ _ _ _ (fun v w => v = some (.int (lp (zEs T Z A H n) (o + 1) f (zEs T Z A H n o b))) ∧ w = y)
        rcases hb with rfl | ⟨j, hj, rfl⟩
        · have ew : zFew (-2) = 13 := by decide
          refine a_iload (i := 5) dX12_ease_40 rfl ?_
          refine a_iconst (v := 1) dX12_ease_42 (by decide) ?_
          refine a_aload_n (i := 0) dX12_ease_43 rfl rfl ?_
          refine gX12_115 rfl dX12_ease_44 (isM_0 hM) ?_
          refine a_iload_n (i := 3) dX12_ease_47 rfl rfl ?_
          refine a_ialdN dX12_ease_48 (isM_63 hM) (by first | with_reducible exact rfl | with_reducible exact ix8 _ _ | with_reducible exact ix12 _ _ | exact rfl) (by omega) (by decide) ?_
          rw [f3]
          refine a_ishl dX12_ease_49 ?_
          rw [two_L _ (by omega)]
          refine a_icmp_ge (tg := 97) dX12_ease_50 (by decide) (fun c_50 => ?_) (fun c_50 => ?_)
          · exact absurd c_50 (nI_ge (show o < 2 ^ Z.2 1 H by omega) (by omega))
          · refine a_iload (i := 4) dX12_ease_53 rfl ?_
            refine a_if_lt (tg := 74) dX12_ease_55 (by decide) (fun c_55 => ?_) (fun c_55 => ?_)
            · refine a_aload_n (i := 0) dX12_ease_74 rfl rfl ?_
              refine a_iconst (v := 0) dX12_ease_75 (by decide) ?_
              refine a_iload_n (i := 1) dX12_ease_76 rfl rfl ?_
              refine a_iload_n (i := 3) dX12_ease_77 rfl rfl ?_
              refine a_iload (i := 5) dX12_ease_78 rfl ?_
              refine kX12_502 rfl dX12_ease_80 (Nat.le_of_ble_eq_true rfl) (isM_0 hM) (hf) ?_
              refine a_iload_n (i := 2) dX12_ease_83 rfl rfl ?_
              refine a_icmp_gt (tg := 91) dX12_ease_84 (by decide) (fun c_84 => ?_) (fun c_84 => ?_)
              · rw [show zEs T Z A H n o (-2) = -2 from if_neg (fun g => absurd g.1 (Int32.not_le.mpr c_84))]
                refine a_iincK (i := 5) (u := 1) dX12_ease_91 rfl (by decide) (by decide) ?_
                refine a_goto (tg := 40) dX12_ease_94 (by decide) ?_
                rw [nI_1]; first | exact a_loc _ rfl ih1 | exact a_loc _ rfl ih2
              · rw [show zEs T Z A H n o (-2) = nI o from if_pos ⟨Int32.not_lt.mp c_84, by rw [ew]; exact m2⟩]
                refine a_iload (i := 5) dX12_ease_87 rfl ?_
                refine a_istore (i := 4) dX12_ease_89 (by decide) ?_
                refine a_iincK (i := 5) (u := 1) dX12_ease_91 rfl (by decide) (by decide) ?_
                refine a_goto (tg := 40) dX12_ease_94 (by decide) ?_
                rw [nI_1]; first | exact a_loc _ rfl ih1 | exact a_loc _ rfl ih2
            · exact absurd (by decide) c_55
        · obtain ⟨m3, m4⟩ := many_eq j hj
          have ew : zFew (nI j) = jbc (nI j) := if_neg (fun g => absurd (show nI j < 0 by rw [g]; decide) (nI_pos (by omega)))
          refine a_iload (i := 5) dX12_ease_40 rfl ?_
          refine a_iconst (v := 1) dX12_ease_42 (by decide) ?_
          refine a_aload_n (i := 0) dX12_ease_43 rfl rfl ?_
          refine gX12_115 rfl dX12_ease_44 (isM_0 hM) ?_
          refine a_iload_n (i := 3) dX12_ease_47 rfl rfl ?_
          refine a_ialdN dX12_ease_48 (isM_63 hM) (by first | with_reducible exact rfl | with_reducible exact ix8 _ _ | with_reducible exact ix12 _ _ | exact rfl) (by omega) (by decide) ?_
          rw [f3]
          refine a_ishl dX12_ease_49 ?_
          rw [two_L _ (by omega)]
          refine a_icmp_ge (tg := 97) dX12_ease_50 (by decide) (fun c_50 => ?_) (fun c_50 => ?_)
          · exact absurd c_50 (nI_ge (show o < 2 ^ Z.2 1 H by omega) (by omega))
          · refine a_iload (i := 4) dX12_ease_53 rfl ?_
            refine a_if_lt (tg := 74) dX12_ease_55 (by decide) (fun c_55 => ?_) (fun c_55 => ?_)
            · exact absurd c_55 (nI_pos (by omega))
            · refine a_iload (i := 5) dX12_ease_58 rfl ?_
              refine kX12_531 rfl dX12_ease_60 (Nat.le_of_ble_eq_true rfl) (c_X12_manyOf) ?_
              refine a_iload (i := 4) dX12_ease_63 rfl ?_
              refine kX12_531 rfl dX12_ease_65 (Nat.le_of_ble_eq_true rfl) (c_X12_manyOf) ?_
              rw [m1, m3]
              refine a_icmp_lt (tg := 74) dX12_ease_68 (by decide) (fun c_68 => ?_) (fun c_68 => ?_)
              · refine a_aload_n (i := 0) dX12_ease_74 rfl rfl ?_
                refine a_iconst (v := 0) dX12_ease_75 (by decide) ?_
                refine a_iload_n (i := 1) dX12_ease_76 rfl rfl ?_
                refine a_iload_n (i := 3) dX12_ease_77 rfl rfl ?_
                refine a_iload (i := 5) dX12_ease_78 rfl ?_
                refine kX12_502 rfl dX12_ease_80 (Nat.le_of_ble_eq_true rfl) (isM_0 hM) (hf) ?_
                refine a_iload_n (i := 2) dX12_ease_83 rfl rfl ?_
                refine a_icmp_gt (tg := 91) dX12_ease_84 (by decide) (fun c_84 => ?_) (fun c_84 => ?_)
                · rw [show zEs T Z A H n o (nI j) = nI j from if_neg (fun g => absurd g.1 (Int32.not_le.mpr c_84))]
                  refine a_iincK (i := 5) (u := 1) dX12_ease_91 rfl (by decide) (by decide) ?_
                  refine a_goto (tg := 40) dX12_ease_94 (by decide) ?_
                  rw [nI_1]; first | exact a_loc _ rfl ih1 | exact a_loc _ rfl ih2
                · rw [show zEs T Z A H n o (nI j) = nI o from if_pos ⟨Int32.not_lt.mp c_84, by rw [ew]; exact c_68⟩]
                  refine a_iload (i := 5) dX12_ease_87 rfl ?_
                  refine a_istore (i := 4) dX12_ease_89 (by decide) ?_
                  refine a_iincK (i := 5) (u := 1) dX12_ease_91 rfl (by decide) (by decide) ?_
                  refine a_goto (tg := 40) dX12_ease_94 (by decide) ?_
                  rw [nI_1]; first | exact a_loc _ rfl ih1 | exact a_loc _ rfl ih2
              · rw [show zEs T Z A H n o (nI j) = nI j from if_neg (fun g => c_68 (by rw [← ew]; exact g.2))]
                refine a_goto (tg := 91) dX12_ease_71 (by decide) ?_
                refine a_iincK (i := 5) (u := 1) dX12_ease_91 rfl (by decide) (by decide) ?_
                refine a_goto (tg := 40) dX12_ease_94 (by decide) ?_
                rw [nI_1]; first | exact a_loc _ rfl ih1 | exact a_loc _ rfl ih2
    refine a_aload_n (i := 0) dX12_ease_5 rfl rfl ?_
    refine a_iload_n (i := 1) dX12_ease_6 rfl rfl ?_
    refine kX12_492 rfl dX12_ease_7 (Nat.le_of_ble_eq_true rfl) (isM_0 hM) (c_X12_isMan hM hT) ?_
    refine a_if_eq (tg := 24) dX12_ease_10 (by decide) (fun c_10 => ?_) (fun c_10 => ?_)
    · exact absurd c_10 (bI_p.mpr q1)
    · refine a_iload_n (i := 2) dX12_ease_13 rfl rfl ?_
      refine a_iconst (v := 0) dX12_ease_14 (by decide) ?_
      refine a_sipush (v := 9999) dX12_ease_15 (by decide) ?_
      refine kX12_220 rfl dX12_ease_18 (Nat.le_of_ble_eq_true rfl) (c_X12_isIn) ?_
      refine a_if_ne (tg := 26) dX12_ease_21 (by decide) (fun c_21 => ?_) (fun c_21 => ?_)
      · refine a_aload_n (i := 0) dX12_ease_26 rfl rfl ?_
        refine gX12_118 rfl dX12_ease_27 (isM_0 hM) ?_
        refine a_iload_n (i := 1) dX12_ease_30 rfl rfl ?_
        refine a_ialdN dX12_ease_31 (isM_64 hM) (by first | with_reducible exact rfl | with_reducible exact ix8 _ _ | with_reducible exact ix12 _ _ | exact rfl) (by omega) (by decide) ?_
        rw [f1]
        refine a_istore_n (i := 3) dX12_ease_32 rfl (by decide) ?_
        refine a_bipush (v := (-2)) dX12_ease_33 (by decide) ?_
        refine a_istore (i := 4) dX12_ease_35 (by decide) ?_
        refine a_iconst (v := 0) dX12_ease_37 (by decide) ?_
        refine a_istore (i := 5) dX12_ease_38 (by decide) ?_
        exact a_loc _ rfl (B _ 0 (Nat.zero_add _) (-2) (Or.inl rfl))
      · exact absurd c_21 (bI_p.mpr q2)
  · rw [if_neg q]
    refine a_aload_n (i := 0) dX12_ease_5 rfl rfl ?_
    refine a_iload_n (i := 1) dX12_ease_6 rfl rfl ?_
    refine kX12_492 rfl dX12_ease_7 (Nat.le_of_ble_eq_true rfl) (isM_0 hM) (c_X12_isMan hM hT) ?_
    refine a_if_eq (tg := 24) dX12_ease_10 (by decide) (fun c_10 => ?_) (fun c_10 => ?_)
    · refine a_iconst (v := (-1)) dX12_ease_24 (by decide) ?_
      exact a_iret dX12_ease_25 (by exact ⟨rfl, rfl⟩)
    · refine a_iload_n (i := 2) dX12_ease_13 rfl rfl ?_
      refine a_iconst (v := 0) dX12_ease_14 (by decide) ?_
      refine a_sipush (v := 9999) dX12_ease_15 (by decide) ?_
      refine kX12_220 rfl dX12_ease_18 (Nat.le_of_ble_eq_true rfl) (c_X12_isIn) ?_
      refine a_if_ne (tg := 26) dX12_ease_21 (by decide) (fun c_21 => ?_) (fun c_21 => ?_)
      · exact absurd ⟨bI_p.mp c_10, bI_p.mp c_21⟩ q
      · refine a_iconst (v := (-1)) dX12_ease_24 (by decide) ?_
        exact a_iret dX12_ease_25 (by exact ⟨rfl, rfl⟩)
end qS
