/-! LastHouseModel: number1, isDamp (rows wb_ are of the kit's BITS.to-paste) -/
theorem wb_tb (n : Nat) : (lN n).toBitVec = BitVec.ofNat 64 n := rfl
theorem wb_inj {a b : Int64} (h : a.toBitVec = b.toBitVec) : a = b := Int64.toBitVec_inj.mp h
theorem wb_lt2 {a b : Nat} (h : a < b) : 2 ^ a < 2 ^ b := Nat.pow_lt_pow_right (by decide) h
theorem wb_and {a b : Nat} (ha : a < 2 ^ 64) (hb : b < 2 ^ 64) : lN a &&& lN b = lN (a &&& b) := by
  apply wb_inj
  rw [Int64.toBitVec_and, wb_tb, wb_tb, wb_tb]
  apply BitVec.eq_of_toNat_eq
  rw [BitVec.toNat_and, BitVec.toNat_ofNat, BitVec.toNat_ofNat, BitVec.toNat_ofNat, Nat.mod_eq_of_lt ha, Nat.mod_eq_of_lt hb, Nat.mod_eq_of_lt (Nat.and_lt_two_pow _ hb)]
theorem wb_mask {n k : Nat} (hn : n < 2 ^ 64) (hk : k < 64) : lN n &&& lN (2 ^ k - 1) = lN (n % 2 ^ k) := by
  rw [wb_and hn (by have := wb_lt2 hk; omega), Nat.and_two_pow_sub_one_eq_mod]
def nStep (a : Nat) : Nat := (a * 1103515245 + 12345) % 2 ^ 31
theorem nStep_lt (a : Nat) : nStep a < 2 ^ 31 := Nat.mod_lt _ (by decide)
theorem nStep_e (a : Nat) : a % 2 ^ 32 % 2 ^ 31 = a % 2 ^ 31 := Nat.mod_mod_of_dvd a (by decide)
theorem nI_tn (n : Nat) : (nI n).toBitVec.toNat = n % 2 ^ 32 := rfl
theorem nStep_i (a : Nat) : (nI a * 1103515245 + 12345 &&& 2147483647) = nI (nStep a) := by
  rw [pk_and _ 31 (by decide), show (1103515245 : Int32) = nI 1103515245 from rfl, show (12345 : Int32) = nI 12345 from rfl, pk_mul, nI_add, nI_tn, nStep_e]
  unfold nStep
  with_reducible rfl
theorem nStep_l {a : Nat} (ha : a < 2 ^ 31) : (lN a * 1103515245 + 12345 &&& 2147483647) = lN (nStep a) := by
  rw [show (1103515245 : Int64) = lN 1103515245 from rfl, show (12345 : Int64) = lN 12345 from rfl, show (2147483647 : Int64) = lN (2 ^ 31 - 1) from rfl, lN_mul, lN_add, wb_mask (by omega) (by decide)]
  rfl
/-- the number drawn last is Z's -/
def rNum (Z : zS) (x : aS) : Prop := ∃ a, a < 2 ^ 31 ∧ Z.1 0 2 = nI a ∧ x.2 bM 69 = lN a
set_option maxHeartbeats 4000000 in
set_option maxRecDepth 100000 in
theorem c_X12_number1 {l : Launch} {d : Nat} {D : Nat → Bool} {a : Nat} {x : aS} (hM : D 12 = true) (ha : a < 2 ^ 31) (hx : x.2 bM 69 = lN a) : aDI l mX12_number1 d D [.ref bM, .int 100] x (nI (nStep a / 65536 % 100)) (aWl x bM 69 (lN (nStep a))) := by
  have hb := nStep_lt a
  have e1 : lN (nStep a) / 65536 = lN (nStep a / 65536) := pk_lDiv (b := 65536) (by omega) (by decide) (by decide)
  have e2 : lN (nStep a / 65536) - lN (nStep a / 65536) / (100 : Int32).toInt64 * (100 : Int32).toInt64 = lN (nStep a / 65536 % 100) := by
    rw [show ((100 : Int32)).toInt64 = lN 100 from by decide]
    exact pk_lRem (by omega) (by decide) (by decide)
  refine a_metI (by decide) (Nat.le_of_ble_eq_true rfl) rfl ?_
  refine a_aload_n (i := 0) dX12_number1_0 rfl rfl ?_
  refine a_aload_n (i := 0) dX12_number1_1 rfl rfl ?_
  refine gX12_391 rfl dX12_number1_2 (isM_0 hM) ?_
  rw [hx]
  refine a_ldc2 (v := 1103515245) dX12_number1_5 (oX12_466 rfl) ?_
  refine a_lmul dX12_number1_8 ?_
  refine a_ldc2 (v := 12345) dX12_number1_9 (oX12_468 rfl) ?_
  refine a_ladd dX12_number1_12 ?_
  refine a_ldc2 (v := 2147483647) dX12_number1_13 (oX12_470 rfl) ?_
  refine a_land dX12_number1_16 ?_
  rw [nStep_l ha]
  refine pX12_391 rfl dX12_number1_17 (isM_0 hM) ?_
  refine a_aload_n (i := 0) dX12_number1_20 rfl rfl ?_
  refine gX12_391 rfl dX12_number1_21 (isM_0 hM) ?_
  rw [aWl_s]
  refine a_ldc2 (v := 65536) dX12_number1_24 (oX12_472 rfl) ?_
  refine a_ldiv dX12_number1_27 (by decide) ?_
  rw [e1]
  refine a_iload_n (i := 1) dX12_number1_28 rfl rfl ?_
  refine a_i2l dX12_number1_29 ?_
  refine a_lrem dX12_number1_30 (by decide) ?_
  rw [e2]
  refine a_l2i dX12_number1_31 ?_
  rw [lN_i]
  exact a_iret dX12_number1_32 (by exact ⟨rfl, rfl⟩)
theorem zNum_r {Z : zS} {a : Nat} (ha : a < 2 ^ 31) (h : Z.1 0 2 = nI a) : zNum Z = nI (nStep a) ∧ zNum Z / 65536 - zNum Z / 65536 / 100 * 100 = nI (nStep a / 65536 % 100) := by
  have hb := nStep_lt a
  have e0 : zNum Z = nI (nStep a) := by
    unfold zNum
    rw [h]
    exact nStep_i a
  refine ⟨e0, ?_⟩
  rw [e0, show (65536 : Int32) = nI 65536 from rfl, pk_div (by omega) (by decide) (by decide), show (100 : Int32) = nI 100 from rfl]
  exact pk_rem (by omega) (by decide) (by decide)
theorem rM_num {i : Nat} {T : zT} {Z : zS} {x : aS} {v : Int32} (h : rM T Z x i) : rM T (zui Z 0 2 v) x i := by
  obtain ⟨q1, q2, q3, q4⟩ := h
  refine ⟨by rw [q1]; simp [zui], by rw [q2]; simp [zui], fun g hg => ⟨fun z hz => by rw [(q3 g hg).1 z hz]; simp [zui], (q3 g hg).2.1, fun k hk => ⟨((q3 g hg).2.2 k hk).1, by rw [((q3 g hg).2.2 k hk).2]; simp [zui]⟩⟩, fun m hm => ⟨(q4 m hm).1, by rw [(q4 m hm).2.1]; simp [zui], by rw [(q4 m hm).2.2.1]; simp [zui], (q4 m hm).2.2.2⟩⟩
/-- the model's flags for a way -/
def rFl (way : Nat) (x : aS) : Prop := x.1 bM 70 = bI (decide (way = 6)) ∧ x.1 bM 71 = bI (decide (way = 0)) ∧ x.1 bM 72 = bI (decide (way = 1)) ∧ x.1 bM 73 = bI (decide (way = 3)) ∧ x.1 bM 74 = bI (decide (way = 4))
theorem bI_t {p : Prop} [Decidable p] (h : p) : bI (decide p) = 1 := by rw [decide_eq_true h]; rfl
theorem bI_f {p : Prop} [Decidable p] (h : ¬ p) : bI (decide p) = 0 := by rw [decide_eq_false h]; rfl
theorem bI_p {p : Prop} [Decidable p] : ¬ bI (decide p) = 0 ↔ p := by
  by_cases h : p
  · rw [bI_t h]; exact ⟨fun _ => h, fun _ => by decide⟩
  · rw [bI_f h]; exact ⟨fun g => absurd rfl g, fun g => absurd g h⟩
set_option maxHeartbeats 4000000 in
set_option maxRecDepth 100000 in
theorem c_X12_isDamp {l : Launch} {d : Nat} {D : Nat → Bool} {T : zT} {Z : zS} {i way : Nat} {x : aS} (hM : D 12 = true) (ok : zTok T) (hT : rTM T x) (hS : rM T Z x i) (hF : rFl way x) (hN : way = 6 → rNum Z x) : ∃ y, aDI l mX12_isDamp (d + 1) D [.ref bM] x (bI (zDamp T way Z).1) y ∧ rM T (zDamp T way Z).2 y i ∧ aFi i x y ∧ y.1 = x.1 ∧ (way = 6 → rNum (zDamp T way Z).2 y) ∧ (¬ way = 6 → y.2 bM 69 = x.2 bM 69) := by
  have hd : x.1 (bM + 26) 0 = nI (T.1 5) := hT.2.2.2.2.2.2.1
  have h100 := ok.2.2.2.2.2.1
  obtain ⟨f0, f1, f2, f3, f4⟩ := hF
  by_cases c0 : way = 0 ∨ T.1 5 = 0
  · have e : zDamp T way Z = (false, Z) := by rw [zDamp, if_pos c0]
    rw [e]
    refine ⟨x, ?_, hS, aFi_r, rfl, hN, fun _ => rfl⟩
    refine a_metZ (by decide) (Nat.le_of_ble_eq_true rfl) rfl (bI_01 _) ?_
    refine a_aload_n (i := 0) dX12_isDamp_0 rfl rfl ?_
    refine gX12_414 rfl dX12_isDamp_1 (isM_0 hM) ?_
    rw [f1]
    refine a_if_ne (tg := 16) dX12_isDamp_4 (by decide) (fun c_4 => ?_) (fun c_4 => ?_)
    · refine a_iconst (v := 0) dX12_isDamp_16 (by decide) ?_
      exact a_iret dX12_isDamp_17 (by exact ⟨rfl, rfl⟩)
    · refine a_aload_n (i := 0) dX12_isDamp_7 rfl rfl ?_
      refine gX12_24 rfl dX12_isDamp_8 (isM_0 hM) ?_
      refine a_iconst (v := 0) dX12_isDamp_11 (by decide) ?_
      refine a_ialdN dX12_isDamp_12 (isM_26 hM) (by first | exact (show (0 : Int32) = nI 0 from rfl) | with_reducible exact rfl | with_reducible exact ix8 _ _ | with_reducible exact ix12 _ _ | exact rfl) (by omega) (by decide) ?_
      rw [hd]
      refine a_if_ne (tg := 18) dX12_isDamp_13 (by decide) (fun c_13 => ?_) (fun c_13 => ?_)
      · exact absurd (c0.elim (fun h => absurd c_4 (bI_p.mpr h)) (fun h => by rw [h]; rfl)) c_13
      · refine a_iconst (v := 0) dX12_isDamp_16 (by decide) ?_
        exact a_iret dX12_isDamp_17 (by exact ⟨rfl, rfl⟩)
  · have w0 : ¬ way = 0 := fun h => c0 (Or.inl h)
    have d0 : ¬ T.1 5 = 0 := fun h => c0 (Or.inr h)
    have nd0 : ¬ nI (T.1 5) = 0 := fun h => d0 ((nI_eq (a := T.1 5) (b := 0) (by omega) (by decide)).mp h)
    by_cases c1 : T.1 5 = 100
    · have e : zDamp T way Z = (true, Z) := by rw [zDamp, if_neg c0, if_pos c1]
      rw [e]
      refine ⟨x, ?_, hS, aFi_r, rfl, hN, fun _ => rfl⟩
      refine a_metZ (by decide) (Nat.le_of_ble_eq_true rfl) rfl (bI_01 _) ?_
      refine a_aload_n (i := 0) dX12_isDamp_0 rfl rfl ?_
      refine gX12_414 rfl dX12_isDamp_1 (isM_0 hM) ?_
      rw [f1]
      refine a_if_ne (tg := 16) dX12_isDamp_4 (by decide) (fun c_4 => ?_) (fun c_4 => ?_)
      · exact absurd (bI_f w0) c_4
      · refine a_aload_n (i := 0) dX12_isDamp_7 rfl rfl ?_
        refine gX12_24 rfl dX12_isDamp_8 (isM_0 hM) ?_
        refine a_iconst (v := 0) dX12_isDamp_11 (by decide) ?_
        refine a_ialdN dX12_isDamp_12 (isM_26 hM) (by first | exact (show (0 : Int32) = nI 0 from rfl) | with_reducible exact rfl | with_reducible exact ix8 _ _ | with_reducible exact ix12 _ _ | exact rfl) (by omega) (by decide) ?_
        rw [hd]
        refine a_if_ne (tg := 18) dX12_isDamp_13 (by decide) (fun c_13 => ?_) (fun c_13 => ?_)
        · refine a_aload_n (i := 0) dX12_isDamp_18 rfl rfl ?_
          refine gX12_24 rfl dX12_isDamp_19 (isM_0 hM) ?_
          refine a_iconst (v := 0) dX12_isDamp_22 (by decide) ?_
          refine a_ialdN dX12_isDamp_23 (isM_26 hM) (by first | exact (show (0 : Int32) = nI 0 from rfl) | with_reducible exact rfl | with_reducible exact ix8 _ _ | with_reducible exact ix12 _ _ | exact rfl) (by omega) (by decide) ?_
          rw [hd]
          refine a_bipush (v := 100) dX12_isDamp_24 (by decide) ?_
          refine a_icmp_ne (tg := 31) dX12_isDamp_26 (by decide) (fun c_26 => ?_) (fun c_26 => ?_)
          · exact absurd (by rw [c1]; rfl) c_26
          · refine a_iconst (v := 1) dX12_isDamp_29 (by decide) ?_
            exact a_iret dX12_isDamp_30 (by exact ⟨rfl, rfl⟩)
        · exact absurd c_13 nd0
    · have nd1 : ¬ nI (T.1 5) = 100 := fun h => c1 ((nI_eq (a := T.1 5) (b := 100) (by omega) (by decide)).mp h)
      by_cases c6 : way = 6
      · obtain ⟨a, ha, ha1, ha2⟩ := hN c6
        obtain ⟨z1, z2⟩ := zNum_r ha ha1
        have e : zDamp T way Z = (decide (nI (nStep a / 65536 % 100) < nI (T.1 5)), zui Z 0 2 (nI (nStep a))) := by rw [zDamp, if_neg c0, if_neg c1, if_pos c6, z2, z1]
        rw [e]
        refine ⟨aWl x bM 69 (lN (nStep a)), ?_, rM_1 rfl (rM_num hS), ?_, rfl, fun _ => ⟨nStep a, nStep_lt a, by simp [zui], aWl_s _ _ _ _⟩, fun h => absurd c6 h⟩
        · refine a_metZ (by decide) (Nat.le_of_ble_eq_true rfl) rfl (bI_01 _) ?_
          refine a_aload_n (i := 0) dX12_isDamp_0 rfl rfl ?_
          refine gX12_414 rfl dX12_isDamp_1 (isM_0 hM) ?_
          rw [f1]
          refine a_if_ne (tg := 16) dX12_isDamp_4 (by decide) (fun c_4 => ?_) (fun c_4 => ?_)
          · exact absurd (bI_f w0) c_4
          · refine a_aload_n (i := 0) dX12_isDamp_7 rfl rfl ?_
            refine gX12_24 rfl dX12_isDamp_8 (isM_0 hM) ?_
            refine a_iconst (v := 0) dX12_isDamp_11 (by decide) ?_
            refine a_ialdN dX12_isDamp_12 (isM_26 hM) (by first | exact (show (0 : Int32) = nI 0 from rfl) | with_reducible exact rfl | with_reducible exact ix8 _ _ | with_reducible exact ix12 _ _ | exact rfl) (by omega) (by decide) ?_
            rw [hd]
            refine a_if_ne (tg := 18) dX12_isDamp_13 (by decide) (fun c_13 => ?_) (fun c_13 => ?_)
            · refine a_aload_n (i := 0) dX12_isDamp_18 rfl rfl ?_
              refine gX12_24 rfl dX12_isDamp_19 (isM_0 hM) ?_
              refine a_iconst (v := 0) dX12_isDamp_22 (by decide) ?_
              refine a_ialdN dX12_isDamp_23 (isM_26 hM) (by first | exact (show (0 : Int32) = nI 0 from rfl) | with_reducible exact rfl | with_reducible exact ix8 _ _ | with_reducible exact ix12 _ _ | exact rfl) (by omega) (by decide) ?_
              rw [hd]
              refine a_bipush (v := 100) dX12_isDamp_24 (by decide) ?_
              refine a_icmp_ne (tg := 31) dX12_isDamp_26 (by decide) (fun c_26 => ?_) (fun c_26 => ?_)
              · refine a_aload_n (i := 0) dX12_isDamp_31 rfl rfl ?_
                refine gX12_411 rfl dX12_isDamp_32 (isM_0 hM) ?_
                rw [f0]
                refine a_if_eq (tg := 61) dX12_isDamp_35 (by decide) (fun c_35 => ?_) (fun c_35 => ?_)
                · exact absurd c_35 (bI_p.mpr c6)
                · refine a_aload_n (i := 0) dX12_isDamp_38 rfl rfl ?_
                  refine a_bipush (v := 100) dX12_isDamp_39 (by decide) ?_
                  refine kX12_474 rfl dX12_isDamp_41 (Nat.le_of_ble_eq_true rfl) (isM_0 hM) (c_X12_number1 hM ha ha2) ?_
                  refine a_aload_n (i := 0) dX12_isDamp_44 rfl rfl ?_
                  refine gX12_24 rfl dX12_isDamp_45 (isM_0 hM) ?_
                  refine a_iconst (v := 0) dX12_isDamp_48 (by decide) ?_
                  refine a_ialdN dX12_isDamp_49 (isM_26 hM) (by first | exact (show (0 : Int32) = nI 0 from rfl) | with_reducible exact rfl | with_reducible exact ix8 _ _ | with_reducible exact ix12 _ _ | exact rfl) (by omega) (by decide) ?_
                  rw [aWl_1, hd]
                  refine a_icmp_ge (tg := 57) dX12_isDamp_50 (by decide) (fun c_50 => ?_) (fun c_50 => ?_)
                  · have q := bI_f (Int32.not_lt.mpr c_50)
                    refine a_iconst (v := 0) dX12_isDamp_57 (by decide) ?_
                    refine a_goto (tg := 77) dX12_isDamp_58 (by decide) ?_
                    exact a_iret dX12_isDamp_77 (by rw [q]; exact ⟨rfl, rfl⟩)
                  · have q := bI_t (Int32.not_le.mp c_50)
                    refine a_iconst (v := 1) dX12_isDamp_53 (by decide) ?_
                    refine a_goto (tg := 77) dX12_isDamp_54 (by decide) ?_
                    exact a_iret dX12_isDamp_77 (by rw [q]; exact ⟨rfl, rfl⟩)
              · exact absurd c_26 nd1
            · exact absurd c_13 nd0
        · refine ⟨fun _ _ _ _ => rfl, fun n j _ _ h => ?_⟩
          by_cases en : n = bM
          · subst en; exact aWl_j _ _ _ (fun g => h ⟨rfl, g⟩)
          · rw [aWl_n _ _ _ en]
      · have e : zDamp T way Z = (decide (50 ≤ T.1 5), Z) := by rw [zDamp, if_neg c0, if_neg c1, if_neg c6]
        rw [e]
        refine ⟨x, ?_, hS, aFi_r, rfl, fun h => absurd h c6, fun _ => rfl⟩
        refine a_metZ (by decide) (Nat.le_of_ble_eq_true rfl) rfl (bI_01 _) ?_
        refine a_aload_n (i := 0) dX12_isDamp_0 rfl rfl ?_
        refine gX12_414 rfl dX12_isDamp_1 (isM_0 hM) ?_
        rw [f1]
        refine a_if_ne (tg := 16) dX12_isDamp_4 (by decide) (fun c_4 => ?_) (fun c_4 => ?_)
        · exact absurd (bI_f w0) c_4
        · refine a_aload_n (i := 0) dX12_isDamp_7 rfl rfl ?_
          refine gX12_24 rfl dX12_isDamp_8 (isM_0 hM) ?_
          refine a_iconst (v := 0) dX12_isDamp_11 (by decide) ?_
          refine a_ialdN dX12_isDamp_12 (isM_26 hM) (by first | exact (show (0 : Int32) = nI 0 from rfl) | with_reducible exact rfl | with_reducible exact ix8 _ _ | with_reducible exact ix12 _ _ | exact rfl) (by omega) (by decide) ?_
          rw [hd]
          refine a_if_ne (tg := 18) dX12_isDamp_13 (by decide) (fun c_13 => ?_) (fun c_13 => ?_)
          · refine a_aload_n (i := 0) dX12_isDamp_18 rfl rfl ?_
            refine gX12_24 rfl dX12_isDamp_19 (isM_0 hM) ?_
            refine a_iconst (v := 0) dX12_isDamp_22 (by decide) ?_
            refine a_ialdN dX12_isDamp_23 (isM_26 hM) (by first | exact (show (0 : Int32) = nI 0 from rfl) | with_reducible exact rfl | with_reducible exact ix8 _ _ | with_reducible exact ix12 _ _ | exact rfl) (by omega) (by decide) ?_
            rw [hd]
            refine a_bipush (v := 100) dX12_isDamp_24 (by decide) ?_
            refine a_icmp_ne (tg := 31) dX12_isDamp_26 (by decide) (fun c_26 => ?_) (fun c_26 => ?_)
            · refine a_aload_n (i := 0) dX12_isDamp_31 rfl rfl ?_
              refine gX12_411 rfl dX12_isDamp_32 (isM_0 hM) ?_
              rw [f0]
              refine a_if_eq (tg := 61) dX12_isDamp_35 (by decide) (fun c_35 => ?_) (fun c_35 => ?_)
              · refine a_aload_n (i := 0) dX12_isDamp_61 rfl rfl ?_
                refine gX12_24 rfl dX12_isDamp_62 (isM_0 hM) ?_
                refine a_iconst (v := 0) dX12_isDamp_65 (by decide) ?_
                refine a_ialdN dX12_isDamp_66 (isM_26 hM) (by first | exact (show (0 : Int32) = nI 0 from rfl) | with_reducible exact rfl | with_reducible exact ix8 _ _ | with_reducible exact ix12 _ _ | exact rfl) (by omega) (by decide) ?_
                rw [hd]
                refine a_bipush (v := 50) dX12_isDamp_67 (by decide) ?_
                refine a_icmp_lt (tg := 76) dX12_isDamp_69 (by decide) (fun c_69 => ?_) (fun c_69 => ?_)
                · have q := bI_f (p := 50 ≤ T.1 5) (fun g => absurd c_69 (nI_nlt g (by omega)))
                  refine a_iconst (v := 0) dX12_isDamp_76 (by decide) ?_
                  exact a_iret dX12_isDamp_77 (by rw [q]; exact ⟨rfl, rfl⟩)
                · have q := bI_t (p := 50 ≤ T.1 5) (by rcases Nat.lt_or_ge (T.1 5) 50 with g | g; exact absurd (nI_lt g (by decide)) c_69; exact g)
                  refine a_iconst (v := 1) dX12_isDamp_72 (by decide) ?_
                  refine a_goto (tg := 77) dX12_isDamp_73 (by decide) ?_
                  exact a_iret dX12_isDamp_77 (by rw [q]; exact ⟨rfl, rfl⟩)
              · exact absurd (bI_f c6) c_35
            · exact absurd c_26 nd1
          · exact absurd c_13 nd0
