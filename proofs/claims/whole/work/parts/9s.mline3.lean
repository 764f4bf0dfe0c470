/-! READING, the model: the line of a wedding -/
section qAZ
variable {l : Launch} {d : Nat} {D : Nat → Bool} {x y : aS} {n : Nat} {B : Nat → Nat} {r r' : zP} {T : zT}
theorem namP_ok {f : Nat → Int32} {N : Nat} (hN : N < 2 ^ 31) (h : (namP B n f N r).1.2.1 = 0) : r.2.1 = 0 ∧ (tok B n r.1).1 = 22 ∧ ∃ k, k < N ∧ zFind f (nI (tok B n r.1).2.1) 0 N = nI k ∧ f k = nI (tok B n r.1).2.1 ∧ (namP B n f N r).2 = k ∧ (namP B n f N r).1 = pGo B n r := by
  unfold namP at h ⊢
  by_cases h0 : r.2.1 = 0
  · rw [if_neg (fun e => e h0)] at h ⊢
    by_cases q : (tok B n r.1).1 = 22
    · rw [if_neg (fun e => e q)] at h ⊢
      by_cases w : zFind f (nI (tok B n r.1).2.1) 0 N = -1
      · rw [if_pos w] at h; exact absurd h (by show ¬ 4 = 0; decide)
      · rw [if_neg w]
        rcases zFind_of (f := f) (a := nI (tok B n r.1).2.1) N 0 (by omega) with e | ⟨k, _, k2, ek, fk⟩
        · exact absurd e w
        · exact ⟨h0, q, k, by omega, ek, fk, by show (zFind f (nI (tok B n r.1).2.1) 0 N).toNatClampNeg = k; rw [ek, nI_clamp (by omega)], rfl⟩
    · rw [if_pos q] at h; exact absurd h (by show ¬ 1 = 0; decide)
  · rw [if_pos h0] at h; exact absurd h h0
set_option maxHeartbeats 4000000 in
set_option maxRecDepth 100000 in
theorem c_X12_wedLine (hM : D 12 = true) (hb : mBt n B x) (hr : mP n B r x) (h0 : r.2.1 = 0) (hT : rTM T (shr x)) (bd : tBd T) : aCt l mX12_wedLine (d + 3) D [.ref bM] x (fun v y => v = some (.int (bI (decide ((lnWed B n T r).2.2.1 = 0)))) ∧ mP n B (lnWed B n T r).2 y ∧ ((lnWed B n T r).2.2.1 = 0 → rTM (lnWed B n T r).1 (shr y)) ∧ mW (lnC 21 39 41 (6 + T.1 3)) x y) := by
  refine a_met (by decide) (Nat.le_of_ble_eq_true rfl) (fun v y q => Or.inr (Or.inl ⟨rfl, _, q.1, bI_01 _⟩)) ?_
  obtain ⟨k, hk⟩ : ∃ k, k = T.1 3 := ⟨_, rfl⟩
  have c18 : x.1 bM 21 = nI k := by rw [hk]; exact hT.2.2.2.1
  have k6 : k ≤ 6 := by rw [hk]; exact bd.2.2.2.1
  have h8 := bd.2.1
  unfold lnWed
  rw [← hk]
  by_cases q : 6 ≤ k
  · rw [if_pos q, bI_f (show ¬ (pFl B n 2 r).2.1 = 0 from by show ¬ 2 = 0; decide)]
    have e6 : k = 6 := by omega
    have fl := mP_fl (c := 2) hr h0 (by decide)
    rw [e6] at c18
    refine a_aload_n (i := 0) dX12_wedLine_0 rfl rfl ?_
    refine gX12_246 rfl dX12_wedLine_1 (isM_0 hM) ?_
    rw [c18]
    refine a_bipush (v := 6) dX12_wedLine_4 (by decide) ?_
    refine a_icmp_ne (tg := 15) dX12_wedLine_6 (by decide) (fun c_6 => ?_) (fun c_6 => ?_)
    · exact absurd rfl c_6
    · refine a_aload_n (i := 0) dX12_wedLine_9 rfl rfl ?_
      refine a_iconst (v := 2) dX12_wedLine_10 (by decide) ?_
      refine kX12_217 rfl dX12_wedLine_11 (Nat.le_of_ble_eq_true rfl) (isM_0 hM) (c_X12_wrong (c := 2) hM) ?_
      exact a_iret dX12_wedLine_14 (by exact ⟨rfl, fl.1, fun e => absurd e (by show ¬ 2 = 0; decide), mW_u fl.2⟩)
  · rw [if_neg q]
    have nm2 : ∀ y : aS, mW (lnC 21 39 41 (6 + k)) x y → y.1 bM 19 = nI (T.1 1) ∧ ∀ i, i < T.1 1 → y.1 (bM + 29) (8 + i) = T.2.1 2 i := fun y F => ⟨by rw [F.1 _ _ (fun e => by unfold mUc at e; omega) (fun e => by unfold lnC at e; omega)]; exact hT.2.1, fun i hi => by rw [F.1 _ _ (fun e => by unfold mUc at e; omega) (fun e => by unfold lnC at e; omega)]; exact (hT.2.2.2.2.2.2.2.2.2.1 i hi).1⟩
    refine a_aload_n (i := 0) dX12_wedLine_0 rfl rfl ?_
    refine gX12_246 rfl dX12_wedLine_1 (isM_0 hM) ?_
    rw [c18]
    refine a_bipush (v := 6) dX12_wedLine_4 (by decide) ?_
    refine a_icmp_ne (tg := 15) dX12_wedLine_6 (by decide) (fun c_6 => ?_) (fun c_6 => ?_)
    · refine a_aload_n (i := 0) dX12_wedLine_15 rfl rfl ?_
      refine kgX12_227 rfl dX12_wedLine_16 (Nat.le_of_ble_eq_true rfl) (isM_0 hM) (c_X12_token hM hb (mP_n hr h0).1 (mP_n hr h0).2) ?_
      rintro v y2 ⟨rfl, u0, F⟩
      have r2 := mP_go hr h0 u0 F
      have b2 := mBt_u hb (mU_s F)
      have F2 : mW (lnC 21 39 41 (6 + k)) x y2 := mW_u (mU_s F)
      have c2 : y2.1 bM 21 = nI k := by rw [(mU_s F).1 _ _ (fun e => by unfold mUc at e; omega) (fun e => e)]; exact c18
      obtain ⟨d2, n2⟩ := nm2 y2 F2
      refine a_bipush (v := 6) dX12_wedLine_19 (by decide) ?_
      refine a_aload_n (i := 0) dX12_wedLine_21 rfl rfl ?_
      refine gX12_246 rfl dX12_wedLine_22 (isM_0 hM) ?_
      rw [c2]
      refine a_iadd dX12_wedLine_25 ?_
      rw [show (6 : Int32) + nI k = nI (6 + k) from nI_add 6 k]
      refine a_istore_n (i := 1) dX12_wedLine_26 rfl (by decide) ?_
      refine a_aload_n (i := 0) dX12_wedLine_27 rfl rfl ?_
      refine a_aload_n (i := 0) dX12_wedLine_28 rfl rfl ?_
      refine gX12_33 rfl dX12_wedLine_29 (isM_0 hM) ?_
      refine a_bipush (v := 8) dX12_wedLine_32 (by decide) ?_
      refine a_aload_n (i := 0) dX12_wedLine_34 rfl rfl ?_
      refine gX12_240 rfl dX12_wedLine_35 (isM_0 hM) ?_
      rw [d2]
      refine kgX12_291 rfl dX12_wedLine_38 (Nat.le_of_ble_eq_true rfl) (isM_0 hM) (c_X12_thereIn (c := 8) (f := T.2.1 2) (N := T.1 1) hM b2 r2 rfl (isM_29 hM) (by omega) (by decide) n2) ?_
      rintro v y3 ⟨rfl, r3, g3, G3⟩
      have F3 := mW_t F2 (mW_u G3)
      have r3 : mP n B (we1 B n T r).1 y3 := r3
      refine a_if_ne (tg := 46) dX12_wedLine_41 (by decide) (fun c_41 => ?_) (fun c_41 => ?_)
      · have good1 : (we1 B n T r).1.2.1 = 0 := bI_nz.mp c_41
        have got := g3 good1
        obtain ⟨-, t1, k1, hk1, z1, f1, v1, p1⟩ := namP_ok (by omega) good1
        have w1 : (we1 B n T r).2 = k1 := v1
        refine a_aload_n (i := 0) dX12_wedLine_46 rfl rfl ?_
        refine gX12_63 rfl dX12_wedLine_47 (isM_0 hM) ?_
        refine a_iload_n (i := 1) dX12_wedLine_50 rfl rfl ?_
        refine a_aload_n (i := 0) dX12_wedLine_51 rfl rfl ?_
        refine gX12_224 rfl dX12_wedLine_52 (isM_0 hM) ?_
        rw [got]
        refine a_iastN dX12_wedLine_55 (isM_39 hM) (by first | with_reducible exact rfl | with_reducible exact ix8 _ _ | with_reducible exact ix12 _ _ | exact rfl) (by omega) (by decide) ?_
        change aV _ _ _ _ _ _ _ _ (aWr y3 (bM + 39) (6 + k) (nI (we1 B n T r).2)) _
        obtain ⟨z4, hz4⟩ : ∃ z, z = aWr y3 (bM + 39) (6 + k) (nI (we1 B n T r).2) := ⟨_, rfl⟩
        rw [← hz4]
        have z4r := mP_got (b := bM + 39) (i := (6 + k)) (v := (nI (we1 B n T r).2)) r3 (by decide)
        rw [← hz4] at z4r
        have z4F : mW (lnC 21 39 41 (6 + k)) x z4 := by rw [hz4]; exact mW_t F3 (mW_wl (by decide) (by decide))
        have z4b := mBt_W (lnC_b (by decide) (by decide)) hb z4F
        have a4 : z4.1 bM 10 = nI (tok B n (we1 B n T r).1.1).2.2.2.1 := (z4r.1 good1).2.1.2.1
        obtain ⟨d4, n4⟩ := nm2 z4 z4F
        refine a_aload_n (i := 0) dX12_wedLine_56 rfl rfl ?_
        refine gX12_184 rfl dX12_wedLine_57 (isM_0 hM) ?_
        rw [a4]
        refine a_istore_n (i := 2) dX12_wedLine_60 rfl (by decide) ?_
        refine a_aload_n (i := 0) dX12_wedLine_61 rfl rfl ?_
        refine a_aload_n (i := 0) dX12_wedLine_62 rfl rfl ?_
        refine gX12_33 rfl dX12_wedLine_63 (isM_0 hM) ?_
        refine a_bipush (v := 8) dX12_wedLine_66 (by decide) ?_
        refine a_aload_n (i := 0) dX12_wedLine_68 rfl rfl ?_
        refine gX12_240 rfl dX12_wedLine_69 (isM_0 hM) ?_
        rw [d4]
        refine kgX12_291 rfl dX12_wedLine_72 (Nat.le_of_ble_eq_true rfl) (isM_0 hM) (c_X12_thereIn (c := 8) (f := T.2.1 2) (N := T.1 1) hM z4b z4r good1 (isM_29 hM) (by omega) (by decide) n4) ?_
        rintro v y5 ⟨rfl, r5, g5, G5⟩
        have F5 := mW_t z4F (mW_u G5)
        have r5 : mP n B (we2 B n T r).1 y5 := r5
        refine a_if_ne (tg := 80) dX12_wedLine_75 (by decide) (fun c_75 => ?_) (fun c_75 => ?_)
        · have good2 : (we2 B n T r).1.2.1 = 0 := bI_nz.mp c_75
          have got2 := g5 good2
          obtain ⟨-, t2, k2, hk2, z2, f2, v2, p2⟩ := namP_ok (by omega) good2
          have w2 : (we2 B n T r).2 = k2 := v2
          refine a_aload_n (i := 0) dX12_wedLine_80 rfl rfl ?_
          refine gX12_66 rfl dX12_wedLine_81 (isM_0 hM) ?_
          refine a_iload_n (i := 1) dX12_wedLine_84 rfl rfl ?_
          refine a_aload_n (i := 0) dX12_wedLine_85 rfl rfl ?_
          refine gX12_224 rfl dX12_wedLine_86 (isM_0 hM) ?_
          rw [got2]
          refine a_iastN dX12_wedLine_89 (isM_40 hM) (by first | with_reducible exact rfl | with_reducible exact ix8 _ _ | with_reducible exact ix12 _ _ | exact rfl) (by omega) (by decide) ?_
          change aV _ _ _ _ _ _ _ _ (aWr y5 (bM + 40) (6 + k) (nI (we2 B n T r).2)) _
          obtain ⟨z6, hz6⟩ : ∃ z, z = aWr y5 (bM + 40) (6 + k) (nI (we2 B n T r).2) := ⟨_, rfl⟩
          rw [← hz6]
          have z6r := mP_got (b := bM + 40) (i := (6 + k)) (v := (nI (we2 B n T r).2)) r5 (by decide)
          rw [← hz6] at z6r
          have z6F : mW (lnC 21 39 41 (6 + k)) x z6 := by rw [hz6]; exact mW_t F5 (mW_wl (by decide) (by decide))
          have z6b := mBt_W (lnC_b (by decide) (by decide)) hb z6F
          have e40 : z6.1 (bM + 40) (6 + k) = nI (we2 B n T r).2 := by rw [hz6, aWr_s]
          have e39 : z6.1 (bM + 39) (6 + k) = nI (we1 B n T r).2 := by rw [hz6, aWr_n _ _ _ (by decide), mU_f (by decide) G5, hz4, aWr_s]
          refine a_aload_n (i := 0) dX12_wedLine_90 rfl rfl ?_
          refine gX12_66 rfl dX12_wedLine_91 (isM_0 hM) ?_
          refine a_iload_n (i := 1) dX12_wedLine_94 rfl rfl ?_
          refine a_ialdN dX12_wedLine_95 (isM_40 hM) (by first | with_reducible exact rfl | with_reducible exact ix8 _ _ | with_reducible exact ix12 _ _ | exact rfl) (by omega) (by decide) ?_
          rw [e40]
          refine a_aload_n (i := 0) dX12_wedLine_96 rfl rfl ?_
          refine gX12_63 rfl dX12_wedLine_97 (isM_0 hM) ?_
          refine a_iload_n (i := 1) dX12_wedLine_100 rfl rfl ?_
          refine a_ialdN dX12_wedLine_101 (isM_39 hM) (by first | with_reducible exact rfl | with_reducible exact ix8 _ _ | with_reducible exact ix12 _ _ | exact rfl) (by omega) (by decide) ?_
          rw [e39]
          refine a_icmp_ne (tg := 116) dX12_wedLine_102 (by decide) (fun c_102 => ?_) (fun c_102 => ?_)
          · have nc : ¬ ((we1 B n T r).1.2.1 = 0 ∧ (tok B n (we1 B n T r).1.1).1 = 22 ∧ (tok B n (we1 B n T r).1.1).2.1 = (tok B n (pGo B n r).1).2.1) := fun e => c_102 (by rw [w1, w2]; rw [e.2.2] at z2; exact z2.symm.trans z1)
            rw [if_neg nc]
            refine a_aload_n (i := 0) dX12_wedLine_116 rfl rfl ?_
            refine a_iconst (v := 0) dX12_wedLine_117 (by decide) ?_
            refine a_bipush (v := 99) dX12_wedLine_118 (by decide) ?_
            refine kgX12_233 rfl dX12_wedLine_120 (Nat.le_of_ble_eq_true rfl) (isM_0 hM) (c_X12_number (lo := 0) (hi := 99) hM z6b z6r good2 (by decide) (by decide)) ?_
            rintro v y7 ⟨rfl, y7r, y7g, y7G⟩
            have y7F := mW_t z6F (mW_u y7G)
            have y7r : mP n B (we3 B n T r).1 y7 := y7r
            refine a_if_ne (tg := 128) dX12_wedLine_123 (by decide) (fun c_123 => ?_) (fun c_123 => ?_)
            · have y7good : (we3 B n T r).1.2.1 = 0 := bI_nz.mp c_123
              have y7got := y7g y7good
              refine a_aload_n (i := 0) dX12_wedLine_128 rfl rfl ?_
              refine gX12_69 rfl dX12_wedLine_129 (isM_0 hM) ?_
              refine a_iload_n (i := 1) dX12_wedLine_132 rfl rfl ?_
              refine a_aload_n (i := 0) dX12_wedLine_133 rfl rfl ?_
              refine gX12_224 rfl dX12_wedLine_134 (isM_0 hM) ?_
              rw [y7got]
              refine a_iastN dX12_wedLine_137 (isM_41 hM) (by first | with_reducible exact rfl | with_reducible exact ix8 _ _ | with_reducible exact ix12 _ _ | exact rfl) (by omega) (by decide) ?_
              change aV _ _ _ _ _ _ _ _ (aWr y7 (bM + 41) (6 + k) (nI (we3 B n T r).2)) _
              obtain ⟨z7, hz7⟩ : ∃ z, z = aWr y7 (bM + 41) (6 + k) (nI (we3 B n T r).2) := ⟨_, rfl⟩
              rw [← hz7]
              have z7r := mP_got (b := bM + 41) (i := (6 + k)) (v := (nI (we3 B n T r).2)) y7r (by decide)
              rw [← hz7] at z7r
              have z7F : mW (lnC 21 39 41 (6 + k)) x z7 := by rw [hz7]; exact mW_t y7F (mW_wl (by decide) (by decide))
              have z7b := mBt_W (lnC_b (by decide) (by decide)) hb z7F
              refine a_aload_n (i := 0) dX12_wedLine_138 rfl rfl ?_
              refine a_dup dX12_wedLine_139 rfl ?_
              refine gX12_246 rfl dX12_wedLine_140 (isM_0 hM) ?_
              rw [show z7.1 bM 21 = nI k from by rw [hz7, aWr_n _ _ _ (by decide), y7G.1 _ _ (fun e => by unfold mUc at e; omega) (fun e => e), hz6, aWr_n _ _ _ (by decide), G5.1 _ _ (fun e => by unfold mUc at e; omega) (fun e => e), hz4, aWr_n _ _ _ (by decide), G3.1 _ _ (fun e => by unfold mUc at e; omega) (fun e => e)]; exact c2]
              refine a_iconst (v := 1) dX12_wedLine_143 (by decide) ?_
              refine a_iadd dX12_wedLine_144 ?_
              rw [nI_1]
              refine pX12_246 rfl dX12_wedLine_145 (isM_0 hM) ?_
              refine a_iconst (v := 1) dX12_wedLine_148 (by decide) ?_
              refine a_iret dX12_wedLine_149 ?_
              refine ⟨by show _ = some (Value.int (bI (decide ((we3 B n T r).1.2.1 = 0)))); rw [bI_t y7good], mP_w z7r (Or.inr (by decide)), fun _ => ?_, mW_t z7F mW_wa⟩
              refine rTM_wed (x := shr x) hT bd hk (by omega) (shr_fr (a := 21) (by decide) hlf_39 (by decide) (mW_t z7F mW_wa)) ?_ ?_ ?_ ?_
              · rw [shr_r _ (by decide) (show hlf 39 = 6 from rfl), aWr_n _ _ _ (by decide), hz7, aWr_n _ _ _ (by decide), mU_f (by decide) y7G]; exact e39
              · rw [shr_r _ (by decide) (show hlf 40 = 6 from rfl), aWr_n _ _ _ (by decide), hz7, aWr_n _ _ _ (by decide), mU_f (by decide) y7G]; exact e40
              · rw [shr_r _ (by decide) (show hlf 41 = 6 from rfl), aWr_n _ _ _ (by decide), hz7, aWr_s]
              · rw [shr_0, aWr_s]
            · have bad : ¬ (we3 B n T r).1.2.1 = 0 := fun e => bI_nz.mpr e c_123
              refine a_iconst (v := 0) dX12_wedLine_126 (by decide) ?_
              exact a_iret dX12_wedLine_127 (by exact ⟨by show _ = some (Value.int (bI (decide ((we3 B n T r).1.2.1 = 0)))); rw [bI_f bad], y7r, fun e => absurd e bad, y7F⟩)
          · have ee : k2 = k1 := by rw [w1, w2] at c_102; exact (nI_eq (by omega) (by omega)).mp c_102
            have vv : (tok B n (we1 B n T r).1.1).2.1 = (tok B n (pGo B n r).1).2.1 := by rw [ee] at f2; exact (nI_eq (by have := (tok_ok (B := B) (z4r.1 good1).1).2.2.2.2.2.2.1; omega) (by have := (tok_ok (B := B) (r2.1 rfl).1).2.2.2.2.2.2.1; omega)).mp (f2.symm.trans f1)
            rw [if_pos ⟨good1, t2, vv⟩]
            refine a_aload_n (i := 0) dX12_wedLine_105 rfl rfl ?_
            refine a_iload_n (i := 2) dX12_wedLine_106 rfl rfl ?_
            refine pX12_184 rfl dX12_wedLine_107 (isM_0 hM) ?_
            refine a_aload_n (i := 0) dX12_wedLine_110 rfl rfl ?_
            refine a_iconst (v := 5) dX12_wedLine_111 (by decide) ?_
            refine kX12_217 rfl dX12_wedLine_112 (Nat.le_of_ble_eq_true rfl) (isM_0 hM) (c_X12_wrong (c := 5) hM) ?_
            rw [aWr_s]
            refine a_iret dX12_wedLine_115 ?_
            refine ⟨by rw [bI_f (show ¬ (pFl B n 5 (we1 B n T r).1).2.1 = 0 from by show ¬ 5 = 0; decide)], ⟨fun e => absurd e (by show ¬ 5 = 0; decide), fun _ => ⟨by rw [aWr_j _ _ _ (by decide), aWr_s]; rfl, by rw [aWr_s]; rfl⟩⟩, fun e => absurd e (by show ¬ 5 = 0; decide), ?_⟩
            exact mW_t z6F (mW_t (mW_w (Or.inl ⟨rfl, by omega⟩)) (mW_t (mW_w (Or.inl ⟨rfl, by omega⟩)) (mW_w (Or.inl ⟨rfl, by omega⟩))))
        · have bad : ¬ (we2 B n T r).1.2.1 = 0 := fun e => bI_nz.mpr e c_75
          have e3 : (we3 B n T r).1 = (we2 B n T r).1 := by unfold we3; rw [numP_f bad]
          have nc : ¬ ((we1 B n T r).1.2.1 = 0 ∧ (tok B n (we1 B n T r).1.1).1 = 22 ∧ (tok B n (we1 B n T r).1.1).2.1 = (tok B n (pGo B n r).1).2.1) := fun e => bad (by unfold we2 namP; rw [if_neg (fun g => g e.1), if_neg (fun g => g e.2.1), e.2.2, z1, if_neg (nI_m1 (by omega))]; rfl)
          rw [if_neg nc]
          refine a_iconst (v := 0) dX12_wedLine_78 (by decide) ?_
          exact a_iret dX12_wedLine_79 (by exact ⟨by show _ = some (Value.int (bI (decide ((we3 B n T r).1.2.1 = 0)))); rw [e3, bI_f bad], by show mP n B (we3 B n T r).1 _; rw [e3]; exact r5, fun e => absurd e (by show ¬ (we3 B n T r).1.2.1 = 0; rw [e3]; exact bad), F5⟩)
      · have bad : ¬ (we1 B n T r).1.2.1 = 0 := fun e => bI_nz.mpr e c_41
        have e3 : (we3 B n T r).1 = (we1 B n T r).1 := by unfold we3 we2; rw [namP_f bad, numP_f bad]
        rw [if_neg (fun e => bad e.1)]
        refine a_iconst (v := 0) dX12_wedLine_44 (by decide) ?_
        exact a_iret dX12_wedLine_45 (by exact ⟨by show _ = some (Value.int (bI (decide ((we3 B n T r).1.2.1 = 0)))); rw [e3, bI_f bad], by show mP n B (we3 B n T r).1 _; rw [e3]; exact r3, fun e => absurd e (by show ¬ (we3 B n T r).1.2.1 = 0; rw [e3]; exact bad), F3⟩)
    · exact absurd ((nI_eq (b := 6) (by omega) (by decide)).mp c_6) (by omega)
end qAZ

