/-! READING, the model: the lines of folk, deeds, weddings, once -/
section qAY
variable {l : Launch} {d : Nat} {D : Nat → Bool} {x y : aS} {n : Nat} {B : Nat → Nat} {r r' : zP} {T : zT}
theorem mn_1 (h : ¬ (mn1 B n T r).1.2.1 = 0) : (mn4 B n T r).1 = (mn1 B n T r).1 := by unfold mn4 mn3 mn2; rw [numP_f h, numP_f h, numP_f h]
theorem mn_2 (h : ¬ (mn2 B n T r).1.2.1 = 0) : (mn4 B n T r).1 = (mn2 B n T r).1 := by unfold mn4 mn3; rw [numP_f h, numP_f h]
theorem mn_3 (h : ¬ (mn3 B n T r).1.2.1 = 0) : (mn4 B n T r).1 = (mn3 B n T r).1 := by unfold mn4; rw [numP_f h]
theorem de_1 (h : ¬ (de1 B n T r).1.2.1 = 0) : (de4 B n T r).1 = (de1 B n T r).1 := by unfold de4 de3 de2; rw [numP_f h, numP_f h, numP_f h]
theorem de_2 (h : ¬ (de2 B n T r).1.2.1 = 0) : (de4 B n T r).1 = (de2 B n T r).1 := by unfold de4 de3; rw [numP_f h, numP_f h]
theorem de_3 (h : ¬ (de3 B n T r).1.2.1 = 0) : (de4 B n T r).1 = (de3 B n T r).1 := by unfold de4; rw [numP_f h]
set_option maxHeartbeats 4000000 in
set_option maxRecDepth 100000 in
theorem c_X12_manLine (hM : D 12 = true) (hb : mBt n B x) (hr : mP n B r x) (h0 : r.2.1 = 0) (hT : rTM T (shr x)) (bd : tBd T) : aCt l mX12_manLine (d + 3) D [.ref bM] x (fun v y => v = some (.int (bI (decide ((lnMan B n T r).2.2.1 = 0)))) ∧ mP n B (lnMan B n T r).2 y ∧ ((lnMan B n T r).2.2.1 = 0 → rTM (lnMan B n T r).1 (shr y)) ∧ mW (lnC 19 29 33 (8 + T.1 1)) x y) := by
  refine a_met (by decide) (Nat.le_of_ble_eq_true rfl) (fun v y q => Or.inr (Or.inl ⟨rfl, _, q.1, bI_01 _⟩)) ?_
  obtain ⟨k, hk⟩ : ∃ k, k = T.1 1 := ⟨_, rfl⟩
  have hk0 := hk.symm
  have c18 : x.1 bM 19 = nI k := by rw [hk]; exact hT.2.1
  have k6 : k ≤ 8 := by rw [hk]; exact bd.2.1
  have h6 := bd.1
  unfold lnMan
  rw [← hk]
  by_cases q : 8 ≤ k
  · rw [if_pos q, bI_f (show ¬ (pFl B n 2 r).2.1 = 0 from by show ¬ 2 = 0; decide)]
    have e6 : k = 8 := by omega
    have fl := mP_fl (c := 2) hr h0 (by decide)
    rw [e6] at c18
    refine a_aload_n (i := 0) dX12_manLine_0 rfl rfl ?_
    refine gX12_240 rfl dX12_manLine_1 (isM_0 hM) ?_
    rw [c18]
    refine a_bipush (v := 8) dX12_manLine_4 (by decide) ?_
    refine a_icmp_ne (tg := 15) dX12_manLine_6 (by decide) (fun c_6 => ?_) (fun c_6 => ?_)
    · exact absurd rfl c_6
    · refine a_aload_n (i := 0) dX12_manLine_9 rfl rfl ?_
      refine a_iconst (v := 2) dX12_manLine_10 (by decide) ?_
      refine kX12_217 rfl dX12_manLine_11 (Nat.le_of_ble_eq_true rfl) (isM_0 hM) (c_X12_wrong (c := 2) hM) ?_
      exact a_iret dX12_manLine_14 (by exact ⟨rfl, fl.1, fun e => absurd e (by show ¬ 2 = 0; decide), mW_u fl.2⟩)
  · rw [if_neg q]
    have nm2 : ∀ y : aS, mW (lnC 19 29 33 (8 + k)) x y → y.1 bM 19 = y.1 bM 19 ∧ y.1 bM 18 = nI (T.1 0) ∧ ∀ i, i < T.1 0 → y.1 (bM + 27) (6 + i) = T.2.1 0 i := fun y F => ⟨rfl, by rw [F.1 _ _ (fun e => by unfold mUc at e; omega) (fun e => by unfold lnC at e; omega)]; exact hT.1, fun i hi => by rw [F.1 _ _ (fun e => by unfold mUc at e; omega) (fun e => by unfold lnC at e; omega)]; exact (hT.2.2.2.2.2.2.2.2.1 i hi).1⟩
    by_cases q1 : (newP B n (T.2.1 2) k (pGo B n r)).2.1 = 0
    · rw [if_neg (fun e => e q1)]
      refine a_aload_n (i := 0) dX12_manLine_0 rfl rfl ?_
      refine gX12_240 rfl dX12_manLine_1 (isM_0 hM) ?_
      rw [c18]
      refine a_bipush (v := 8) dX12_manLine_4 (by decide) ?_
      refine a_icmp_ne (tg := 15) dX12_manLine_6 (by decide) (fun c_6 => ?_) (fun c_6 => ?_)
      · refine a_aload_n (i := 0) dX12_manLine_15 rfl rfl ?_
        refine kgX12_227 rfl dX12_manLine_16 (Nat.le_of_ble_eq_true rfl) (isM_0 hM) (c_X12_token hM hb (mP_n hr h0).1 (mP_n hr h0).2) ?_
        rintro v y1 ⟨rfl, u0, F⟩
        have r1 := mP_go hr h0 u0 F
        have b1 := mBt_u hb (mU_s F)
        have F1 : mW (lnC 19 29 33 (8 + k)) x y1 := mW_u (mU_s F)
        have c1 : y1.1 bM 19 = nI k := by rw [(mU_s F).1 _ _ (fun e => by unfold mUc at e; omega) (fun e => e)]; exact c18
        have n1 : ∀ i, i < k → y1.1 (bM + 29) (8 + i) = T.2.1 2 i := fun i hi => by rw [mU_f (by decide) (mU_s F)]; exact (hT.2.2.2.2.2.2.2.2.2.1 i (by omega)).1
        refine a_aload_n (i := 0) dX12_manLine_19 rfl rfl ?_
        refine a_aload_n (i := 0) dX12_manLine_20 rfl rfl ?_
        refine gX12_33 rfl dX12_manLine_21 (isM_0 hM) ?_
        refine a_bipush (v := 8) dX12_manLine_24 (by decide) ?_
        refine a_aload_n (i := 0) dX12_manLine_26 rfl rfl ?_
        refine gX12_240 rfl dX12_manLine_27 (isM_0 hM) ?_
        rw [c1]
        refine kgX12_287 rfl dX12_manLine_30 (Nat.le_of_ble_eq_true rfl) (isM_0 hM) (c_X12_newName (c := 8) (f := T.2.1 2) hM b1 r1 rfl (isM_29 hM) (by omega) (by decide) n1 (by decide)) ?_
        rintro v y2 ⟨rfl, -, g2, G2⟩
        obtain ⟨r2, w2⟩ := g2 q1
        have F2 := mW_t F1 (mW_nw (a := 19) (lo := 29) (hi := 33) (by decide) (by decide) G2)
        have b2 := mBt_W (lnC_b (by decide) (by decide)) hb F2
        obtain ⟨-, d2, n2⟩ := nm2 y2 F2
        have c2 : y2.1 bM 19 = nI k := by rw [G2.1 _ _ (fun e => by unfold mUc at e; omega) (fun e => by unfold nwC at e; omega)]; exact c1
        rw [bI_t q1]
        refine a_if_ne (tg := 38) dX12_manLine_33 (by decide) (fun c_33 => ?_) (fun c_33 => ?_)
        · refine a_bipush (v := 8) dX12_manLine_38 (by decide) ?_
          refine a_aload_n (i := 0) dX12_manLine_40 rfl rfl ?_
          refine gX12_240 rfl dX12_manLine_41 (isM_0 hM) ?_
          rw [c2]
          refine a_iadd dX12_manLine_44 ?_
          rw [show (8 : Int32) + nI k = nI (8 + k) from nI_add 8 k]
          refine a_istore_n (i := 1) dX12_manLine_45 rfl (by decide) ?_
          refine a_aload_n (i := 0) dX12_manLine_46 rfl rfl ?_
          refine a_aload_n (i := 0) dX12_manLine_47 rfl rfl ?_
          refine gX12_27 rfl dX12_manLine_48 (isM_0 hM) ?_
          refine a_bipush (v := 6) dX12_manLine_51 (by decide) ?_
          refine a_aload_n (i := 0) dX12_manLine_53 rfl rfl ?_
          refine gX12_237 rfl dX12_manLine_54 (isM_0 hM) ?_
          rw [d2]
          refine kgX12_291 rfl dX12_manLine_57 (Nat.le_of_ble_eq_true rfl) (isM_0 hM) (c_X12_thereIn (c := 6) (f := T.2.1 0) (N := T.1 0) hM b2 r2 rfl (isM_27 hM) (by have := bd.1; omega) (by decide) n2) ?_
          rintro v y3 ⟨rfl, r3, g3, G3⟩
          have F3 := mW_t F2 (mW_u G3)
          have r3 : mP n B (mn1 B n T r).1 y3 := r3
          refine a_if_ne (tg := 65) dX12_manLine_60 (by decide) (fun c_60 => ?_) (fun c_60 => ?_)
          · have good1 : (mn1 B n T r).1.2.1 = 0 := bI_nz.mp c_60
            have got := g3 good1
            refine a_aload_n (i := 0) dX12_manLine_65 rfl rfl ?_
            refine gX12_36 rfl dX12_manLine_66 (isM_0 hM) ?_
            refine a_iload_n (i := 1) dX12_manLine_69 rfl rfl ?_
            refine a_aload_n (i := 0) dX12_manLine_70 rfl rfl ?_
            refine gX12_224 rfl dX12_manLine_71 (isM_0 hM) ?_
            rw [got]
            refine a_iastN dX12_manLine_74 (isM_30 hM) (by first | with_reducible exact rfl | with_reducible exact ix8 _ _ | with_reducible exact ix12 _ _ | exact rfl) (by omega) (by decide) ?_
            change aV _ _ _ _ _ _ _ _ (aWr y3 (bM + 30) (8 + k) (nI (mn1 B n T r).2)) _
            obtain ⟨z4, hz4⟩ : ∃ z, z = aWr y3 (bM + 30) (8 + k) (nI (mn1 B n T r).2) := ⟨_, rfl⟩
            rw [← hz4]
            have z4r := mP_got (b := bM + 30) (i := (8 + k)) (v := (nI (mn1 B n T r).2)) r3 (by decide)
            rw [← hz4] at z4r
            have z4F : mW (lnC 19 29 33 (8 + k)) x z4 := by rw [hz4]; exact mW_t F3 (mW_wl (by decide) (by decide))
            have z4b := mBt_W (lnC_b (by decide) (by decide)) hb z4F
            refine a_aload_n (i := 0) dX12_manLine_75 rfl rfl ?_
            refine a_iconst (v := 0) dX12_manLine_76 (by decide) ?_
            refine a_bipush (v := 99) dX12_manLine_77 (by decide) ?_
            refine kgX12_233 rfl dX12_manLine_79 (Nat.le_of_ble_eq_true rfl) (isM_0 hM) (c_X12_number (lo := 0) (hi := 99) hM z4b z4r good1 (by decide) (by decide)) ?_
            rintro v y5 ⟨rfl, y5r, y5g, y5G⟩
            have y5F := mW_t z4F (mW_u y5G)
            have y5r : mP n B (mn2 B n T r).1 y5 := y5r
            refine a_if_ne (tg := 87) dX12_manLine_82 (by decide) (fun c_82 => ?_) (fun c_82 => ?_)
            · have y5good : (mn2 B n T r).1.2.1 = 0 := bI_nz.mp c_82
              have y5got := y5g y5good
              refine a_aload_n (i := 0) dX12_manLine_87 rfl rfl ?_
              refine gX12_39 rfl dX12_manLine_88 (isM_0 hM) ?_
              refine a_iload_n (i := 1) dX12_manLine_91 rfl rfl ?_
              refine a_aload_n (i := 0) dX12_manLine_92 rfl rfl ?_
              refine gX12_224 rfl dX12_manLine_93 (isM_0 hM) ?_
              rw [y5got]
              refine a_iastN dX12_manLine_96 (isM_31 hM) (by first | with_reducible exact rfl | with_reducible exact ix8 _ _ | with_reducible exact ix12 _ _ | exact rfl) (by omega) (by decide) ?_
              change aV _ _ _ _ _ _ _ _ (aWr y5 (bM + 31) (8 + k) (nI (mn2 B n T r).2)) _
              obtain ⟨z5, hz5⟩ : ∃ z, z = aWr y5 (bM + 31) (8 + k) (nI (mn2 B n T r).2) := ⟨_, rfl⟩
              rw [← hz5]
              have z5r := mP_got (b := bM + 31) (i := (8 + k)) (v := (nI (mn2 B n T r).2)) y5r (by decide)
              rw [← hz5] at z5r
              have z5F : mW (lnC 19 29 33 (8 + k)) x z5 := by rw [hz5]; exact mW_t y5F (mW_wl (by decide) (by decide))
              have z5b := mBt_W (lnC_b (by decide) (by decide)) hb z5F
              refine a_aload_n (i := 0) dX12_manLine_97 rfl rfl ?_
              refine a_iconst (v := 0) dX12_manLine_98 (by decide) ?_
              refine a_bipush (v := 7) dX12_manLine_99 (by decide) ?_
              refine kgX12_233 rfl dX12_manLine_101 (Nat.le_of_ble_eq_true rfl) (isM_0 hM) (c_X12_number (lo := 0) (hi := 7) hM z5b z5r y5good (by decide) (by decide)) ?_
              rintro v y6 ⟨rfl, y6r, y6g, y6G⟩
              have y6F := mW_t z5F (mW_u y6G)
              have y6r : mP n B (mn3 B n T r).1 y6 := y6r
              refine a_if_ne (tg := 109) dX12_manLine_104 (by decide) (fun c_104 => ?_) (fun c_104 => ?_)
              · have y6good : (mn3 B n T r).1.2.1 = 0 := bI_nz.mp c_104
                have y6got := y6g y6good
                refine a_aload_n (i := 0) dX12_manLine_109 rfl rfl ?_
                refine gX12_42 rfl dX12_manLine_110 (isM_0 hM) ?_
                refine a_iload_n (i := 1) dX12_manLine_113 rfl rfl ?_
                refine a_aload_n (i := 0) dX12_manLine_114 rfl rfl ?_
                refine gX12_224 rfl dX12_manLine_115 (isM_0 hM) ?_
                rw [y6got]
                refine a_iastN dX12_manLine_118 (isM_32 hM) (by first | with_reducible exact rfl | with_reducible exact ix8 _ _ | with_reducible exact ix12 _ _ | exact rfl) (by omega) (by decide) ?_
                change aV _ _ _ _ _ _ _ _ (aWr y6 (bM + 32) (8 + k) (nI (mn3 B n T r).2)) _
                obtain ⟨z6, hz6⟩ : ∃ z, z = aWr y6 (bM + 32) (8 + k) (nI (mn3 B n T r).2) := ⟨_, rfl⟩
                rw [← hz6]
                have z6r := mP_got (b := bM + 32) (i := (8 + k)) (v := (nI (mn3 B n T r).2)) y6r (by decide)
                rw [← hz6] at z6r
                have z6F : mW (lnC 19 29 33 (8 + k)) x z6 := by rw [hz6]; exact mW_t y6F (mW_wl (by decide) (by decide))
                have z6b := mBt_W (lnC_b (by decide) (by decide)) hb z6F
                refine a_aload_n (i := 0) dX12_manLine_119 rfl rfl ?_
                refine a_iconst (v := 0) dX12_manLine_120 (by decide) ?_
                refine a_bipush (v := 20) dX12_manLine_121 (by decide) ?_
                refine kgX12_233 rfl dX12_manLine_123 (Nat.le_of_ble_eq_true rfl) (isM_0 hM) (c_X12_number (lo := 0) (hi := 20) hM z6b z6r y6good (by decide) (by decide)) ?_
                rintro v y7 ⟨rfl, y7r, y7g, y7G⟩
                have y7F := mW_t z6F (mW_u y7G)
                have y7r : mP n B (mn4 B n T r).1 y7 := y7r
                refine a_if_ne (tg := 131) dX12_manLine_126 (by decide) (fun c_126 => ?_) (fun c_126 => ?_)
                · have y7good : (mn4 B n T r).1.2.1 = 0 := bI_nz.mp c_126
                  have y7got := y7g y7good
                  refine a_aload_n (i := 0) dX12_manLine_131 rfl rfl ?_
                  refine gX12_45 rfl dX12_manLine_132 (isM_0 hM) ?_
                  refine a_iload_n (i := 1) dX12_manLine_135 rfl rfl ?_
                  refine a_aload_n (i := 0) dX12_manLine_136 rfl rfl ?_
                  refine gX12_224 rfl dX12_manLine_137 (isM_0 hM) ?_
                  rw [y7got]
                  refine a_iastN dX12_manLine_140 (isM_33 hM) (by first | with_reducible exact rfl | with_reducible exact ix8 _ _ | with_reducible exact ix12 _ _ | exact rfl) (by omega) (by decide) ?_
                  change aV _ _ _ _ _ _ _ _ (aWr y7 (bM + 33) (8 + k) (nI (mn4 B n T r).2)) _
                  obtain ⟨z7, hz7⟩ : ∃ z, z = aWr y7 (bM + 33) (8 + k) (nI (mn4 B n T r).2) := ⟨_, rfl⟩
                  rw [← hz7]
                  have z7r := mP_got (b := bM + 33) (i := (8 + k)) (v := (nI (mn4 B n T r).2)) y7r (by decide)
                  rw [← hz7] at z7r
                  have z7F : mW (lnC 19 29 33 (8 + k)) x z7 := by rw [hz7]; exact mW_t y7F (mW_wl (by decide) (by decide))
                  have z7b := mBt_W (lnC_b (by decide) (by decide)) hb z7F
                  refine a_aload_n (i := 0) dX12_manLine_141 rfl rfl ?_
                  refine a_dup dX12_manLine_142 rfl ?_
                  refine gX12_240 rfl dX12_manLine_143 (isM_0 hM) ?_
                  rw [show z7.1 bM 19 = nI k from by rw [hz7, aWr_n _ _ _ (by decide), y7G.1 _ _ (fun e => by unfold mUc at e; omega) (fun e => e), hz6, aWr_n _ _ _ (by decide), y6G.1 _ _ (fun e => by unfold mUc at e; omega) (fun e => e), hz5, aWr_n _ _ _ (by decide), y5G.1 _ _ (fun e => by unfold mUc at e; omega) (fun e => e), hz4, aWr_n _ _ _ (by decide), G3.1 _ _ (fun e => by unfold mUc at e; omega) (fun e => e)]; exact c2]
                  refine a_iconst (v := 1) dX12_manLine_146 (by decide) ?_
                  refine a_iadd dX12_manLine_147 ?_
                  rw [nI_1]
                  refine pX12_240 rfl dX12_manLine_148 (isM_0 hM) ?_
                  refine a_iconst (v := 1) dX12_manLine_151 (by decide) ?_
                  refine a_iret dX12_manLine_152 ?_
                  refine ⟨by show _ = some (Value.int (bI (decide ((mn4 B n T r).1.2.1 = 0)))); rw [bI_t y7good], mP_w z7r (Or.inr (by decide)), fun _ => ?_, mW_t z7F mW_wa⟩
                  refine rTM_man (x := shr x) hT bd hk (by omega) (shr_fr (a := 19) (by decide) hlf_29 (by decide) (mW_t z7F mW_wa)) ?_ ?_ ?_ ?_ ?_ ?_
                  · rw [shr_r _ (by decide) (show hlf 29 = 8 from rfl), aWr_n _ _ _ (by decide), hz7, aWr_n _ _ _ (by decide), mU_f (by decide) y7G, hz6, aWr_n _ _ _ (by decide), mU_f (by decide) y6G, hz5, aWr_n _ _ _ (by decide), mU_f (by decide) y5G, hz4, aWr_n _ _ _ (by decide), mU_f (by decide) G3]; exact w2
                  · rw [shr_r _ (by decide) (show hlf 30 = 8 from rfl), aWr_n _ _ _ (by decide), hz7, aWr_n _ _ _ (by decide), mU_f (by decide) y7G, hz6, aWr_n _ _ _ (by decide), mU_f (by decide) y6G, hz5, aWr_n _ _ _ (by decide), mU_f (by decide) y5G, hz4, aWr_s]
                  · rw [shr_r _ (by decide) (show hlf 31 = 8 from rfl), aWr_n _ _ _ (by decide), hz7, aWr_n _ _ _ (by decide), mU_f (by decide) y7G, hz6, aWr_n _ _ _ (by decide), mU_f (by decide) y6G, hz5, aWr_s]
                  · rw [shr_r _ (by decide) (show hlf 32 = 8 from rfl), aWr_n _ _ _ (by decide), hz7, aWr_n _ _ _ (by decide), mU_f (by decide) y7G, hz6, aWr_s]
                  · rw [shr_r _ (by decide) (show hlf 33 = 8 from rfl), aWr_n _ _ _ (by decide), hz7, aWr_s]
                  · rw [shr_0, aWr_s]
                · have bad : ¬ (mn4 B n T r).1.2.1 = 0 := fun e => bI_nz.mpr e c_126
                  refine a_iconst (v := 0) dX12_manLine_129 (by decide) ?_
                  exact a_iret dX12_manLine_130 (by exact ⟨by show _ = some (Value.int (bI (decide ((mn4 B n T r).1.2.1 = 0)))); rw [bI_f bad], y7r, fun e => absurd e bad, y7F⟩)
              · have bad : ¬ (mn3 B n T r).1.2.1 = 0 := fun e => bI_nz.mpr e c_104
                refine a_iconst (v := 0) dX12_manLine_107 (by decide) ?_
                exact a_iret dX12_manLine_108 (by exact ⟨by show _ = some (Value.int (bI (decide ((mn4 B n T r).1.2.1 = 0)))); rw [mn_3 bad, bI_f bad], by show mP n B (mn4 B n T r).1 _; rw [mn_3 bad]; exact y6r, fun e => absurd e (by show ¬ (mn4 B n T r).1.2.1 = 0; rw [mn_3 bad]; exact bad), y6F⟩)
            · have bad : ¬ (mn2 B n T r).1.2.1 = 0 := fun e => bI_nz.mpr e c_82
              refine a_iconst (v := 0) dX12_manLine_85 (by decide) ?_
              exact a_iret dX12_manLine_86 (by exact ⟨by show _ = some (Value.int (bI (decide ((mn4 B n T r).1.2.1 = 0)))); rw [mn_2 bad, bI_f bad], by show mP n B (mn4 B n T r).1 _; rw [mn_2 bad]; exact y5r, fun e => absurd e (by show ¬ (mn4 B n T r).1.2.1 = 0; rw [mn_2 bad]; exact bad), y5F⟩)
          · have bad : ¬ (mn1 B n T r).1.2.1 = 0 := fun e => bI_nz.mpr e c_60
            refine a_iconst (v := 0) dX12_manLine_63 (by decide) ?_
            exact a_iret dX12_manLine_64 (by exact ⟨by show _ = some (Value.int (bI (decide ((mn4 B n T r).1.2.1 = 0)))); rw [mn_1 bad, bI_f bad], by show mP n B (mn4 B n T r).1 _; rw [mn_1 bad]; exact r3, fun e => absurd e (by show ¬ (mn4 B n T r).1.2.1 = 0; rw [mn_1 bad]; exact bad), F3⟩)
        · exact absurd c_33 (by decide)
      · exact absurd ((nI_eq (b := 8) (by omega) (by decide)).mp c_6) (by omega)
    · rw [if_pos q1, bI_f q1]
      refine a_aload_n (i := 0) dX12_manLine_0 rfl rfl ?_
      refine gX12_240 rfl dX12_manLine_1 (isM_0 hM) ?_
      rw [c18]
      refine a_bipush (v := 8) dX12_manLine_4 (by decide) ?_
      refine a_icmp_ne (tg := 15) dX12_manLine_6 (by decide) (fun c_6 => ?_) (fun c_6 => ?_)
      · refine a_aload_n (i := 0) dX12_manLine_15 rfl rfl ?_
        refine kgX12_227 rfl dX12_manLine_16 (Nat.le_of_ble_eq_true rfl) (isM_0 hM) (c_X12_token hM hb (mP_n hr h0).1 (mP_n hr h0).2) ?_
        rintro v y1 ⟨rfl, u0, F⟩
        have r1 := mP_go hr h0 u0 F
        have b1 := mBt_u hb (mU_s F)
        have F1 : mW (lnC 19 29 33 (8 + k)) x y1 := mW_u (mU_s F)
        have c1 : y1.1 bM 19 = nI k := by rw [(mU_s F).1 _ _ (fun e => by unfold mUc at e; omega) (fun e => e)]; exact c18
        have n1 : ∀ i, i < k → y1.1 (bM + 29) (8 + i) = T.2.1 2 i := fun i hi => by rw [mU_f (by decide) (mU_s F)]; exact (hT.2.2.2.2.2.2.2.2.2.1 i (by omega)).1
        refine a_aload_n (i := 0) dX12_manLine_19 rfl rfl ?_
        refine a_aload_n (i := 0) dX12_manLine_20 rfl rfl ?_
        refine gX12_33 rfl dX12_manLine_21 (isM_0 hM) ?_
        refine a_bipush (v := 8) dX12_manLine_24 (by decide) ?_
        refine a_aload_n (i := 0) dX12_manLine_26 rfl rfl ?_
        refine gX12_240 rfl dX12_manLine_27 (isM_0 hM) ?_
        rw [c1]
        refine kgX12_287 rfl dX12_manLine_30 (Nat.le_of_ble_eq_true rfl) (isM_0 hM) (c_X12_newName (c := 8) (f := T.2.1 2) hM b1 r1 rfl (isM_29 hM) (by omega) (by decide) n1 (by decide)) ?_
        rintro v y2 ⟨rfl, g2, -, G2⟩
        rw [bI_f q1]
        refine a_if_ne (tg := 38) dX12_manLine_33 (by decide) (fun c_33 => ?_) (fun c_33 => ?_)
        · exact absurd rfl c_33
        · refine a_iconst (v := 0) dX12_manLine_36 (by decide) ?_
          exact a_iret dX12_manLine_37 (by exact ⟨rfl, g2 q1, fun e => absurd e q1, mW_t F1 (mW_nw (by decide) (by decide) G2)⟩)
      · exact absurd ((nI_eq (b := 8) (by omega) (by decide)).mp c_6) (by omega)
set_option maxHeartbeats 4000000 in
set_option maxRecDepth 100000 in
theorem c_X12_deedLine {s : Nat} (hM : D 12 = true) (hb : mBt n B x) (hr : mP n B r x) (h0 : r.2.1 = 0) (hT : rTM T (shr x)) (bd : tBd T) : aCt l mX12_deedLine (d + 3) D [.ref bM, .int (if s = 0 then 1 else -1)] x (fun v y => v = some (.int (bI (decide ((lnDeed B n s T r).2.2.1 = 0)))) ∧ mP n B (lnDeed B n s T r).2 y ∧ ((lnDeed B n s T r).2.2.1 = 0 → rTM (lnDeed B n s T r).1 (shr y)) ∧ mW (lnC 20 34 38 (14 + T.1 2)) x y) := by
  refine a_met (by decide) (Nat.le_of_ble_eq_true rfl) (fun v y q => Or.inr (Or.inl ⟨rfl, _, q.1, bI_01 _⟩)) ?_
  obtain ⟨k, hk⟩ : ∃ k, k = T.1 2 := ⟨_, rfl⟩
  have c18 : x.1 bM 20 = nI k := by rw [hk]; exact hT.2.2.1
  have k6 : k ≤ 14 := by rw [hk]; exact bd.2.2.1
  have h6 := bd.1
  unfold lnDeed
  rw [← hk]
  by_cases q : 14 ≤ k
  · rw [if_pos q, bI_f (show ¬ (pFl B n 2 r).2.1 = 0 from by show ¬ 2 = 0; decide)]
    have e6 : k = 14 := by omega
    have fl := mP_fl (c := 2) hr h0 (by decide)
    rw [e6] at c18
    refine a_aload_n (i := 0) dX12_deedLine_0 rfl rfl ?_
    refine gX12_243 rfl dX12_deedLine_1 (isM_0 hM) ?_
    rw [c18]
    refine a_bipush (v := 14) dX12_deedLine_4 (by decide) ?_
    refine a_icmp_ne (tg := 15) dX12_deedLine_6 (by decide) (fun c_6 => ?_) (fun c_6 => ?_)
    · exact absurd rfl c_6
    · refine a_aload_n (i := 0) dX12_deedLine_9 rfl rfl ?_
      refine a_iconst (v := 2) dX12_deedLine_10 (by decide) ?_
      refine kX12_217 rfl dX12_deedLine_11 (Nat.le_of_ble_eq_true rfl) (isM_0 hM) (c_X12_wrong (c := 2) hM) ?_
      exact a_iret dX12_deedLine_14 (by exact ⟨rfl, fl.1, fun e => absurd e (by show ¬ 2 = 0; decide), mW_u fl.2⟩)
  · rw [if_neg q]
    have nm2 : ∀ y : aS, mW (lnC 20 34 38 (14 + k)) x y → y.1 bM 18 = nI (T.1 0) ∧ ∀ i, i < T.1 0 → y.1 (bM + 27) (6 + i) = T.2.1 0 i := fun y F => ⟨by rw [F.1 _ _ (fun e => by unfold mUc at e; omega) (fun e => by unfold lnC at e; omega)]; exact hT.1, fun i hi => by rw [F.1 _ _ (fun e => by unfold mUc at e; omega) (fun e => by unfold lnC at e; omega)]; exact (hT.2.2.2.2.2.2.2.2.1 i hi).1⟩
    refine a_aload_n (i := 0) dX12_deedLine_0 rfl rfl ?_
    refine gX12_243 rfl dX12_deedLine_1 (isM_0 hM) ?_
    rw [c18]
    refine a_bipush (v := 14) dX12_deedLine_4 (by decide) ?_
    refine a_icmp_ne (tg := 15) dX12_deedLine_6 (by decide) (fun c_6 => ?_) (fun c_6 => ?_)
    · refine a_aload_n (i := 0) dX12_deedLine_15 rfl rfl ?_
      refine kgX12_227 rfl dX12_deedLine_16 (Nat.le_of_ble_eq_true rfl) (isM_0 hM) (c_X12_token hM hb (mP_n hr h0).1 (mP_n hr h0).2) ?_
      rintro v y2 ⟨rfl, u0, F⟩
      have r2 := mP_go hr h0 u0 F
      have b2 := mBt_u hb (mU_s F)
      have F2 : mW (lnC 20 34 38 (14 + k)) x y2 := mW_u (mU_s F)
      have c2 : y2.1 bM 20 = nI k := by rw [(mU_s F).1 _ _ (fun e => by unfold mUc at e; omega) (fun e => e)]; exact c18
      obtain ⟨d2, n2⟩ := nm2 y2 F2
      refine a_bipush (v := 14) dX12_deedLine_19 (by decide) ?_
      refine a_aload_n (i := 0) dX12_deedLine_21 rfl rfl ?_
      refine gX12_243 rfl dX12_deedLine_22 (isM_0 hM) ?_
      rw [c2]
      refine a_iadd dX12_deedLine_25 ?_
      rw [show (14 : Int32) + nI k = nI (14 + k) from nI_add 14 k]
      refine a_istore_n (i := 2) dX12_deedLine_26 rfl (by decide) ?_
      refine a_aload_n (i := 0) dX12_deedLine_27 rfl rfl ?_
      refine a_aload_n (i := 0) dX12_deedLine_28 rfl rfl ?_
      refine gX12_27 rfl dX12_deedLine_29 (isM_0 hM) ?_
      refine a_bipush (v := 6) dX12_deedLine_32 (by decide) ?_
      refine a_aload_n (i := 0) dX12_deedLine_34 rfl rfl ?_
      refine gX12_237 rfl dX12_deedLine_35 (isM_0 hM) ?_
      rw [d2]
      refine kgX12_291 rfl dX12_deedLine_38 (Nat.le_of_ble_eq_true rfl) (isM_0 hM) (c_X12_thereIn (c := 6) (f := T.2.1 0) (N := T.1 0) hM b2 r2 rfl (isM_27 hM) (by have := bd.1; omega) (by decide) n2) ?_
      rintro v y3 ⟨rfl, r3, g3, G3⟩
      have F3 := mW_t F2 (mW_u G3)
      have r3 : mP n B (de1 B n T r).1 y3 := r3
      refine a_if_ne (tg := 46) dX12_deedLine_41 (by decide) (fun c_41 => ?_) (fun c_41 => ?_)
      · have good1 : (de1 B n T r).1.2.1 = 0 := bI_nz.mp c_41
        have got := g3 good1
        refine a_aload_n (i := 0) dX12_deedLine_46 rfl rfl ?_
        refine gX12_48 rfl dX12_deedLine_47 (isM_0 hM) ?_
        refine a_iload_n (i := 2) dX12_deedLine_50 rfl rfl ?_
        refine a_aload_n (i := 0) dX12_deedLine_51 rfl rfl ?_
        refine gX12_224 rfl dX12_deedLine_52 (isM_0 hM) ?_
        rw [got]
        refine a_iastN dX12_deedLine_55 (isM_34 hM) (by first | with_reducible exact rfl | with_reducible exact ix8 _ _ | with_reducible exact ix12 _ _ | exact rfl) (by omega) (by decide) ?_
        change aV _ _ _ _ _ _ _ _ (aWr y3 (bM + 34) (14 + k) (nI (de1 B n T r).2)) _
        obtain ⟨z4, hz4⟩ : ∃ z, z = aWr y3 (bM + 34) (14 + k) (nI (de1 B n T r).2) := ⟨_, rfl⟩
        rw [← hz4]
        have z4r := mP_got (b := bM + 34) (i := (14 + k)) (v := (nI (de1 B n T r).2)) r3 (by decide)
        rw [← hz4] at z4r
        have z4F : mW (lnC 20 34 38 (14 + k)) x z4 := by rw [hz4]; exact mW_t F3 (mW_wl (by decide) (by decide))
        have z4b := mBt_W (lnC_b (by decide) (by decide)) hb z4F
        refine a_aload_n (i := 0) dX12_deedLine_56 rfl rfl ?_
        refine a_iconst (v := 0) dX12_deedLine_57 (by decide) ?_
        refine a_bipush (v := 7) dX12_deedLine_58 (by decide) ?_
        refine kgX12_233 rfl dX12_deedLine_60 (Nat.le_of_ble_eq_true rfl) (isM_0 hM) (c_X12_number (lo := 0) (hi := 7) hM z4b z4r good1 (by decide) (by decide)) ?_
        rintro v y5 ⟨rfl, y5r, y5g, y5G⟩
        have y5F := mW_t z4F (mW_u y5G)
        have y5r : mP n B (de2 B n T r).1 y5 := y5r
        refine a_if_ne (tg := 68) dX12_deedLine_63 (by decide) (fun c_63 => ?_) (fun c_63 => ?_)
        · have y5good : (de2 B n T r).1.2.1 = 0 := bI_nz.mp c_63
          have y5got := y5g y5good
          refine a_aload_n (i := 0) dX12_deedLine_68 rfl rfl ?_
          refine gX12_51 rfl dX12_deedLine_69 (isM_0 hM) ?_
          refine a_iload_n (i := 2) dX12_deedLine_72 rfl rfl ?_
          refine a_aload_n (i := 0) dX12_deedLine_73 rfl rfl ?_
          refine gX12_224 rfl dX12_deedLine_74 (isM_0 hM) ?_
          rw [y5got]
          refine a_iastN dX12_deedLine_77 (isM_35 hM) (by first | with_reducible exact rfl | with_reducible exact ix8 _ _ | with_reducible exact ix12 _ _ | exact rfl) (by omega) (by decide) ?_
          change aV _ _ _ _ _ _ _ _ (aWr y5 (bM + 35) (14 + k) (nI (de2 B n T r).2)) _
          obtain ⟨z5, hz5⟩ : ∃ z, z = aWr y5 (bM + 35) (14 + k) (nI (de2 B n T r).2) := ⟨_, rfl⟩
          rw [← hz5]
          have z5r := mP_got (b := bM + 35) (i := (14 + k)) (v := (nI (de2 B n T r).2)) y5r (by decide)
          rw [← hz5] at z5r
          have z5F : mW (lnC 20 34 38 (14 + k)) x z5 := by rw [hz5]; exact mW_t y5F (mW_wl (by decide) (by decide))
          have z5b := mBt_W (lnC_b (by decide) (by decide)) hb z5F
          refine a_aload_n (i := 0) dX12_deedLine_78 rfl rfl ?_
          refine a_iconst (v := 1) dX12_deedLine_79 (by decide) ?_
          refine a_bipush (v := 20) dX12_deedLine_80 (by decide) ?_
          refine kgX12_233 rfl dX12_deedLine_82 (Nat.le_of_ble_eq_true rfl) (isM_0 hM) (c_X12_number (lo := 1) (hi := 20) hM z5b z5r y5good (by decide) (by decide)) ?_
          rintro v y6 ⟨rfl, y6r, y6g, y6G⟩
          have y6F := mW_t z5F (mW_u y6G)
          have y6r : mP n B (de3 B n T r).1 y6 := y6r
          refine a_if_ne (tg := 90) dX12_deedLine_85 (by decide) (fun c_85 => ?_) (fun c_85 => ?_)
          · have y6good : (de3 B n T r).1.2.1 = 0 := bI_nz.mp c_85
            have y6got := y6g y6good
            refine a_aload_n (i := 0) dX12_deedLine_90 rfl rfl ?_
            refine gX12_54 rfl dX12_deedLine_91 (isM_0 hM) ?_
            refine a_iload_n (i := 2) dX12_deedLine_94 rfl rfl ?_
            refine a_aload_n (i := 0) dX12_deedLine_95 rfl rfl ?_
            refine gX12_224 rfl dX12_deedLine_96 (isM_0 hM) ?_
            rw [y6got]
            refine a_iastN dX12_deedLine_99 (isM_36 hM) (by first | with_reducible exact rfl | with_reducible exact ix8 _ _ | with_reducible exact ix12 _ _ | exact rfl) (by omega) (by decide) ?_
            change aV _ _ _ _ _ _ _ _ (aWr y6 (bM + 36) (14 + k) (nI (de3 B n T r).2)) _
            obtain ⟨z6, hz6⟩ : ∃ z, z = aWr y6 (bM + 36) (14 + k) (nI (de3 B n T r).2) := ⟨_, rfl⟩
            rw [← hz6]
            have z6r := mP_got (b := bM + 36) (i := (14 + k)) (v := (nI (de3 B n T r).2)) y6r (by decide)
            rw [← hz6] at z6r
            have z6F : mW (lnC 20 34 38 (14 + k)) x z6 := by rw [hz6]; exact mW_t y6F (mW_wl (by decide) (by decide))
            have z6b := mBt_W (lnC_b (by decide) (by decide)) hb z6F
            refine a_aload_n (i := 0) dX12_deedLine_100 rfl rfl ?_
            refine gX12_57 rfl dX12_deedLine_101 (isM_0 hM) ?_
            refine a_iload_n (i := 2) dX12_deedLine_104 rfl rfl ?_
            refine a_iload_n (i := 1) dX12_deedLine_105 rfl rfl ?_
            refine a_iastN dX12_deedLine_106 (isM_37 hM) (by first | with_reducible exact rfl | with_reducible exact ix8 _ _ | with_reducible exact ix12 _ _ | exact rfl) (by omega) (by decide) ?_
            change aV _ _ _ _ _ _ _ _ (aWr z6 (bM + 37) (14 + k) (if s = 0 then 1 else -1)) _
            obtain ⟨z8, hz8⟩ : ∃ z, z = aWr z6 (bM + 37) (14 + k) (if s = 0 then 1 else -1) := ⟨_, rfl⟩
            rw [← hz8]
            have z8r := mP_got (b := bM + 37) (i := (14 + k)) (v := (if s = 0 then 1 else -1)) z6r (by decide)
            rw [← hz8] at z8r
            have z8F : mW (lnC 20 34 38 (14 + k)) x z8 := by rw [hz8]; exact mW_t z6F (mW_wl (by decide) (by decide))
            have z8b := mBt_W (lnC_b (by decide) (by decide)) hb z8F
            refine a_aload_n (i := 0) dX12_deedLine_107 rfl rfl ?_
            refine a_iconst (v := 0) dX12_deedLine_108 (by decide) ?_
            refine a_bipush (v := 99) dX12_deedLine_109 (by decide) ?_
            refine kgX12_233 rfl dX12_deedLine_111 (Nat.le_of_ble_eq_true rfl) (isM_0 hM) (c_X12_number (lo := 0) (hi := 99) hM z8b z8r y6good (by decide) (by decide)) ?_
            rintro v y7 ⟨rfl, y7r, y7g, y7G⟩
            have y7F := mW_t z8F (mW_u y7G)
            have y7r : mP n B (de4 B n T r).1 y7 := y7r
            refine a_if_ne (tg := 119) dX12_deedLine_114 (by decide) (fun c_114 => ?_) (fun c_114 => ?_)
            · have y7good : (de4 B n T r).1.2.1 = 0 := bI_nz.mp c_114
              have y7got := y7g y7good
              refine a_aload_n (i := 0) dX12_deedLine_119 rfl rfl ?_
              refine gX12_60 rfl dX12_deedLine_120 (isM_0 hM) ?_
              refine a_iload_n (i := 2) dX12_deedLine_123 rfl rfl ?_
              refine a_aload_n (i := 0) dX12_deedLine_124 rfl rfl ?_
              refine gX12_224 rfl dX12_deedLine_125 (isM_0 hM) ?_
              rw [y7got]
              refine a_iastN dX12_deedLine_128 (isM_38 hM) (by first | with_reducible exact rfl | with_reducible exact ix8 _ _ | with_reducible exact ix12 _ _ | exact rfl) (by omega) (by decide) ?_
              change aV _ _ _ _ _ _ _ _ (aWr y7 (bM + 38) (14 + k) (nI (de4 B n T r).2)) _
              obtain ⟨z7, hz7⟩ : ∃ z, z = aWr y7 (bM + 38) (14 + k) (nI (de4 B n T r).2) := ⟨_, rfl⟩
              rw [← hz7]
              have z7r := mP_got (b := bM + 38) (i := (14 + k)) (v := (nI (de4 B n T r).2)) y7r (by decide)
              rw [← hz7] at z7r
              have z7F : mW (lnC 20 34 38 (14 + k)) x z7 := by rw [hz7]; exact mW_t y7F (mW_wl (by decide) (by decide))
              have z7b := mBt_W (lnC_b (by decide) (by decide)) hb z7F
              refine a_aload_n (i := 0) dX12_deedLine_129 rfl rfl ?_
              refine a_dup dX12_deedLine_130 rfl ?_
              refine gX12_243 rfl dX12_deedLine_131 (isM_0 hM) ?_
              rw [show z7.1 bM 20 = nI k from by rw [hz7, aWr_n _ _ _ (by decide), y7G.1 _ _ (fun e => by unfold mUc at e; omega) (fun e => e), hz8, aWr_n _ _ _ (by decide), hz6, aWr_n _ _ _ (by decide), y6G.1 _ _ (fun e => by unfold mUc at e; omega) (fun e => e), hz5, aWr_n _ _ _ (by decide), y5G.1 _ _ (fun e => by unfold mUc at e; omega) (fun e => e), hz4, aWr_n _ _ _ (by decide), G3.1 _ _ (fun e => by unfold mUc at e; omega) (fun e => e)]; exact c2]
              refine a_iconst (v := 1) dX12_deedLine_134 (by decide) ?_
              refine a_iadd dX12_deedLine_135 ?_
              rw [nI_1]
              refine pX12_243 rfl dX12_deedLine_136 (isM_0 hM) ?_
              refine a_iconst (v := 1) dX12_deedLine_139 (by decide) ?_
              refine a_iret dX12_deedLine_140 ?_
              refine ⟨by show _ = some (Value.int (bI (decide ((de4 B n T r).1.2.1 = 0)))); rw [bI_t y7good], mP_w z7r (Or.inr (by decide)), fun _ => ?_, mW_t z7F mW_wa⟩
              refine rTM_deed (x := shr x) (a3 := s) hT bd hk (by omega) (shr_fr (a := 20) (by decide) hlf_34 (by decide) (mW_t z7F mW_wa)) ?_ ?_ ?_ ?_ ?_ ?_
              · rw [shr_r _ (by decide) (show hlf 34 = 14 from rfl), aWr_n _ _ _ (by decide), hz7, aWr_n _ _ _ (by decide), mU_f (by decide) y7G, hz8, aWr_n _ _ _ (by decide), hz6, aWr_n _ _ _ (by decide), mU_f (by decide) y6G, hz5, aWr_n _ _ _ (by decide), mU_f (by decide) y5G, hz4, aWr_s]
              · rw [shr_r _ (by decide) (show hlf 35 = 14 from rfl), aWr_n _ _ _ (by decide), hz7, aWr_n _ _ _ (by decide), mU_f (by decide) y7G, hz8, aWr_n _ _ _ (by decide), hz6, aWr_n _ _ _ (by decide), mU_f (by decide) y6G, hz5, aWr_s]
              · rw [shr_r _ (by decide) (show hlf 36 = 14 from rfl), aWr_n _ _ _ (by decide), hz7, aWr_n _ _ _ (by decide), mU_f (by decide) y7G, hz8, aWr_n _ _ _ (by decide), hz6, aWr_s]
              · rw [shr_r _ (by decide) (show hlf 37 = 14 from rfl), aWr_n _ _ _ (by decide), hz7, aWr_n _ _ _ (by decide), mU_f (by decide) y7G, hz8, aWr_s]
              · rw [shr_r _ (by decide) (show hlf 38 = 14 from rfl), aWr_n _ _ _ (by decide), hz7, aWr_s]
              · rw [shr_0, aWr_s]
            · have bad : ¬ (de4 B n T r).1.2.1 = 0 := fun e => bI_nz.mpr e c_114
              refine a_iconst (v := 0) dX12_deedLine_117 (by decide) ?_
              exact a_iret dX12_deedLine_118 (by exact ⟨by show _ = some (Value.int (bI (decide ((de4 B n T r).1.2.1 = 0)))); rw [bI_f bad], y7r, fun e => absurd e bad, y7F⟩)
          · have bad : ¬ (de3 B n T r).1.2.1 = 0 := fun e => bI_nz.mpr e c_85
            refine a_iconst (v := 0) dX12_deedLine_88 (by decide) ?_
            exact a_iret dX12_deedLine_89 (by exact ⟨by show _ = some (Value.int (bI (decide ((de4 B n T r).1.2.1 = 0)))); rw [de_3 bad, bI_f bad], by show mP n B (de4 B n T r).1 _; rw [de_3 bad]; exact y6r, fun e => absurd e (by show ¬ (de4 B n T r).1.2.1 = 0; rw [de_3 bad]; exact bad), y6F⟩)
        · have bad : ¬ (de2 B n T r).1.2.1 = 0 := fun e => bI_nz.mpr e c_63
          refine a_iconst (v := 0) dX12_deedLine_66 (by decide) ?_
          exact a_iret dX12_deedLine_67 (by exact ⟨by show _ = some (Value.int (bI (decide ((de4 B n T r).1.2.1 = 0)))); rw [de_2 bad, bI_f bad], by show mP n B (de4 B n T r).1 _; rw [de_2 bad]; exact y5r, fun e => absurd e (by show ¬ (de4 B n T r).1.2.1 = 0; rw [de_2 bad]; exact bad), y5F⟩)
      · have bad : ¬ (de1 B n T r).1.2.1 = 0 := fun e => bI_nz.mpr e c_41
        refine a_iconst (v := 0) dX12_deedLine_44 (by decide) ?_
        exact a_iret dX12_deedLine_45 (by exact ⟨by show _ = some (Value.int (bI (decide ((de4 B n T r).1.2.1 = 0)))); rw [de_1 bad, bI_f bad], by show mP n B (de4 B n T r).1 _; rw [de_1 bad]; exact r3, fun e => absurd e (by show ¬ (de4 B n T r).1.2.1 = 0; rw [de_1 bad]; exact bad), F3⟩)
    · exact absurd ((nI_eq (b := 14) (by omega) (by decide)).mp c_6) (by omega)
/-- told once: damp, seed -/
def oC (k m j : Nat) : Prop := (m = bM + 25 ∧ j = k) ∨ (m = bM + 26 ∧ j = 2 + k)
def lnOnce (B : Nat → Nat) (n : Nat) (g : Bool) (k most : Nat) (T : zT) (r : zP) : zT × zP :=
  if g = true then (T, pFl B n 3 r) else (tu1 T (5 + k) (numP B n 0 most (pGo B n r)).2, (numP B n 0 most (pGo B n r)).1)
theorem shr_o {k : Nat} (F : mW (oC k) x y) : ∀ m j, bM ≤ m → (m = bM → 12 ≤ j) → ¬ (m = bM + 26 ∧ j = k) → ¬ m = bM + 25 → (shr y).1 m j = (shr x).1 m j := by
  intro m j h1 h2 h3 h4
  by_cases e : m = bM
  · subst e
    rw [shr_0, shr_0]
    exact F.1 _ _ (fun g => by unfold mUc at g; omega) (fun g => by unfold oC at g; omega)
  · obtain ⟨c, rfl⟩ : ∃ c, m = bM + c := ⟨m - bM, by omega⟩
    rw [shr_r x (by omega) rfl, shr_r y (by omega) rfl]
    refine F.1 _ _ (fun g => by unfold mUc at g; omega) (fun g => ?_)
    rcases g with g | ⟨g1, g3⟩
    · omega
    · have e26 : c = 26 := by omega
      subst e26
      rw [show hlf 26 = 2 from rfl] at g3
      exact h3 ⟨rfl, by omega⟩
set_option maxHeartbeats 4000000 in
set_option maxRecDepth 100000 in
theorem c_X12_onceLine {k most : Nat} {g : Bool} (hM : D 12 = true) (hb : mBt n B x) (hr : mP n B r x) (h0 : r.2.1 = 0) (hT : rTM T (shr x)) (bd : tBd T) (hk : k < 2) (hm : most ≤ 99999) (hg : x.1 (bM + 25) k = bI g) : aCt l mX12_onceLine (d + 3) D [.ref bM, .int (nI k), .int (nI most)] x (fun v y => v = some (.int (bI (decide ((lnOnce B n g k most T r).2.2.1 = 0)))) ∧ mP n B (lnOnce B n g k most T r).2 y ∧ ((lnOnce B n g k most T r).2.2.1 = 0 → rTM (lnOnce B n g k most T r).1 (shr y) ∧ y.1 (bM + 25) k = 1) ∧ mW (oC k) x y) := by
  refine a_met (by decide) (Nat.le_of_ble_eq_true rfl) (fun v y q => Or.inr (Or.inl ⟨rfl, _, q.1, bI_01 _⟩)) ?_
  unfold lnOnce
  by_cases q : g = true
  · rw [if_pos q, bI_f (show ¬ (pFl B n 3 r).2.1 = 0 from by show ¬ 3 = 0; decide)]
    have fl := mP_fl (c := 3) hr h0 (by decide)
    rw [q] at hg
    refine a_aload_n (i := 0) dX12_onceLine_0 rfl rfl ?_
    refine gX12_20 rfl dX12_onceLine_1 (isM_0 hM) ?_
    refine a_iload_n (i := 1) dX12_onceLine_4 rfl rfl ?_
    refine a_zaldN dX12_onceLine_5 (isM_25 hM) (by first | with_reducible exact rfl | with_reducible exact ix8 _ _ | with_reducible exact ix12 _ _ | exact rfl) (by exact hk) (by decide) ?_
    rw [hg]
    refine a_if_eq (tg := 15) dX12_onceLine_6 (by decide) (fun c_6 => ?_) (fun c_6 => ?_)
    · exact absurd c_6 (by decide)
    · refine a_aload_n (i := 0) dX12_onceLine_9 rfl rfl ?_
      refine a_iconst (v := 3) dX12_onceLine_10 (by decide) ?_
      refine kX12_217 rfl dX12_onceLine_11 (Nat.le_of_ble_eq_true rfl) (isM_0 hM) (c_X12_wrong (c := 3) hM) ?_
      exact a_iret dX12_onceLine_14 (by exact ⟨rfl, fl.1, fun e => absurd e (by show ¬ 3 = 0; decide), mW_u fl.2⟩)
  · rw [if_neg q]
    have gf : g = false := by cases g <;> simp_all
    rw [gf] at hg
    obtain ⟨z, hz⟩ : ∃ z, z = aWr x (bM + 25) k 1 := ⟨_, rfl⟩
    have zr : mP n B r z := by rw [hz]; exact mP_w hr (Or.inl (by decide))
    have zF : mW (oC k) x z := by rw [hz]; exact mW_w (Or.inr (Or.inl ⟨rfl, rfl⟩))
    have oC_b : ∀ m j, oC k m j → (m = bM ∧ 18 ≤ j) ∨ bM + 25 ≤ m := fun m j e => by unfold oC at e; omega
    have zb := mBt_W oC_b hb zF
    refine a_aload_n (i := 0) dX12_onceLine_0 rfl rfl ?_
    refine gX12_20 rfl dX12_onceLine_1 (isM_0 hM) ?_
    refine a_iload_n (i := 1) dX12_onceLine_4 rfl rfl ?_
    refine a_zaldN dX12_onceLine_5 (isM_25 hM) (by first | with_reducible exact rfl | with_reducible exact ix8 _ _ | with_reducible exact ix12 _ _ | exact rfl) (by exact hk) (by decide) ?_
    rw [hg]
    refine a_if_eq (tg := 15) dX12_onceLine_6 (by decide) (fun c_6 => ?_) (fun c_6 => ?_)
    · refine a_aload_n (i := 0) dX12_onceLine_15 rfl rfl ?_
      refine gX12_20 rfl dX12_onceLine_16 (isM_0 hM) ?_
      refine a_iload_n (i := 1) dX12_onceLine_19 rfl rfl ?_
      refine a_iconst (v := 1) dX12_onceLine_20 (by decide) ?_
      refine a_zastN dX12_onceLine_21 (isM_25 hM) (by first | with_reducible exact rfl | with_reducible exact ix8 _ _ | with_reducible exact ix12 _ _ | exact rfl) (by exact hk) (by decide) (by first | exact Or.inl rfl | exact Or.inr rfl | assumption) ?_
      rw [← hz]
      refine a_aload_n (i := 0) dX12_onceLine_22 rfl rfl ?_
      refine kgX12_227 rfl dX12_onceLine_23 (Nat.le_of_ble_eq_true rfl) (isM_0 hM) (c_X12_token hM zb (mP_n zr h0).1 (mP_n zr h0).2) ?_
      rintro v y2 ⟨rfl, u0, F⟩
      have r2 := mP_go zr h0 u0 F
      have b2 := mBt_u zb (mU_s F)
      refine a_aload_n (i := 0) dX12_onceLine_26 rfl rfl ?_
      refine a_iconst (v := 0) dX12_onceLine_27 (by decide) ?_
      refine a_iload_n (i := 2) dX12_onceLine_28 rfl rfl ?_
      refine kgX12_233 rfl dX12_onceLine_29 (Nat.le_of_ble_eq_true rfl) (isM_0 hM) (c_X12_number (lo := 0) (hi := most) hM b2 r2 rfl (Nat.zero_le _) hm) ?_
      rintro v y3 ⟨rfl, r3, g3, F3⟩
      have F4 := mW_t zF (mW_u (mW_t (mU_s F) F3))
      refine a_if_ne (tg := 37) dX12_onceLine_32 (by decide) (fun c_32 => ?_) (fun c_32 => ?_)
      · have good := bI_nz.mp c_32
        have got := g3 good
        refine a_aload_n (i := 0) dX12_onceLine_37 rfl rfl ?_
        refine gX12_24 rfl dX12_onceLine_38 (isM_0 hM) ?_
        refine a_iconst (v := 2) dX12_onceLine_41 (by decide) ?_
        refine a_iload_n (i := 1) dX12_onceLine_42 rfl rfl ?_
        refine a_iadd dX12_onceLine_43 ?_
        refine a_aload_n (i := 0) dX12_onceLine_44 rfl rfl ?_
        refine gX12_224 rfl dX12_onceLine_45 (isM_0 hM) ?_
        rw [got]
        refine a_iastN dX12_onceLine_48 (isM_26 hM) (by first | exact nI_add 2 _ | with_reducible exact rfl | with_reducible exact ix8 _ _ | with_reducible exact ix12 _ _ | exact rfl) (by omega) (by decide) ?_
        refine a_iconst (v := 1) dX12_onceLine_49 (by decide) ?_
        refine a_iret dX12_onceLine_50 ?_
        have F5 : mW (oC k) x (aWr y3 (bM + 26) (2 + k) (nI (numP B n 0 most (pGo B n r)).2)) := mW_t F4 (mW_w (Or.inr (Or.inr ⟨rfl, rfl⟩)))
        have v5 : (shr (aWr y3 (bM + 26) (2 + k) (nI (numP B n 0 most (pGo B n r)).2))).1 (bM + 26) k = nI (numP B n 0 most (pGo B n r)).2 := by rw [shr_r _ (by decide) (show hlf 26 = 2 from rfl), aWr_s]
        refine ⟨by rw [bI_t good], mP_got r3 (by decide), fun _ => ⟨?_, by rw [aWr_n _ _ _ (by decide), mU_f (by decide) F3, mU_f (by decide) (mU_s F), hz, aWr_s]⟩, F5⟩
        rcases (by omega : k = 0 ∨ k = 1) with rfl | rfl
        · exact rTM_damp (x := shr x) hT bd (fun m j h1 h2 h3 => shr_o F5 m j h1 h2 (fun e => h3 (Or.inl e)) (fun e => h3 (Or.inr e))) v5
        · exact rTM_seed (x := shr x) hT bd (fun m j h1 h2 h3 => shr_o F5 m j h1 h2 (fun e => h3 (Or.inl e)) (fun e => h3 (Or.inr e))) v5
      · have bad := fun e => bI_nz.mpr e c_32
        refine a_iconst (v := 0) dX12_onceLine_35 (by decide) ?_
        exact a_iret dX12_onceLine_36 (by exact ⟨by rw [bI_f bad], r3, fun e => absurd e bad, F4⟩)
    · exact absurd rfl c_6
end qAY

