/-! READING, the model: the lines -/
section qAX
variable {l : Launch} {d : Nat} {D : Nat → Bool} {x y : aS} {n : Nat} {B : Nat → Nat} {r r' : zP} {T : zT}
theorem mP_got {b : Nat} {v : Int32} (hr : mP n B r x) (hb : bM + 25 ≤ b) {i : Nat} : mP n B r (aWr x b i v) := mP_w hr (Or.inl (by omega))
theorem lnC_b {a lo hi i : Nat} (ha : 18 ≤ a) (hlo : 25 ≤ lo) : ∀ m j, lnC a lo hi i m j → (m = bM ∧ 18 ≤ j) ∨ bM + 25 ≤ m := fun m j e => by unfold lnC at e; omega
theorem mW_wl {a lo hi i c : Nat} {v : Int32} (h1 : lo ≤ c) (h2 : c ≤ hi) : mW (lnC a lo hi i) x (aWr x (bM + c) i v) := mW_w (Or.inr (Or.inr ⟨by omega, by omega, rfl⟩))
theorem mW_wa {a lo hi i : Nat} {v : Int32} : mW (lnC a lo hi i) x (aWr x bM a v) := mW_w (Or.inr (Or.inl ⟨rfl, rfl⟩))
theorem mW_nw {a lo hi i c : Nat} (h1 : lo ≤ c) (h2 : c ≤ hi) (h : mW (nwC (bM + c) i) x y) : mW (lnC a lo hi i) x y := mW_c (fun m j e => by unfold nwC at e; unfold lnC; omega) h
theorem mU_k {C : Nat → Nat → Prop} {j : Nat} (hj : 12 ≤ j) (F : mU x y) : y.1 bM j = x.1 bM j := F.1 _ _ (fun e => by unfold mUc at e; omega) (fun e => e)
theorem mU_f {m j : Nat} (hj : m ≠ bM) (F : mU x y) : y.1 m j = x.1 m j := F.1 _ _ (fun e => hj e.1) (fun e => e)
theorem hlf_27 : ∀ c, 27 ≤ c → c ≤ 28 → hlf c = 6 := fun c h1 h2 => by rcases (by omega : c = 27 ∨ c = 28) with rfl | rfl <;> rfl
theorem hlf_29 : ∀ c, 29 ≤ c → c ≤ 33 → hlf c = 8 := fun c h1 h2 => by rcases (by omega : c = 29 ∨ c = 30 ∨ c = 31 ∨ c = 32 ∨ c = 33) with rfl | rfl | rfl | rfl | rfl <;> rfl
theorem hlf_34 : ∀ c, 34 ≤ c → c ≤ 38 → hlf c = 14 := fun c h1 h2 => by rcases (by omega : c = 34 ∨ c = 35 ∨ c = 36 ∨ c = 37 ∨ c = 38) with rfl | rfl | rfl | rfl | rfl <;> rfl
theorem hlf_39 : ∀ c, 39 ≤ c → c ≤ 41 → hlf c = 6 := fun c h1 h2 => by rcases (by omega : c = 39 ∨ c = 40 ∨ c = 41) with rfl | rfl | rfl <;> rfl
theorem hlf_42 : ∀ c, 42 ≤ c → c ≤ 42 → hlf c = 4 := fun c h1 h2 => by rcases (by omega : c = 42) with rfl; rfl
set_option maxHeartbeats 4000000 in
set_option maxRecDepth 100000 in
theorem c_X12_houseLine (hM : D 12 = true) (hb : mBt n B x) (hr : mP n B r x) (h0 : r.2.1 = 0) (hT : rTM T (shr x)) (bd : tBd T) : aCt l mX12_houseLine (d + 3) D [.ref bM] x (fun v y => v = some (.int (bI (decide ((lnHouse B n T r).2.2.1 = 0)))) ∧ mP n B (lnHouse B n T r).2 y ∧ ((lnHouse B n T r).2.2.1 = 0 → rTM (lnHouse B n T r).1 (shr y)) ∧ mW (lnC 18 27 28 (6 + T.1 0)) x y) := by
  refine a_met (by decide) (Nat.le_of_ble_eq_true rfl) (fun v y q => Or.inr (Or.inl ⟨rfl, _, q.1, bI_01 _⟩)) ?_
  obtain ⟨k, hk⟩ : ∃ k, k = T.1 0 := ⟨_, rfl⟩
  have c18 : x.1 bM 18 = nI k := by rw [hk]; exact hT.1
  have k6 : k ≤ 6 := by rw [hk]; exact bd.1
  unfold lnHouse
  rw [← hk]
  by_cases q : 6 ≤ k
  · rw [if_pos q, bI_f (show ¬ (pFl B n 2 r).2.1 = 0 from by show ¬ 2 = 0; decide)]
    have e6 : k = 6 := by omega
    have fl := mP_fl (c := 2) hr h0 (by decide)
    rw [e6] at c18
    refine a_aload_n (i := 0) dX12_houseLine_0 rfl rfl ?_
    refine gX12_237 rfl dX12_houseLine_1 (isM_0 hM) ?_
    rw [c18]
    refine a_bipush (v := 6) dX12_houseLine_4 (by decide) ?_
    refine a_icmp_ne (tg := 15) dX12_houseLine_6 (by decide) (fun c_6 => ?_) (fun c_6 => ?_)
    · exact absurd rfl c_6
    · refine a_aload_n (i := 0) dX12_houseLine_9 rfl rfl ?_
      refine a_iconst (v := 2) dX12_houseLine_10 (by decide) ?_
      refine kX12_217 rfl dX12_houseLine_11 (Nat.le_of_ble_eq_true rfl) (isM_0 hM) (c_X12_wrong (c := 2) hM) ?_
      exact a_iret dX12_houseLine_14 (by exact ⟨rfl, fl.1, fun e => absurd e (by show ¬ 2 = 0; decide), mW_u fl.2⟩)
  · rw [if_neg q]
    have nm : ∀ y : aS, mU x y → y.1 bM 18 = nI k ∧ ∀ i, i < k → y.1 (bM + 27) (6 + i) = T.2.1 0 i := fun y F => ⟨by rw [F.1 _ _ (fun e => by unfold mUc at e; omega) (fun e => e)]; exact c18, fun i hi => by rw [mU_f (by decide) F]; exact (hT.2.2.2.2.2.2.2.2.1 i (by omega)).1⟩
    by_cases q1 : (newP B n (T.2.1 0) k (pGo B n r)).2.1 = 0
    · rw [if_neg (fun e => e q1)]
      refine a_aload_n (i := 0) dX12_houseLine_0 rfl rfl ?_
      refine gX12_237 rfl dX12_houseLine_1 (isM_0 hM) ?_
      rw [c18]
      refine a_bipush (v := 6) dX12_houseLine_4 (by decide) ?_
      refine a_icmp_ne (tg := 15) dX12_houseLine_6 (by decide) (fun c_6 => ?_) (fun c_6 => ?_)
      · refine a_aload_n (i := 0) dX12_houseLine_15 rfl rfl ?_
        refine kgX12_227 rfl dX12_houseLine_16 (Nat.le_of_ble_eq_true rfl) (isM_0 hM) (c_X12_token hM hb (mP_n hr h0).1 (mP_n hr h0).2) ?_
        rintro v y1 ⟨rfl, u0, F⟩
        have r1 := mP_go hr h0 u0 F
        have b1 := mBt_u hb (mU_s F)
        obtain ⟨c1, n1⟩ := nm y1 (mU_s F)
        refine a_aload_n (i := 0) dX12_houseLine_19 rfl rfl ?_
        refine a_aload_n (i := 0) dX12_houseLine_20 rfl rfl ?_
        refine gX12_27 rfl dX12_houseLine_21 (isM_0 hM) ?_
        refine a_bipush (v := 6) dX12_houseLine_24 (by decide) ?_
        refine a_aload_n (i := 0) dX12_houseLine_26 rfl rfl ?_
        refine gX12_237 rfl dX12_houseLine_27 (isM_0 hM) ?_
        rw [c1]
        refine kgX12_287 rfl dX12_houseLine_30 (Nat.le_of_ble_eq_true rfl) (isM_0 hM) (c_X12_newName (c := 6) (f := T.2.1 0) hM b1 r1 rfl (isM_27 hM) (by omega) (by decide) n1 (by decide)) ?_
        rintro v y2 ⟨rfl, -, g2, G2⟩
        obtain ⟨r2, w2⟩ := g2 q1
        have F2 := mW_nw (a := 18) (lo := 27) (hi := 28) (by decide) (by decide) G2
        have b2 := mBt_W (lnC_b (by decide) (by decide)) b1 F2
        rw [bI_t q1]
        refine a_if_ne (tg := 38) dX12_houseLine_33 (by decide) (fun c_33 => ?_) (fun c_33 => ?_)
        · refine a_aload_n (i := 0) dX12_houseLine_38 rfl rfl ?_
          refine a_iconst (v := 0) dX12_houseLine_39 (by decide) ?_
          refine a_bipush (v := 99) dX12_houseLine_40 (by decide) ?_
          refine kgX12_233 rfl dX12_houseLine_42 (Nat.le_of_ble_eq_true rfl) (isM_0 hM) (c_X12_number (lo := 0) (hi := 99) hM b2 r2 rfl (by decide) (by decide)) ?_
          rintro v y3 ⟨rfl, r3, g3, F3⟩
          have F4 := mW_t (mW_t (mW_u (mU_s F)) F2) (mW_u F3)
          have e3 : y3.1 bM 18 = nI k := by rw [F3.1 _ _ (fun e => by unfold mUc at e; omega) (fun e => e), G2.1 _ _ (fun e => by unfold mUc at e; omega) (fun e => by unfold nwC at e; omega)]; exact c1
          refine a_if_ne (tg := 50) dX12_houseLine_45 (by decide) (fun c_45 => ?_) (fun c_45 => ?_)
          · have good := bI_nz.mp c_45
            have got := g3 good
            refine a_aload_n (i := 0) dX12_houseLine_50 rfl rfl ?_
            refine gX12_30 rfl dX12_houseLine_51 (isM_0 hM) ?_
            refine a_bipush (v := 6) dX12_houseLine_54 (by decide) ?_
            refine a_aload_n (i := 0) dX12_houseLine_56 rfl rfl ?_
            refine gX12_237 rfl dX12_houseLine_57 (isM_0 hM) ?_
            rw [e3]
            refine a_iadd dX12_houseLine_60 ?_
            refine a_aload_n (i := 0) dX12_houseLine_61 rfl rfl ?_
            refine gX12_224 rfl dX12_houseLine_62 (isM_0 hM) ?_
            rw [got]
            refine a_iastN dX12_houseLine_65 (isM_28 hM) (by first | exact nI_add 6 _ | with_reducible exact rfl | with_reducible exact ix8 _ _ | with_reducible exact ix12 _ _ | exact rfl) (by omega) (by decide) ?_
            refine a_aload_n (i := 0) dX12_houseLine_66 rfl rfl ?_
            refine a_dup dX12_houseLine_67 rfl ?_
            refine gX12_237 rfl dX12_houseLine_68 (isM_0 hM) ?_
            rw [aWr_n _ _ _ (by decide), e3]
            refine a_iconst (v := 1) dX12_houseLine_71 (by decide) ?_
            refine a_iadd dX12_houseLine_72 ?_
            rw [nI_1]
            refine pX12_237 rfl dX12_houseLine_73 (isM_0 hM) ?_
            refine a_iconst (v := 1) dX12_houseLine_76 (by decide) ?_
            refine a_iret dX12_houseLine_77 ?_
            refine ⟨by rw [bI_t good], mP_w (mP_got r3 (by decide)) (Or.inr (by decide)), fun _ => ?_, mW_t F4 (mW_t (mW_wl (by decide) (by decide)) mW_wa)⟩
            refine rTM_house (x := shr x) hT bd hk (by omega) (shr_fr (a := 18) (by decide) hlf_27 (by decide) (mW_t F4 (mW_t (mW_wl (by decide) (by decide)) mW_wa))) ?_ ?_ ?_
            · rw [shr_r _ (by decide) (show hlf 27 = 6 from rfl), aWr_n _ _ _ (by decide), aWr_n _ _ _ (by decide), mU_f (by decide) F3]; exact w2
            · rw [shr_r _ (by decide) (show hlf 28 = 6 from rfl), aWr_n _ _ _ (by decide), aWr_s]
            · rw [shr_0, aWr_s]
          · have bad := fun e => bI_nz.mpr e c_45
            refine a_iconst (v := 0) dX12_houseLine_48 (by decide) ?_
            exact a_iret dX12_houseLine_49 (by exact ⟨by rw [bI_f bad], r3, fun e => absurd e bad, F4⟩)
        · exact absurd c_33 (by decide)
      · exact absurd ((nI_eq (b := 6) (by omega) (by decide)).mp c_6) (by omega)
    · rw [if_pos q1, bI_f q1]
      refine a_aload_n (i := 0) dX12_houseLine_0 rfl rfl ?_
      refine gX12_237 rfl dX12_houseLine_1 (isM_0 hM) ?_
      rw [c18]
      refine a_bipush (v := 6) dX12_houseLine_4 (by decide) ?_
      refine a_icmp_ne (tg := 15) dX12_houseLine_6 (by decide) (fun c_6 => ?_) (fun c_6 => ?_)
      · refine a_aload_n (i := 0) dX12_houseLine_15 rfl rfl ?_
        refine kgX12_227 rfl dX12_houseLine_16 (Nat.le_of_ble_eq_true rfl) (isM_0 hM) (c_X12_token hM hb (mP_n hr h0).1 (mP_n hr h0).2) ?_
        rintro v y1 ⟨rfl, u0, F⟩
        have r1 := mP_go hr h0 u0 F
        have b1 := mBt_u hb (mU_s F)
        obtain ⟨c1, n1⟩ := nm y1 (mU_s F)
        refine a_aload_n (i := 0) dX12_houseLine_19 rfl rfl ?_
        refine a_aload_n (i := 0) dX12_houseLine_20 rfl rfl ?_
        refine gX12_27 rfl dX12_houseLine_21 (isM_0 hM) ?_
        refine a_bipush (v := 6) dX12_houseLine_24 (by decide) ?_
        refine a_aload_n (i := 0) dX12_houseLine_26 rfl rfl ?_
        refine gX12_237 rfl dX12_houseLine_27 (isM_0 hM) ?_
        rw [c1]
        refine kgX12_287 rfl dX12_houseLine_30 (Nat.le_of_ble_eq_true rfl) (isM_0 hM) (c_X12_newName (c := 6) (f := T.2.1 0) hM b1 r1 rfl (isM_27 hM) (by omega) (by decide) n1 (by decide)) ?_
        rintro v y2 ⟨rfl, g2, -, F2⟩
        rw [bI_f q1]
        refine a_if_ne (tg := 38) dX12_houseLine_33 (by decide) (fun c_33 => ?_) (fun c_33 => ?_)
        · exact absurd rfl c_33
        · refine a_iconst (v := 0) dX12_houseLine_36 (by decide) ?_
          exact a_iret dX12_houseLine_37 (by exact ⟨rfl, g2 q1, fun e => absurd e q1, mW_t (mW_u (mU_s F)) (mW_nw (by decide) (by decide) F2)⟩)
      · exact absurd ((nI_eq (b := 6) (by omega) (by decide)).mp c_6) (by omega)
set_option maxHeartbeats 4000000 in
set_option maxRecDepth 100000 in
theorem c_X12_stripLine (hM : D 12 = true) (hb : mBt n B x) (hr : mP n B r x) (h0 : r.2.1 = 0) (hT : rTM T (shr x)) (bd : tBd T) : aCt l mX12_stripLine (d + 3) D [.ref bM] x (fun v y => v = some (.int (bI (decide ((lnStrip B n T r).2.2.1 = 0)))) ∧ mP n B (lnStrip B n T r).2 y ∧ ((lnStrip B n T r).2.2.1 = 0 → rTM (lnStrip B n T r).1 (shr y)) ∧ mW (lnC 22 42 42 (4 + T.1 4)) x y) := by
  refine a_met (by decide) (Nat.le_of_ble_eq_true rfl) (fun v y q => Or.inr (Or.inl ⟨rfl, _, q.1, bI_01 _⟩)) ?_
  obtain ⟨k, hk⟩ : ∃ k, k = T.1 4 := ⟨_, rfl⟩
  have c18 : x.1 bM 22 = nI k := by rw [hk]; exact hT.2.2.2.2.1
  have k6 : k ≤ 4 := by rw [hk]; exact bd.2.2.2.2
  unfold lnStrip
  rw [← hk]
  by_cases q : 4 ≤ k
  · rw [if_pos q, bI_f (show ¬ (pFl B n 2 r).2.1 = 0 from by show ¬ 2 = 0; decide)]
    have e6 : k = 4 := by omega
    have fl := mP_fl (c := 2) hr h0 (by decide)
    rw [e6] at c18
    refine a_aload_n (i := 0) dX12_stripLine_0 rfl rfl ?_
    refine gX12_249 rfl dX12_stripLine_1 (isM_0 hM) ?_
    rw [c18]
    refine a_iconst (v := 4) dX12_stripLine_4 (by decide) ?_
    refine a_icmp_ne (tg := 14) dX12_stripLine_5 (by decide) (fun c_5 => ?_) (fun c_5 => ?_)
    · exact absurd rfl c_5
    · refine a_aload_n (i := 0) dX12_stripLine_8 rfl rfl ?_
      refine a_iconst (v := 2) dX12_stripLine_9 (by decide) ?_
      refine kX12_217 rfl dX12_stripLine_10 (Nat.le_of_ble_eq_true rfl) (isM_0 hM) (c_X12_wrong (c := 2) hM) ?_
      exact a_iret dX12_stripLine_13 (by exact ⟨rfl, fl.1, fun e => absurd e (by show ¬ 2 = 0; decide), mW_u fl.2⟩)
  · rw [if_neg q]
    refine a_aload_n (i := 0) dX12_stripLine_0 rfl rfl ?_
    refine gX12_249 rfl dX12_stripLine_1 (isM_0 hM) ?_
    rw [c18]
    refine a_iconst (v := 4) dX12_stripLine_4 (by decide) ?_
    refine a_icmp_ne (tg := 14) dX12_stripLine_5 (by decide) (fun c_5 => ?_) (fun c_5 => ?_)
    · refine a_aload_n (i := 0) dX12_stripLine_14 rfl rfl ?_
      refine kgX12_227 rfl dX12_stripLine_15 (Nat.le_of_ble_eq_true rfl) (isM_0 hM) (c_X12_token hM hb (mP_n hr h0).1 (mP_n hr h0).2) ?_
      rintro v y2 ⟨rfl, u0, F⟩
      have r2 := mP_go hr h0 u0 F
      have b2 := mBt_u hb (mU_s F)
      refine a_aload_n (i := 0) dX12_stripLine_18 rfl rfl ?_
      refine a_iconst (v := 0) dX12_stripLine_19 (by decide) ?_
      refine a_bipush (v := 99) dX12_stripLine_20 (by decide) ?_
      refine kgX12_233 rfl dX12_stripLine_22 (Nat.le_of_ble_eq_true rfl) (isM_0 hM) (c_X12_number (lo := 0) (hi := 99) hM b2 r2 rfl (by decide) (by decide)) ?_
      rintro v y3 ⟨rfl, r3, g3, F3⟩
      have F0 := mW_t (mU_s F) F3
      have F4 : mW (lnC 22 42 42 (4 + k)) x y3 := mW_u F0
      have e3 : y3.1 bM 22 = nI k := by rw [F0.1 _ _ (fun e => by unfold mUc at e; omega) (fun e => e)]; exact c18
      refine a_if_ne (tg := 30) dX12_stripLine_25 (by decide) (fun c_25 => ?_) (fun c_25 => ?_)
      · have good := bI_nz.mp c_25
        have got := g3 good
        refine a_aload_n (i := 0) dX12_stripLine_30 rfl rfl ?_
        refine gX12_72 rfl dX12_stripLine_31 (isM_0 hM) ?_
        refine a_iconst (v := 4) dX12_stripLine_34 (by decide) ?_
        refine a_aload_n (i := 0) dX12_stripLine_35 rfl rfl ?_
        refine gX12_249 rfl dX12_stripLine_36 (isM_0 hM) ?_
        rw [e3]
        refine a_iadd dX12_stripLine_39 ?_
        refine a_aload_n (i := 0) dX12_stripLine_40 rfl rfl ?_
        refine gX12_224 rfl dX12_stripLine_41 (isM_0 hM) ?_
        rw [got]
        refine a_iastN dX12_stripLine_44 (isM_42 hM) (by first | exact nI_add 4 _ | with_reducible exact rfl | with_reducible exact ix8 _ _ | with_reducible exact ix12 _ _ | exact rfl) (by omega) (by decide) ?_
        refine a_aload_n (i := 0) dX12_stripLine_45 rfl rfl ?_
        refine a_dup dX12_stripLine_46 rfl ?_
        refine gX12_249 rfl dX12_stripLine_47 (isM_0 hM) ?_
        rw [aWr_n _ _ _ (by decide), e3]
        refine a_iconst (v := 1) dX12_stripLine_50 (by decide) ?_
        refine a_iadd dX12_stripLine_51 ?_
        rw [nI_1]
        refine pX12_249 rfl dX12_stripLine_52 (isM_0 hM) ?_
        refine a_iconst (v := 1) dX12_stripLine_55 (by decide) ?_
        refine a_iret dX12_stripLine_56 ?_
        refine ⟨by rw [bI_t good], mP_w (mP_got r3 (by decide)) (Or.inr (by decide)), fun _ => ?_, mW_t F4 (mW_t (mW_wl (by decide) (by decide)) mW_wa)⟩
        refine rTM_strip (x := shr x) hT bd hk (by omega) (shr_fr (a := 22) (by decide) hlf_42 (by decide) (mW_t F4 (mW_t (mW_wl (by decide) (by decide)) mW_wa))) ?_ ?_
        · rw [shr_r _ (by decide) (show hlf 42 = 4 from rfl), aWr_n _ _ _ (by decide), aWr_s]
        · rw [shr_0, aWr_s]
      · have bad := fun e => bI_nz.mpr e c_25
        refine a_iconst (v := 0) dX12_stripLine_28 (by decide) ?_
        exact a_iret dX12_stripLine_29 (by exact ⟨by rw [bI_f bad], r3, fun e => absurd e bad, F4⟩)
    · exact absurd ((nI_eq (b := 4) (by omega) (by decide)).mp c_5) (by omega)
end qAX
