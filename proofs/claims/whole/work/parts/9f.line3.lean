/-! READING, the class: deed, wedding, the line's end -/
def lnEnd (B : Nat → Nat) (n : Nat) (T : zT) (r : zP) : zT × zP := if ¬ r.2.1 = 0 then (T, r) else if ¬ (tok B n r.1).1 = 26 then (T, pFl B n 1 r) else (tu1 T 8 (T.1 8 + 1), pGo B n r)
section qAM
variable {l : Launch} {d : Nat} {D : Nat → Bool} {x y : aS} {n t s : Nat} {B : Nat → Nat} {r r' : zP} {T : zT}
set_option maxHeartbeats 8000000 in
set_option maxRecDepth 100000 in
theorem c_X3_readDeed (hD : aDC D) (I : cI n B t T r x) (h0 : r.2.1 = 0) (hs : s ≤ 1) (hks : (tok B n r.1).1 = 2 + s) : aCt l mX3_readDeed (d + 8) D [.ref bRd] x (fun v y => v = none ∧ cI n B t (lnDeed B n s T r).1 (lnDeed B n s T r).2 y ∧ cLn t x y) := by
  obtain ⟨ht, hp, hk, hr, hT, bd⟩ := id I
  have e1 : x.1 t 10 = nI (T.1 2) := hT.2.2.1
  have b0 := bd.1
  have kd := (hr.2.2.1 h0).2.1.2.1
  refine a_met (by decide) (Nat.le_of_ble_eq_true rfl) (fun v y q => Or.inr (Or.inr (Or.inr ⟨rfl, q.1⟩))) ?_
  unfold lnDeed
  by_cases g : 14 ≤ T.1 2
  · rw [if_pos g]
    have e6 : T.1 2 = 14 := by have := bd.2.2.1; omega
    rw [e6] at e1
    have fl := cP_fl (c := 2) hr h0 (by decide) (by decide)
    refine a_aload_n (i := 0) dX3_readDeed_0 rfl rfl ?_
    refine gX3_21 rfl dX3_readDeed_1 (isRd_0 hD) ?_
    rw [hp]
    refine gX3_134 rfl dX3_readDeed_4 (isT_0 hD ht) ?_
    rw [e1]
    refine a_bipush (v := 14) dX3_readDeed_7 (by decide) ?_
    refine a_icmp_lt (tg := 18) dX3_readDeed_9 (by decide) (fun c_9 => ?_) (fun c_9 => ?_)
    · exact absurd c_9 (by decide)
    · refine a_aload_n (i := 0) dX3_readDeed_12 rfl rfl ?_
      refine a_iconst (v := 2) dX3_readDeed_13 (by decide) ?_
      refine kX3_77 rfl dX3_readDeed_14 (Nat.le_of_ble_eq_true rfl) (isRd_0 hD) (c_X3_fail (c := 2) hD hr h0) ?_
      exact a_vret dX3_readDeed_17 (by exact ⟨rfl, cI_u I fl.1 fl.2, cLn_u fl.2⟩)
  · rw [if_neg g]
    have k14 : T.1 2 < 14 := by omega
    have lt6 : nI (T.1 2) < 14 := nI_lt (b := 14) (by omega) (by decide)
    obtain ⟨q, hq⟩ : ∃ q, q = t + 12 + 88 + T.1 2 := ⟨_, rfl⟩
    have tq : t ≤ q := by omega
    have tq2 : q < t + 130 := by omega
    obtain ⟨X, hX⟩ : ∃ X, X = aWr x q 4 (nI s) := ⟨_, rfl⟩
    have JX : cJ n B t r X := by rw [hX]; exact cJ_w (cJ_i I) tq
    have K : ∀ y1 y2 z2 y3 z3 y4 z4 y5 z5 Y : aS, cU X y1 → cU y1 y2 → z2 = aWr y2 q 0 (nI (de1 B n T r).2) → cU z2 y3 → z3 = aWr y3 q 1 (nI (de2 B n T r).2) → cU z3 y4 → z4 = aWr y4 q 2 (nI (de3 B n T r).2) → cU z4 y5 → z5 = aWr y5 q 3 (nI (de4 B n T r).2) → cJ n B t (de4 B n T r).1 z5 → Y = aWr z5 t 10 (nI (T.1 2 + 1)) → cI n B t (tu1 (tui (tui (tun (tun (tun T 4 (T.1 2) s) 2 (T.1 2) (de1 B n T r).2) 3 (T.1 2) (de2 B n T r).2) 5 (T.1 2) (nI (de3 B n T r).2)) 6 (T.1 2) (nI (de4 B n T r).2)) 2 (T.1 2 + 1)) (de4 B n T r).1 Y ∧ cLn t x Y := by
      intro y1 y2 z2 y3 z3 y4 z4 y5 z5 Y F1 F2 hz2 F3 hz3 F4 hz4 F5 hz5 C5 hY
      have J := cJ_w (m := t) (j := 10) (v := nI (T.1 2 + 1)) C5 (Nat.le_refl t)
      rw [← hY] at J
      have T2 : ∀ m j, t ≤ m → y2.1 m j = X.1 m j := fun m j hm => (cU_T ht hm F2).trans (cU_T ht hm F1)
      have T3 : ∀ m j, t ≤ m → y3.1 m j = z2.1 m j := fun m j hm => cU_T ht hm F3
      have T4 : ∀ m j, t ≤ m → y4.1 m j = z3.1 m j := fun m j hm => cU_T ht hm F4
      have T5 : ∀ m j, t ≤ m → y5.1 m j = z4.1 m j := fun m j hm => cU_T ht hm F5
      have qt : q ≠ t := by omega
      have R := rT_deed (y := Y) (k := T.1 2) (a0 := (de1 B n T r).2) (a1 := (de2 B n T r).2) (a2 := nI (de3 B n T r).2) (a3 := nI (de4 B n T r).2) (a4 := s) hT bd rfl k14 (fun m j h1 h2 e => by rw [← hq] at e; rw [hY, aWr_o _ _ (by omega), hz5, aWr_o _ _ (by omega), T5 m j h1, hz4, aWr_o _ _ (by omega), T4 m j h1, hz3, aWr_o _ _ (by omega), T3 m j h1, hz2, aWr_o _ _ (by omega), T2 m j h1, hX, aWr_o _ _ (by omega)]) (by rw [← hq, hY, aWr_n _ _ _ qt, hz5, aWr_j _ _ _ (by decide), T5 _ _ tq, hz4, aWr_j _ _ _ (by decide), T4 _ _ tq, hz3, aWr_j _ _ _ (by decide), T3 _ _ tq, hz2, aWr_s]) (by rw [← hq, hY, aWr_n _ _ _ qt, hz5, aWr_j _ _ _ (by decide), T5 _ _ tq, hz4, aWr_j _ _ _ (by decide), T4 _ _ tq, hz3, aWr_s]) (by rw [← hq, hY, aWr_n _ _ _ qt, hz5, aWr_j _ _ _ (by decide), T5 _ _ tq, hz4, aWr_s]) (by rw [← hq, hY, aWr_n _ _ _ qt, hz5, aWr_s]) (by rw [← hq, hY, aWr_n _ _ _ qt, hz5, aWr_j _ _ _ (by decide), T5 _ _ tq, hz4, aWr_j _ _ _ (by decide), T4 _ _ tq, hz3, aWr_j _ _ _ (by decide), T3 _ _ tq, hz2, aWr_j _ _ _ (by decide), T2 _ _ tq, hX, aWr_s]) (by rw [hY, aWr_s])
      refine ⟨⟨ht, J.2.1, J.2.2.1, J.2.2.2, R, bd.1, bd.2.1, by show T.1 2 + 1 ≤ 14; omega, bd.2.2.2⟩, ?_⟩
      have w1 : cLn t x X := by rw [hX]; exact cLn_w tq tq2
      have w2 : cLn t x z2 := cLn_t (cLn_t w1 (cLn_u (cU_t F1 F2))) (by rw [hz2]; exact cLn_w tq tq2)
      have w3 : cLn t x z3 := cLn_t (cLn_t w2 (cLn_u F3)) (by rw [hz3]; exact cLn_w tq tq2)
      have w4 : cLn t x z4 := cLn_t (cLn_t w3 (cLn_u F4)) (by rw [hz4]; exact cLn_w tq tq2)
      have w5 : cLn t x z5 := cLn_t (cLn_t w4 (cLn_u F5)) (by rw [hz5]; exact cLn_w tq tq2)
      rw [hY]
      exact cLn_t w5 (cLn_w (Nat.le_refl t) (by omega))
    have isq : aIs D q 0 0 := by rw [hq]; exact isDe hD ht k14
    have E : aV l mX3_readDeed (d + 8) D none 54 [(0, .ref bRd), (1, .ref q)] [] X (fun v y => v = none ∧ cI n B t (tu1 (tui (tui (tun (tun (tun T 4 (T.1 2) s) 2 (T.1 2) (de1 B n T r).2) 3 (T.1 2) (de2 B n T r).2) 5 (T.1 2) (nI (de3 B n T r).2)) 6 (T.1 2) (nI (de4 B n T r).2)) 2 (T.1 2 + 1)) (de4 B n T r).1 y ∧ cLn t x y) := by
      refine a_aload_n (i := 0) dX3_readDeed_54 rfl rfl ?_
      refine gX3_12 rfl dX3_readDeed_55 (isRd_0 hD) ?_
      refine kgX3_83 rfl dX3_readDeed_58 (Nat.le_of_ble_eq_true rfl) (isTp_0 hD) (c_X7_step hD JX.2.2.1 (cP_n JX.2.2.2 h0).1 (cP_n JX.2.2.2 h0).2) ?_
      rintro v y1 ⟨rfl, u1, F1⟩
      have C1 := cJ_go JX h0 u1 F1
      refine a_aload_n (i := 1) dX3_readDeed_61 rfl rfl ?_
      refine a_aload_n (i := 0) dX3_readDeed_62 rfl rfl ?_
      refine a_aload_n (i := 0) dX3_readDeed_63 rfl rfl ?_
      refine gX3_21 rfl dX3_readDeed_64 (isRd_0 hD) ?_
      rw [C1.2.1]
      refine gX3_95 rfl dX3_readDeed_67 (isT_0 hD ht) ?_
      refine a_aload_n (i := 0) dX3_readDeed_70 rfl rfl ?_
      refine gX3_21 rfl dX3_readDeed_71 (isRd_0 hD) ?_
      rw [C1.2.1]
      refine gX3_92 rfl dX3_readDeed_74 (isT_0 hD ht) ?_
      rw [cU_T ht (Nat.le_refl t) (cU_s F1), hX, aWr_n _ _ _ (show t ≠ q by omega), hT.1]
      refine kgX3_121 rfl dX3_readDeed_77 (Nat.le_of_ble_eq_true rfl) (isRd_0 hD) (c_X3_takeToldName (f := T.2.1 0) (N := T.1 0) hD C1.2.2.1 C1.2.2.2 (isT_3 hD ht) b0 (by decide) (fun k hk => by rw [cU_T ht (by omega) (cU_s F1), hX, aWr_n _ _ _ (show t + 3 ≠ q by omega)]; exact (hT.2.2.2.2.2.2.2.2.2.1 k hk).1)) ?_
      rintro v y2 ⟨rfl, u2, F2⟩
      have C2 := cJ_u C1 u2 F2
      refine pX3_146 rfl dX3_readDeed_80 (isq) ?_
      have Z2 := cJ_w (m := q) (j := 0) (v := nI (de1 B n T r).2) C2 tq
      obtain ⟨z2, hz2⟩ : ∃ z2, z2 = aWr y2 q 0 (nI (de1 B n T r).2) := ⟨_, rfl⟩
      change aV _ _ _ _ _ _ _ _ (aWr y2 q 0 (nI (de1 B n T r).2)) _
      rw [← hz2] at Z2 ⊢
      refine a_aload_n (i := 1) dX3_readDeed_83 rfl rfl ?_
      refine a_aload_n (i := 0) dX3_readDeed_84 rfl rfl ?_
      refine a_iconst (v := 0) dX3_readDeed_85 (by decide) ?_
      refine a_bipush (v := 7) dX3_readDeed_86 (by decide) ?_
      refine kgX3_108 rfl dX3_readDeed_88 (Nat.le_of_ble_eq_true rfl) (isRd_0 hD) (c_X3_takeNumber (lo := 0) (hi := 7) hD Z2.2.2.1 Z2.2.2.2 (by decide) (by decide)) ?_
      rintro v y3 ⟨rfl, u3, F3⟩
      have C3 := cJ_u Z2 u3 F3
      refine pX3_149 rfl dX3_readDeed_91 (isq) ?_
      have Z3 := cJ_w (m := q) (j := 1) (v := nI (de2 B n T r).2) C3 tq
      obtain ⟨z3, hz3⟩ : ∃ z3, z3 = aWr y3 q 1 (nI (de2 B n T r).2) := ⟨_, rfl⟩
      change aV _ _ _ _ _ _ _ _ (aWr y3 q 1 (nI (de2 B n T r).2)) _
      rw [← hz3] at Z3 ⊢
      refine a_aload_n (i := 1) dX3_readDeed_94 rfl rfl ?_
      refine a_aload_n (i := 0) dX3_readDeed_95 rfl rfl ?_
      refine a_iconst (v := 1) dX3_readDeed_96 (by decide) ?_
      refine a_bipush (v := 20) dX3_readDeed_97 (by decide) ?_
      refine kgX3_108 rfl dX3_readDeed_99 (Nat.le_of_ble_eq_true rfl) (isRd_0 hD) (c_X3_takeNumber (lo := 1) (hi := 20) hD Z3.2.2.1 Z3.2.2.2 (by decide) (by decide)) ?_
      rintro v y4 ⟨rfl, u4, F4⟩
      have C4 := cJ_u Z3 u4 F4
      refine pX3_152 rfl dX3_readDeed_102 (isq) ?_
      have Z4 := cJ_w (m := q) (j := 2) (v := nI (de3 B n T r).2) C4 tq
      obtain ⟨z4, hz4⟩ : ∃ z4, z4 = aWr y4 q 2 (nI (de3 B n T r).2) := ⟨_, rfl⟩
      change aV _ _ _ _ _ _ _ _ (aWr y4 q 2 (nI (de3 B n T r).2)) _
      rw [← hz4] at Z4 ⊢
      refine a_aload_n (i := 1) dX3_readDeed_105 rfl rfl ?_
      refine a_aload_n (i := 0) dX3_readDeed_106 rfl rfl ?_
      refine a_iconst (v := 0) dX3_readDeed_107 (by decide) ?_
      refine a_bipush (v := 99) dX3_readDeed_108 (by decide) ?_
      refine kgX3_108 rfl dX3_readDeed_110 (Nat.le_of_ble_eq_true rfl) (isRd_0 hD) (c_X3_takeNumber (lo := 0) (hi := 99) hD Z4.2.2.1 Z4.2.2.2 (by decide) (by decide)) ?_
      rintro v y5 ⟨rfl, u5, F5⟩
      have C5 := cJ_u Z4 u5 F5
      refine pX3_155 rfl dX3_readDeed_113 (isq) ?_
      have Z5 := cJ_w (m := q) (j := 3) (v := nI (de4 B n T r).2) C5 tq
      obtain ⟨z5, hz5⟩ : ∃ z5, z5 = aWr y5 q 3 (nI (de4 B n T r).2) := ⟨_, rfl⟩
      change aV _ _ _ _ _ _ _ _ (aWr y5 q 3 (nI (de4 B n T r).2)) _
      rw [← hz5] at Z5 ⊢
      refine a_aload_n (i := 0) dX3_readDeed_116 rfl rfl ?_
      refine gX3_21 rfl dX3_readDeed_117 (isRd_0 hD) ?_
      rw [Z5.2.1]
      refine a_dup dX3_readDeed_120 rfl ?_
      refine gX3_134 rfl dX3_readDeed_121 (isT_0 hD ht) ?_
      rw [hz5, aWr_n _ _ _ (show t ≠ q by omega), cU_T ht (Nat.le_refl t) F5, hz4, aWr_n _ _ _ (show t ≠ q by omega), cU_T ht (Nat.le_refl t) F4, hz3, aWr_n _ _ _ (show t ≠ q by omega), cU_T ht (Nat.le_refl t) F3, hz2, aWr_n _ _ _ (show t ≠ q by omega), cU_T ht (Nat.le_refl t) F2, cU_T ht (Nat.le_refl t) (cU_s F1), hX, aWr_n _ _ _ (show t ≠ q by omega), e1]
      refine a_iconst (v := 1) dX3_readDeed_124 (by decide) ?_
      refine a_iadd dX3_readDeed_125 ?_
      rw [nI_1]
      refine pX3_134 rfl dX3_readDeed_126 (isT_0 hD ht) ?_
      exact a_vret dX3_readDeed_129 (by exact ⟨rfl, K y1 y2 z2 y3 z3 y4 z4 y5 z5 _ (cU_s F1) F2 hz2 F3 hz3 F4 hz4 F5 hz5 Z5 (by rw [← hz5])⟩)
    rcases (by omega : s = 0 ∨ s = 1) with rfl | rfl
    · refine a_aload_n (i := 0) dX3_readDeed_0 rfl rfl ?_
      refine gX3_21 rfl dX3_readDeed_1 (isRd_0 hD) ?_
      rw [hp]
      refine gX3_134 rfl dX3_readDeed_4 (isT_0 hD ht) ?_
      rw [e1]
      refine a_bipush (v := 14) dX3_readDeed_7 (by decide) ?_
      refine a_icmp_lt (tg := 18) dX3_readDeed_9 (by decide) (fun c_9 => ?_) (fun c_9 => ?_)
      · refine a_aload_n (i := 0) dX3_readDeed_18 rfl rfl ?_
        refine gX3_21 rfl dX3_readDeed_19 (isRd_0 hD) ?_
        rw [hp]
        refine gX3_137 rfl dX3_readDeed_22 (isT_0 hD ht) ?_
        refine a_aload_n (i := 0) dX3_readDeed_25 rfl rfl ?_
        refine gX3_21 rfl dX3_readDeed_26 (isRd_0 hD) ?_
        rw [hp]
        refine gX3_134 rfl dX3_readDeed_29 (isT_0 hD ht) ?_
        rw [e1]
        refine a_adeedN dX3_readDeed_32 (isT_12 hD ht) (by first | with_reducible exact rfl | with_reducible exact ix8 _ _ | with_reducible exact ix12 _ _ | exact rfl) (by exact k14) (by decide) ?_
        refine a_astore_n (i := 1) dX3_readDeed_33 rfl (by decide) ?_
        refine a_aload_n (i := 1) dX3_readDeed_34 rfl rfl ?_
        refine a_aload_n (i := 0) dX3_readDeed_35 rfl rfl ?_
        refine gX3_12 rfl dX3_readDeed_36 (isRd_0 hD) ?_
        refine gX3_50 rfl dX3_readDeed_39 (isTp_0 hD) ?_
        rw [kd, hks]
        refine a_iconst (v := 3) dX3_readDeed_42 (by decide) ?_
        refine a_icmp_ne (tg := 50) dX3_readDeed_43 (by decide) (fun c_43 => ?_) (fun c_43 => ?_)
        · refine a_iconst (v := 0) dX3_readDeed_50 (by decide) ?_
          refine pX3_141 rfl dX3_readDeed_51 (isDe hD ht k14) (by first | exact Or.inl rfl | exact Or.inr rfl | assumption) ?_
          rw [← hq]
          change aV _ _ _ _ _ _ _ _ (aWr x q 4 (nI 0)) _
          rw [← hX]
          exact a_loc _ rfl E
        · exact absurd c_43 (by decide)
      · exact absurd lt6 c_9
    · refine a_aload_n (i := 0) dX3_readDeed_0 rfl rfl ?_
      refine gX3_21 rfl dX3_readDeed_1 (isRd_0 hD) ?_
      rw [hp]
      refine gX3_134 rfl dX3_readDeed_4 (isT_0 hD ht) ?_
      rw [e1]
      refine a_bipush (v := 14) dX3_readDeed_7 (by decide) ?_
      refine a_icmp_lt (tg := 18) dX3_readDeed_9 (by decide) (fun c_9 => ?_) (fun c_9 => ?_)
      · refine a_aload_n (i := 0) dX3_readDeed_18 rfl rfl ?_
        refine gX3_21 rfl dX3_readDeed_19 (isRd_0 hD) ?_
        rw [hp]
        refine gX3_137 rfl dX3_readDeed_22 (isT_0 hD ht) ?_
        refine a_aload_n (i := 0) dX3_readDeed_25 rfl rfl ?_
        refine gX3_21 rfl dX3_readDeed_26 (isRd_0 hD) ?_
        rw [hp]
        refine gX3_134 rfl dX3_readDeed_29 (isT_0 hD ht) ?_
        rw [e1]
        refine a_adeedN dX3_readDeed_32 (isT_12 hD ht) (by first | with_reducible exact rfl | with_reducible exact ix8 _ _ | with_reducible exact ix12 _ _ | exact rfl) (by exact k14) (by decide) ?_
        refine a_astore_n (i := 1) dX3_readDeed_33 rfl (by decide) ?_
        refine a_aload_n (i := 1) dX3_readDeed_34 rfl rfl ?_
        refine a_aload_n (i := 0) dX3_readDeed_35 rfl rfl ?_
        refine gX3_12 rfl dX3_readDeed_36 (isRd_0 hD) ?_
        refine gX3_50 rfl dX3_readDeed_39 (isTp_0 hD) ?_
        rw [kd, hks]
        refine a_iconst (v := 3) dX3_readDeed_42 (by decide) ?_
        refine a_icmp_ne (tg := 50) dX3_readDeed_43 (by decide) (fun c_43 => ?_) (fun c_43 => ?_)
        · exact absurd rfl c_43
        · refine a_iconst (v := 1) dX3_readDeed_46 (by decide) ?_
          refine a_goto (tg := 51) dX3_readDeed_47 (by decide) ?_
          refine pX3_141 rfl dX3_readDeed_51 (isDe hD ht k14) (by first | exact Or.inl rfl | exact Or.inr rfl | assumption) ?_
          rw [← hq]
          change aV _ _ _ _ _ _ _ _ (aWr x q 4 (nI 1)) _
          rw [← hX]
          exact a_loc _ rfl E
      · exact absurd lt6 c_9
set_option maxHeartbeats 4000000 in
set_option maxRecDepth 100000 in
theorem c_X3_endLine (hD : aDC D) (I : cI n B t T r x) : aCt l mX3_endLine (d + 7) D [.ref bRd] x (fun v y => v = none ∧ cI n B t (lnEnd B n T r).1 (lnEnd B n T r).2 y ∧ cLn t x y) := by
  obtain ⟨ht, hp, hk, hr, hT, bd⟩ := id I
  refine a_met (by decide) (Nat.le_of_ble_eq_true rfl) (fun v y q => Or.inr (Or.inr (Or.inr ⟨rfl, q.1⟩))) ?_
  unfold lnEnd
  by_cases h0 : r.2.1 = 0
  · rw [if_neg (fun e => e h0)]
    have z : x.1 bRd 7 = 0 := by rw [hr.1, h0]; rfl
    obtain ⟨i1, b, c⟩ := hr.2.2.1 h0
    have tk := tok_ok (B := B) i1
    by_cases q : (tok B n r.1).1 = 26
    · rw [if_neg (fun e => e q)]
      have K : ∀ y1 Y : aS, cI n B t T (pGo B n r) y1 → cU x y1 → Y = aWr y1 t 0 (nI (T.1 8 + 1)) → cI n B t (tu1 T 8 (T.1 8 + 1)) (pGo B n r) Y ∧ cLn t x Y := by
        intro y1 Y I1 F1 hY
        have J := cJ_w (m := t) (j := 0) (v := nI (T.1 8 + 1)) (cJ_i I1) (Nat.le_refl t)
        rw [← hY] at J
        have R := rT_lines (y := Y) (k := T.1 8 + 1) I1.2.2.2.2.1 bd (fun m j h1 h2 e => by rw [hY, aWr_o _ _ e]) (by rw [hY, aWr_s])
        refine ⟨⟨ht, J.2.1, J.2.2.1, J.2.2.2, R, bd⟩, ?_⟩
        rw [hY]; exact cLn_t (cLn_u F1) (cLn_w (Nat.le_refl t) (by omega))
      refine a_aload_n (i := 0) dX3_endLine_0 rfl rfl ?_
      refine gX3_43 rfl dX3_endLine_1 (isRd_0 hD) ?_
      rw [z]
      refine a_if_ne (tg := 24) dX3_endLine_4 (by decide) (fun c_4 => ?_) (fun c_4 => ?_)
      · exact absurd rfl c_4
      · refine a_aload_n (i := 0) dX3_endLine_7 rfl rfl ?_
        refine gX3_12 rfl dX3_endLine_8 (isRd_0 hD) ?_
        refine gX3_50 rfl dX3_endLine_11 (isTp_0 hD) ?_
        rw [b.2.1, q]
        refine a_bipush (v := 26) dX3_endLine_14 (by decide) ?_
        refine a_icmp_eq (tg := 24) dX3_endLine_16 (by decide) (fun c_16 => ?_) (fun c_16 => ?_)
        · refine a_aload_n (i := 0) dX3_endLine_24 rfl rfl ?_
          refine gX3_43 rfl dX3_endLine_25 (isRd_0 hD) ?_
          rw [z]
          refine a_if_ne (tg := 51) dX3_endLine_28 (by decide) (fun c_28 => ?_) (fun c_28 => ?_)
          · exact absurd rfl c_28
          · refine a_aload_n (i := 0) dX3_endLine_31 rfl rfl ?_
            refine gX3_12 rfl dX3_endLine_32 (isRd_0 hD) ?_
            refine kgX3_83 rfl dX3_endLine_35 (Nat.le_of_ble_eq_true rfl) (isTp_0 hD) (c_X7_step hD hk (cP_n hr h0).1 (cP_n hr h0).2) ?_
            rintro v y1 ⟨rfl, u1, F1⟩
            have C1 := cI_go I h0 u1 F1
            refine a_aload_n (i := 0) dX3_endLine_38 rfl rfl ?_
            refine gX3_21 rfl dX3_endLine_39 (isRd_0 hD) ?_
            rw [C1.2.1]
            refine a_dup dX3_endLine_42 rfl ?_
            refine gX3_86 rfl dX3_endLine_43 (isT_0 hD ht) ?_
            rw [C1.2.2.2.2.1.2.2.2.2.2.2.2.2.1]
            refine a_iconst (v := 1) dX3_endLine_46 (by decide) ?_
            refine a_iadd dX3_endLine_47 ?_
            rw [nI_1]
            refine pX3_86 rfl dX3_endLine_48 (isT_0 hD ht) ?_
            exact a_vret dX3_endLine_51 (by exact ⟨rfl, K y1 _ C1 (cU_s F1) rfl⟩)
        · exact absurd rfl c_16
    · rw [if_pos q]
      have fl := cP_fl (c := 1) hr h0 (by decide) (by decide)
      refine a_aload_n (i := 0) dX3_endLine_0 rfl rfl ?_
      refine gX3_43 rfl dX3_endLine_1 (isRd_0 hD) ?_
      rw [z]
      refine a_if_ne (tg := 24) dX3_endLine_4 (by decide) (fun c_4 => ?_) (fun c_4 => ?_)
      · exact absurd rfl c_4
      · refine a_aload_n (i := 0) dX3_endLine_7 rfl rfl ?_
        refine gX3_12 rfl dX3_endLine_8 (isRd_0 hD) ?_
        refine gX3_50 rfl dX3_endLine_11 (isTp_0 hD) ?_
        rw [b.2.1]
        refine a_bipush (v := 26) dX3_endLine_14 (by decide) ?_
        refine a_icmp_eq (tg := 24) dX3_endLine_16 (by decide) (fun c_16 => ?_) (fun c_16 => ?_)
        · exact absurd ((nI_eq (b := 26) (by have := tk.2.2.2.2.2.1; omega) (by decide)).mp c_16) q
        · refine a_aload_n (i := 0) dX3_endLine_19 rfl rfl ?_
          refine a_iconst (v := 1) dX3_endLine_20 (by decide) ?_
          refine kX3_77 rfl dX3_endLine_21 (Nat.le_of_ble_eq_true rfl) (isRd_0 hD) (c_X3_fail (c := 1) hD hr h0) ?_
          refine a_aload_n (i := 0) dX3_endLine_24 rfl rfl ?_
          refine gX3_43 rfl dX3_endLine_25 (isRd_0 hD) ?_
          rw [aWr_j _ _ _ (by decide), aWr_s]
          refine a_if_ne (tg := 51) dX3_endLine_28 (by decide) (fun c_28 => ?_) (fun c_28 => ?_)
          · exact a_vret dX3_endLine_51 (by exact ⟨rfl, cI_u I fl.1 fl.2, cLn_u fl.2⟩)
          · exact absurd c_28 (by decide)
  · rw [if_pos h0]
    have z : ¬ x.1 bRd 7 = 0 := by rw [hr.1]; exact nI_ne0 (by omega) (by have := hr.2.1; omega)
    refine a_aload_n (i := 0) dX3_endLine_0 rfl rfl ?_
    refine gX3_43 rfl dX3_endLine_1 (isRd_0 hD) ?_
    refine a_if_ne (tg := 24) dX3_endLine_4 (by decide) (fun c_4 => ?_) (fun c_4 => ?_)
    · refine a_aload_n (i := 0) dX3_endLine_24 rfl rfl ?_
      refine gX3_43 rfl dX3_endLine_25 (isRd_0 hD) ?_
      refine a_if_ne (tg := 51) dX3_endLine_28 (by decide) (fun c_28 => ?_) (fun c_28 => ?_)
      · exact a_vret dX3_endLine_51 (by exact ⟨rfl, I, cLn_u ⟨fun _ _ _ _ => rfl, rfl⟩⟩)
      · exact absurd c_28 z
    · exact absurd c_4 z
end qAM
