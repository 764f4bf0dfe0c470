/-! READING, the class: wedding -/
theorem rT_x3 {T : zT} {x y : aS} {t : Nat} (b : tBd T) (h3 : T.1 3 < 6) (h : ∀ m j, t ≤ m → m < t + 130 → ¬ m = t + 14 + 106 + T.1 3 → y.1 m j = x.1 m j) (hT : rT T x t) : rT T y t := by
  obtain ⟨b0, b1, b2, b3, b4⟩ := b
  obtain ⟨h1, h2, h3, h4, h5, h6, h7, h8, h9, h10, h11, h12, h13, h14⟩ := hT
  refine ⟨by rw [h _ _ (by omega) (by omega) (by omega)]; exact h1, by rw [h _ _ (by omega) (by omega) (by omega)]; exact h2, by rw [h _ _ (by omega) (by omega) (by omega)]; exact h3, by rw [h _ _ (by omega) (by omega) (by omega)]; exact h4, by rw [h _ _ (by omega) (by omega) (by omega)]; exact h5, by rw [h _ _ (by omega) (by omega) (by omega)]; exact h6, by rw [h _ _ (by omega) (by omega) (by omega)]; exact h7, by rw [h _ _ (by omega) (by omega) (by omega)]; exact h8, by rw [h _ _ (by omega) (by omega) (by omega)]; exact h9, fun i hi => ?_, fun i hi => ?_, fun i hi => ?_, fun i hi => ?_, fun i hi => ?_⟩
  · rw [h _ _ (by omega) (by omega) (by omega), h _ _ (by omega) (by omega) (by omega)]; exact h10 i hi
  · rw [h _ _ (by omega) (by omega) (by omega), h _ _ (by omega) (by omega) (by omega), h _ _ (by omega) (by omega) (by omega), h _ _ (by omega) (by omega) (by omega), h _ _ (by omega) (by omega) (by omega)]; exact h11 i hi
  · rw [h _ _ (by omega) (by omega) (by omega), h _ _ (by omega) (by omega) (by omega), h _ _ (by omega) (by omega) (by omega), h _ _ (by omega) (by omega) (by omega), h _ _ (by omega) (by omega) (by omega)]; exact h12 i hi
  · rw [h _ _ (by omega) (by omega) (by omega), h _ _ (by omega) (by omega) (by omega), h _ _ (by omega) (by omega) (by omega)]; exact h13 i hi
  · rw [h _ _ (by omega) (by omega) (by omega)]; exact h14 i hi
section qAN
variable {l : Launch} {d : Nat} {D : Nat → Bool} {x y : aS} {n t s : Nat} {B : Nat → Nat} {r r' : zP} {T : zT}
set_option maxHeartbeats 8000000 in
set_option maxRecDepth 100000 in
theorem c_X3_readWedding (hD : aDC D) (I : cI n B t T r x) (h0 : r.2.1 = 0) : aCt l mX3_readWedding (d + 8) D [.ref bRd] x (fun v y => v = none ∧ cI n B t (lnWed B n T r).1 (lnWed B n T r).2 y ∧ cLn t x y) := by
  obtain ⟨ht, hp, hk, hr, hT, bd⟩ := id I
  have e1 : x.1 t 12 = nI (T.1 3) := hT.2.2.2.1
  have b1 := bd.2.1
  refine a_met (by decide) (Nat.le_of_ble_eq_true rfl) (fun v y q => Or.inr (Or.inr (Or.inr ⟨rfl, q.1⟩))) ?_
  unfold lnWed
  by_cases g : 6 ≤ T.1 3
  · rw [if_pos g]
    have e6 : T.1 3 = 6 := by have := bd.2.2.2.1; omega
    rw [e6] at e1
    have fl := cP_fl (c := 2) hr h0 (by decide) (by decide)
    refine a_aload_n (i := 0) dX3_readWedding_0 rfl rfl ?_
    refine gX3_21 rfl dX3_readWedding_1 (isRd_0 hD) ?_
    rw [hp]
    refine gX3_158 rfl dX3_readWedding_4 (isT_0 hD ht) ?_
    rw [e1]
    refine a_bipush (v := 6) dX3_readWedding_7 (by decide) ?_
    refine a_icmp_lt (tg := 18) dX3_readWedding_9 (by decide) (fun c_9 => ?_) (fun c_9 => ?_)
    · exact absurd c_9 (by decide)
    · refine a_aload_n (i := 0) dX3_readWedding_12 rfl rfl ?_
      refine a_iconst (v := 2) dX3_readWedding_13 (by decide) ?_
      refine kX3_77 rfl dX3_readWedding_14 (Nat.le_of_ble_eq_true rfl) (isRd_0 hD) (c_X3_fail (c := 2) hD hr h0) ?_
      exact a_vret dX3_readWedding_17 (by exact ⟨rfl, cI_u I fl.1 fl.2, cLn_u fl.2⟩)
  · rw [if_neg g]
    have k6 : T.1 3 < 6 := by omega
    have lt6 : nI (T.1 3) < 6 := nI_lt (b := 6) (by omega) (by decide)
    obtain ⟨q, hq⟩ : ∃ q, q = t + 14 + 106 + T.1 3 := ⟨_, rfl⟩
    have tq : t ≤ q := by omega
    have tq2 : q < t + 130 := by omega
    have qt : q ≠ t := by omega
    have isq : aIs D q 9 0 := by rw [hq]; exact isWe hD ht k6
    have K : ∀ z2 y3 z3 y4 z4 Y : aS, rT T z2 t → cLn t x z2 → z2.1 q 0 = nI (we1 B n T r).2 → cU z2 y3 → z3 = aWr y3 q 1 (nI (we2 B n T r).2) → cU z3 y4 → z4 = aWr y4 q 2 (nI (we3 B n T r).2) → cJ n B t (we3 B n T r).1 z4 → Y = aWr z4 t 12 (nI (T.1 3 + 1)) → cI n B t (tu1 (tui (tun (tun T 5 (T.1 3) (we1 B n T r).2) 6 (T.1 3) (we2 B n T r).2) 7 (T.1 3) (nI (we3 B n T r).2)) 3 (T.1 3 + 1)) (we3 B n T r).1 Y ∧ cLn t x Y := by
      intro z2 y3 z3 y4 z4 Y R2 G v0 F3 hz3 F4 hz4 C4 hY
      have J := cJ_w (m := t) (j := 12) (v := nI (T.1 3 + 1)) C4 (Nat.le_refl t)
      rw [← hY] at J
      have T3 : ∀ m j, t ≤ m → y3.1 m j = z2.1 m j := fun m j hm => cU_T ht hm F3
      have T4 : ∀ m j, t ≤ m → y4.1 m j = z3.1 m j := fun m j hm => cU_T ht hm F4
      have R := rT_wed (y := Y) (k := T.1 3) (a0 := (we1 B n T r).2) (a1 := (we2 B n T r).2) (a2 := nI (we3 B n T r).2) R2 bd rfl k6 (fun m j h1 h2 e => by rw [← hq] at e; rw [hY, aWr_o _ _ (by omega), hz4, aWr_o _ _ (by omega), T4 m j h1, hz3, aWr_o _ _ (by omega), T3 m j h1]) (by rw [← hq, hY, aWr_n _ _ _ qt, hz4, aWr_j _ _ _ (by decide), T4 _ _ tq, hz3, aWr_j _ _ _ (by decide), T3 _ _ tq]; exact v0) (by rw [← hq, hY, aWr_n _ _ _ qt, hz4, aWr_j _ _ _ (by decide), T4 _ _ tq, hz3, aWr_s]) (by rw [← hq, hY, aWr_n _ _ _ qt, hz4, aWr_s]) (by rw [hY, aWr_s])
      refine ⟨⟨ht, J.2.1, J.2.2.1, J.2.2.2, R, bd.1, bd.2.1, bd.2.2.1, by show T.1 3 + 1 ≤ 6; omega, bd.2.2.2.2⟩, ?_⟩
      have w3 : cLn t x z3 := cLn_t (cLn_t G (cLn_u F3)) (by rw [hz3]; exact cLn_w tq tq2)
      have w4 : cLn t x z4 := cLn_t (cLn_t w3 (cLn_u F4)) (by rw [hz4]; exact cLn_w tq tq2)
      rw [hY]
      exact cLn_t w4 (cLn_w (Nat.le_refl t) (by omega))
    have E : ∀ z2 : aS, cI n B t T (we1 B n T r).1 z2 → cLn t x z2 → z2.1 q 0 = nI (we1 B n T r).2 → aV l mX3_readWedding (d + 8) D none 107 [(0, .ref bRd), (1, .ref q)] [] z2 (fun v y => v = none ∧ cI n B t (tu1 (tui (tun (tun T 5 (T.1 3) (we1 B n T r).2) 6 (T.1 3) (we2 B n T r).2) 7 (T.1 3) (nI (we3 B n T r).2)) 3 (T.1 3 + 1)) (we3 B n T r).1 y ∧ cLn t x y) := by
      intro z2 I2 G v0
      refine a_aload_n (i := 1) dX3_readWedding_107 rfl rfl ?_
      refine a_aload_n (i := 0) dX3_readWedding_108 rfl rfl ?_
      refine a_aload_n (i := 0) dX3_readWedding_109 rfl rfl ?_
      refine gX3_21 rfl dX3_readWedding_110 (isRd_0 hD) ?_
      rw [I2.2.1]
      refine gX3_115 rfl dX3_readWedding_113 (isT_0 hD ht) ?_
      refine a_aload_n (i := 0) dX3_readWedding_116 rfl rfl ?_
      refine gX3_21 rfl dX3_readWedding_117 (isRd_0 hD) ?_
      rw [I2.2.1]
      refine gX3_112 rfl dX3_readWedding_120 (isT_0 hD ht) ?_
      rw [I2.2.2.2.2.1.2.1]
      refine kgX3_121 rfl dX3_readWedding_123 (Nat.le_of_ble_eq_true rfl) (isRd_0 hD) (c_X3_takeToldName (f := T.2.1 2) (N := T.1 1) hD I2.2.2.1 I2.2.2.2.1 (isT_6 hD ht) b1 (by decide) (fun k hk => (I2.2.2.2.2.1.2.2.2.2.2.2.2.2.2.2.1 k hk).1)) ?_
      rintro v y3 ⟨rfl, u3, F3⟩
      have C3 := cJ_u (cJ_i I2) u3 F3
      refine pX3_170 rfl dX3_readWedding_126 (isq) ?_
      have Z3 := cJ_w (m := q) (j := 1) (v := nI (we2 B n T r).2) C3 tq
      obtain ⟨z3, hz3⟩ : ∃ z3, z3 = aWr y3 q 1 (nI (we2 B n T r).2) := ⟨_, rfl⟩
      change aV _ _ _ _ _ _ _ _ (aWr y3 q 1 (nI (we2 B n T r).2)) _
      rw [← hz3] at Z3 ⊢
      refine a_aload_n (i := 1) dX3_readWedding_129 rfl rfl ?_
      refine a_aload_n (i := 0) dX3_readWedding_130 rfl rfl ?_
      refine a_iconst (v := 0) dX3_readWedding_131 (by decide) ?_
      refine a_bipush (v := 99) dX3_readWedding_132 (by decide) ?_
      refine kgX3_108 rfl dX3_readWedding_134 (Nat.le_of_ble_eq_true rfl) (isRd_0 hD) (c_X3_takeNumber (lo := 0) (hi := 99) hD Z3.2.2.1 Z3.2.2.2 (by decide) (by decide)) ?_
      rintro v y4 ⟨rfl, u4, F4⟩
      have C4 := cJ_u Z3 u4 F4
      refine pX3_173 rfl dX3_readWedding_137 (isq) ?_
      have Z4 := cJ_w (m := q) (j := 2) (v := nI (we3 B n T r).2) C4 tq
      obtain ⟨z4, hz4⟩ : ∃ z4, z4 = aWr y4 q 2 (nI (we3 B n T r).2) := ⟨_, rfl⟩
      change aV _ _ _ _ _ _ _ _ (aWr y4 q 2 (nI (we3 B n T r).2)) _
      rw [← hz4] at Z4 ⊢
      refine a_aload_n (i := 0) dX3_readWedding_140 rfl rfl ?_
      refine gX3_21 rfl dX3_readWedding_141 (isRd_0 hD) ?_
      rw [Z4.2.1]
      refine a_dup dX3_readWedding_144 rfl ?_
      refine gX3_158 rfl dX3_readWedding_145 (isT_0 hD ht) ?_
      rw [hz4, aWr_n _ _ _ (show t ≠ q by omega), cU_T ht (Nat.le_refl t) F4, hz3, aWr_n _ _ _ (show t ≠ q by omega), cU_T ht (Nat.le_refl t) F3, I2.2.2.2.2.1.2.2.2.1]
      refine a_iconst (v := 1) dX3_readWedding_148 (by decide) ?_
      refine a_iadd dX3_readWedding_149 ?_
      rw [nI_1]
      refine pX3_158 rfl dX3_readWedding_150 (isT_0 hD ht) ?_
      exact a_vret dX3_readWedding_153 (by exact ⟨rfl, K z2 y3 z3 y4 z4 _ I2.2.2.2.2.1 G v0 F3 hz3 F4 hz4 Z4 (by rw [← hz4])⟩)
    have M : ∀ y1 : aS, cI n B t T (pGo B n r) y1 → cU x y1 → aV l mX3_readWedding (d + 8) D none 49 [(0, .ref bRd), (1, .ref q), (2, .int (nI (tok B n (pGo B n r).1).2.1))] [] y1 (fun v y => v = none ∧ cI n B t (if (we1 B n T r).1.2.1 = 0 ∧ (tok B n (we1 B n T r).1.1).1 = 22 ∧ (tok B n (we1 B n T r).1.1).2.1 = (tok B n (pGo B n r).1).2.1 then (T, pFl B n 5 (we1 B n T r).1) else (tu1 (tui (tun (tun T 5 (T.1 3) (we1 B n T r).2) 6 (T.1 3) (we2 B n T r).2) 7 (T.1 3) (nI (we3 B n T r).2)) 3 (T.1 3 + 1), (we3 B n T r).1)).1 (if (we1 B n T r).1.2.1 = 0 ∧ (tok B n (we1 B n T r).1.1).1 = 22 ∧ (tok B n (we1 B n T r).1.1).2.1 = (tok B n (pGo B n r).1).2.1 then (T, pFl B n 5 (we1 B n T r).1) else (tu1 (tui (tun (tun T 5 (T.1 3) (we1 B n T r).2) 6 (T.1 3) (we2 B n T r).2) 7 (T.1 3) (nI (we3 B n T r).2)) 3 (T.1 3 + 1), (we3 B n T r).1)).2 y ∧ cLn t x y) := by
      intro y1 I1 F1
      have t1 := tok_ok (B := B) (I1.2.2.2.1.2.2.1 rfl).1
      have N : ∀ y2 : aS, cP n B (we1 B n T r).1 y2 → cU y1 y2 → cI n B t T (we1 B n T r).1 (aWr y2 q 0 (nI (we1 B n T r).2)) ∧ cLn t x (aWr y2 q 0 (nI (we1 B n T r).2)) ∧ (aWr y2 q 0 (nI (we1 B n T r).2)).1 q 0 = nI (we1 B n T r).2 := by
        intro y2 u2 F2
        have C2 := cI_u I1 u2 F2
        have J := cJ_w (m := q) (j := 0) (v := nI (we1 B n T r).2) (cJ_i C2) tq
        exact ⟨⟨ht, J.2.1, J.2.2.1, J.2.2.2, rT_x3 bd k6 (fun m j h1 h2 e => by rw [← hq] at e; rw [aWr_n _ _ _ e]) C2.2.2.2.2.1, bd⟩, cLn_t (cLn_u (cU_t F1 F2)) (cLn_w tq tq2), aWr_s _ _ _ _⟩
      refine a_aload_n (i := 1) dX3_readWedding_49 rfl rfl ?_
      refine a_aload_n (i := 0) dX3_readWedding_50 rfl rfl ?_
      refine a_aload_n (i := 0) dX3_readWedding_51 rfl rfl ?_
      refine gX3_21 rfl dX3_readWedding_52 (isRd_0 hD) ?_
      rw [I1.2.1]
      refine gX3_115 rfl dX3_readWedding_55 (isT_0 hD ht) ?_
      refine a_aload_n (i := 0) dX3_readWedding_58 rfl rfl ?_
      refine gX3_21 rfl dX3_readWedding_59 (isRd_0 hD) ?_
      rw [I1.2.1]
      refine gX3_112 rfl dX3_readWedding_62 (isT_0 hD ht) ?_
      rw [I1.2.2.2.2.1.2.1]
      refine kgX3_121 rfl dX3_readWedding_65 (Nat.le_of_ble_eq_true rfl) (isRd_0 hD) (c_X3_takeToldName (f := T.2.1 2) (N := T.1 1) hD I1.2.2.1 I1.2.2.2.1 (isT_6 hD ht) b1 (by decide) (fun k hk => (I1.2.2.2.2.1.2.2.2.2.2.2.2.2.2.2.1 k hk).1)) ?_
      rintro v y2 ⟨rfl, u2, F2⟩
      obtain ⟨I2, G, v0⟩ := N y2 u2 F2
      refine pX3_165 rfl dX3_readWedding_68 (isq) ?_
      change aV _ _ _ _ _ _ _ _ (aWr y2 q 0 (nI (we1 B n T r).2)) _
      generalize aWr y2 q 0 (nI (we1 B n T r).2) = z2 at I2 G v0 ⊢
      refine a_loc [(0, .ref bRd), (1, .ref q), (2, .int (nI (tok B n (pGo B n r).1).2.1))] rfl ?_
      have fr := I2.2.2.2.1
      have e107 := E z2 I2 G v0
      by_cases f0 : (we1 B n T r).1.2.1 = 0
      · have z : z2.1 bRd 7 = 0 := by rw [fr.1, f0]; rfl
        obtain ⟨i2, b2, c2⟩ := fr.2.2.1 f0
        have t2 := tok_ok (B := B) i2
        by_cases q22 : (tok B n (we1 B n T r).1.1).1 = 22
        · by_cases qv : (tok B n (we1 B n T r).1.1).2.1 = (tok B n (pGo B n r).1).2.1
          · rw [if_pos ⟨f0, q22, qv⟩]
            have fl := cP_fl (c := 5) fr f0 (by decide) (by decide)
            refine a_aload_n (i := 0) dX3_readWedding_71 rfl rfl ?_
            refine gX3_43 rfl dX3_readWedding_72 (isRd_0 hD) ?_
            rw [z]
            refine a_if_ne (tg := 107) dX3_readWedding_75 (by decide) (fun c_75 => ?_) (fun c_75 => ?_)
            · exact absurd rfl c_75
            · refine a_aload_n (i := 0) dX3_readWedding_78 rfl rfl ?_
              refine gX3_12 rfl dX3_readWedding_79 (isRd_0 hD) ?_
              refine gX3_50 rfl dX3_readWedding_82 (isTp_0 hD) ?_
              rw [b2.2.1, q22]
              refine a_bipush (v := 22) dX3_readWedding_85 (by decide) ?_
              refine a_icmp_ne (tg := 107) dX3_readWedding_87 (by decide) (fun c_87 => ?_) (fun c_87 => ?_)
              · exact absurd rfl c_87
              · refine a_aload_n (i := 0) dX3_readWedding_90 rfl rfl ?_
                refine gX3_12 rfl dX3_readWedding_91 (isRd_0 hD) ?_
                refine gX3_102 rfl dX3_readWedding_94 (isTp_0 hD) ?_
                rw [b2.2.2.2, qv]
                refine a_iload_n (i := 2) dX3_readWedding_97 rfl rfl ?_
                refine a_icmp_ne (tg := 107) dX3_readWedding_98 (by decide) (fun c_98 => ?_) (fun c_98 => ?_)
                · exact absurd rfl c_98
                · refine a_aload_n (i := 0) dX3_readWedding_101 rfl rfl ?_
                  refine a_iconst (v := 5) dX3_readWedding_102 (by decide) ?_
                  refine kX3_77 rfl dX3_readWedding_103 (Nat.le_of_ble_eq_true rfl) (isRd_0 hD) (c_X3_fail (c := 5) hD fr f0) ?_
                  exact a_vret dX3_readWedding_106 (by exact ⟨rfl, cI_u I2 fl.1 fl.2, cLn_t G (cLn_u fl.2)⟩)
          · rw [if_neg (fun e => qv e.2.2)]
            refine a_aload_n (i := 0) dX3_readWedding_71 rfl rfl ?_
            refine gX3_43 rfl dX3_readWedding_72 (isRd_0 hD) ?_
            rw [z]
            refine a_if_ne (tg := 107) dX3_readWedding_75 (by decide) (fun c_75 => ?_) (fun c_75 => ?_)
            · exact absurd rfl c_75
            · refine a_aload_n (i := 0) dX3_readWedding_78 rfl rfl ?_
              refine gX3_12 rfl dX3_readWedding_79 (isRd_0 hD) ?_
              refine gX3_50 rfl dX3_readWedding_82 (isTp_0 hD) ?_
              rw [b2.2.1, q22]
              refine a_bipush (v := 22) dX3_readWedding_85 (by decide) ?_
              refine a_icmp_ne (tg := 107) dX3_readWedding_87 (by decide) (fun c_87 => ?_) (fun c_87 => ?_)
              · exact absurd rfl c_87
              · refine a_aload_n (i := 0) dX3_readWedding_90 rfl rfl ?_
                refine gX3_12 rfl dX3_readWedding_91 (isRd_0 hD) ?_
                refine gX3_102 rfl dX3_readWedding_94 (isTp_0 hD) ?_
                rw [b2.2.2.2]
                refine a_iload_n (i := 2) dX3_readWedding_97 rfl rfl ?_
                refine a_icmp_ne (tg := 107) dX3_readWedding_98 (by decide) (fun c_98 => ?_) (fun c_98 => ?_)
                · exact a_loc _ rfl e107
                · exact absurd ((nI_eq (by have := t2.2.2.2.2.2.2.1; omega) (by have := t1.2.2.2.2.2.2.1; omega)).mp c_98) qv
        · rw [if_neg (fun e => q22 e.2.1)]
          refine a_aload_n (i := 0) dX3_readWedding_71 rfl rfl ?_
          refine gX3_43 rfl dX3_readWedding_72 (isRd_0 hD) ?_
          rw [z]
          refine a_if_ne (tg := 107) dX3_readWedding_75 (by decide) (fun c_75 => ?_) (fun c_75 => ?_)
          · exact absurd rfl c_75
          · refine a_aload_n (i := 0) dX3_readWedding_78 rfl rfl ?_
            refine gX3_12 rfl dX3_readWedding_79 (isRd_0 hD) ?_
            refine gX3_50 rfl dX3_readWedding_82 (isTp_0 hD) ?_
            rw [b2.2.1]
            refine a_bipush (v := 22) dX3_readWedding_85 (by decide) ?_
            refine a_icmp_ne (tg := 107) dX3_readWedding_87 (by decide) (fun c_87 => ?_) (fun c_87 => ?_)
            · exact a_loc _ rfl e107
            · exact absurd ((nI_eq (b := 22) (by have := t2.2.2.2.2.2.1; omega) (by decide)).mp c_87) q22
      · rw [if_neg (fun e => f0 e.1)]
        have z : ¬ z2.1 bRd 7 = 0 := by rw [fr.1]; exact nI_ne0 (by omega) (by have := fr.2.1; omega)
        refine a_aload_n (i := 0) dX3_readWedding_71 rfl rfl ?_
        refine gX3_43 rfl dX3_readWedding_72 (isRd_0 hD) ?_
        refine a_if_ne (tg := 107) dX3_readWedding_75 (by decide) (fun c_75 => ?_) (fun c_75 => ?_)
        · exact a_loc _ rfl e107
        · exact absurd c_75 z
    refine a_aload_n (i := 0) dX3_readWedding_0 rfl rfl ?_
    refine gX3_21 rfl dX3_readWedding_1 (isRd_0 hD) ?_
    rw [hp]
    refine gX3_158 rfl dX3_readWedding_4 (isT_0 hD ht) ?_
    rw [e1]
    refine a_bipush (v := 6) dX3_readWedding_7 (by decide) ?_
    refine a_icmp_lt (tg := 18) dX3_readWedding_9 (by decide) (fun c_9 => ?_) (fun c_9 => ?_)
    · refine a_aload_n (i := 0) dX3_readWedding_18 rfl rfl ?_
      refine gX3_21 rfl dX3_readWedding_19 (isRd_0 hD) ?_
      rw [hp]
      refine gX3_161 rfl dX3_readWedding_22 (isT_0 hD ht) ?_
      refine a_aload_n (i := 0) dX3_readWedding_25 rfl rfl ?_
      refine gX3_21 rfl dX3_readWedding_26 (isRd_0 hD) ?_
      rw [hp]
      refine gX3_158 rfl dX3_readWedding_29 (isT_0 hD ht) ?_
      rw [e1]
      refine a_awedN dX3_readWedding_32 (isT_14 hD ht) (by first | with_reducible exact rfl | with_reducible exact ix8 _ _ | with_reducible exact ix12 _ _ | exact rfl) (by exact k6) (by decide) ?_
      refine a_astore_n (i := 1) dX3_readWedding_33 rfl (by decide) ?_
      refine a_aload_n (i := 0) dX3_readWedding_34 rfl rfl ?_
      refine gX3_12 rfl dX3_readWedding_35 (isRd_0 hD) ?_
      refine kgX3_83 rfl dX3_readWedding_38 (Nat.le_of_ble_eq_true rfl) (isTp_0 hD) (c_X7_step hD hk (cP_n hr h0).1 (cP_n hr h0).2) ?_
      rintro v y1 ⟨rfl, u1, F1⟩
      have C1 := cI_go I h0 u1 F1
      have v1 := (C1.2.2.2.1.2.2.1 rfl).2.1.2.2.2
      have m1 := M y1 C1 (cU_s F1)
      refine a_aload_n (i := 0) dX3_readWedding_41 rfl rfl ?_
      refine gX3_12 rfl dX3_readWedding_42 (isRd_0 hD) ?_
      refine gX3_102 rfl dX3_readWedding_45 (isTp_0 hD) ?_
      rw [v1]
      refine a_istore_n (i := 2) dX3_readWedding_48 rfl (by decide) ?_
      rw [← hq]
      exact a_loc _ rfl m1
    · exact absurd lt6 c_9
end qAN
