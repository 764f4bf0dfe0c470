/-! join: the model -/
theorem mk_or : ∀ m, m < 64 → ∀ b, b < 6 → nI m ||| ((1 : Int32) <<< (nI b &&& 31)) = nI (m ||| 2 ^ b) ∧ (m ||| 2 ^ b) < 64 := by decide +kernel
theorem mk_tb : ∀ m, m < 64 → ∀ b, b < 6 → ∀ h, h < 6 → (m ||| 2 ^ b).testBit h = (m.testBit h || decide (h = b)) := by decide +kernel
/-- of the pairs looked at (P), the best one -/
def jBest (N : Nat) (dd : Nat → Nat → Nat) (J : Nat → Bool) (P : Nat → Nat → Prop) (b l : Int32) : Prop := (b = -1 ∧ ∀ a c, a < N → c < N → P a c → ¬ (J a = true ∧ J c = false)) ∨ (∃ B L, b = nI B ∧ l = nI L ∧ L ≤ 1000000000 ∧ B < N ∧ J B = false ∧ (∃ a, a < N ∧ J a = true ∧ dd a B = L) ∧ ∀ a c, a < N → c < N → P a c → J a = true → J c = false → L ≤ dd a c)
theorem jBest_w {N : Nat} {dd : Nat → Nat → Nat} {J : Nat → Bool} {P Q : Nat → Nat → Prop} {b l : Int32} (h : jBest N dd J P b l) (hq : ∀ a c, a < N → c < N → Q a c → P a c ∨ ¬ (J a = true ∧ J c = false)) : jBest N dd J Q b l := by
  rcases h with ⟨e, h⟩ | ⟨B, L, e1, e2, e3, e4, e5, e6, h⟩
  · exact Or.inl ⟨e, fun a c ha hc g => (hq a c ha hc g).elim (h a c ha hc) id⟩
  · exact Or.inr ⟨B, L, e1, e2, e3, e4, e5, e6, fun a c ha hc g j1 j2 => (hq a c ha hc g).elim (fun p => h a c ha hc p j1 j2) (fun n => absurd ⟨j1, j2⟩ n)⟩
section qV
variable {l : Launch} {d : Nat} {D : Nat → Bool} {T : zT} {W : Nat → zL} {Z : zS} {t : Nat} {x : aS} {dd : Nat → Nat → Nat}
set_option maxHeartbeats 4000000 in
set_option maxRecDepth 100000 in
theorem c_X12_join (hM : D 12 = true) (h : mR T W Z x) (hd : jOk T Z dd) : aCt l mX12_join (d + 4) D [.ref bM] x (fun v y => (∃ r, v = some (.int r) ∧ jSum (T.1 0) dd r) ∧ y = aWr x bM 2 0) := by
  obtain ⟨ok, hZ, hT, hW, hS⟩ := mR_0 h
  refine a_met (by decide) (Nat.le_of_ble_eq_true rfl) (fun v y q => by obtain ⟨⟨r, e, _⟩, _⟩ := q; exact Or.inl ⟨rfl, r, e⟩) ?_
  refine a_aload_n (i := 0) dX12_join_0 rfl rfl ?_
  refine a_iconst (v := 0) dX12_join_1 (by decide) ?_
  refine pX12_175 rfl dX12_join_2 (isM_0 hM) ?_
  refine a_loc [(0, .ref bM)] rfl ?_
  generalize aWr x bM 2 0 = y at *
  have h6 := ok.1
  have e0 : y.1 bM 12 = nI (T.1 0) := hT.1
  generalize hN : T.1 0 = N at *
  have M : ∀ (f K : Nat), K + f = N → 0 < K → ∀ (v w : Nat → Nat) (m : Nat), m < 64 → primP N dd K v w → (∀ h, h < N → (m.testBit h = true ↔ ∃ a, a < K ∧ v a = h)) → aV l mX12_join (d + 4) D none 11 [(0, .ref bM), (1, .int (nI m)), (2, .int (nI (sw w K))), (3, .int (nI K))] [] y (fun v z => (∃ r, v = some (.int r) ∧ jSum N dd r) ∧ z = y) := by
    intro f
    induction f with
    | zero =>
      intro K hK K0 v w m hm hP hJ
      rw [Nat.add_zero] at hK
      subst hK
      refine a_iload_n (i := 3) dX12_join_11 rfl rfl ?_
      refine a_aload_n (i := 0) dX12_join_12 rfl rfl ?_
      refine gX12_258 rfl dX12_join_13 (isM_0 hM) ?_
      rw [e0]
      refine a_icmp_ge (tg := 133) dX12_join_16 (by decide) (fun c_16 => ?_) (fun c_16 => ?_)
      · refine a_iload_n (i := 2) dX12_join_133 rfl rfl ?_
        exact a_iret dX12_join_134 (by exact ⟨⟨_, rfl, v, w, hP, rfl⟩, rfl⟩)
      · exact absurd (Int32.le_refl _) c_16
    | succ f ih =>
      intro K hK K0 v w m hm hP hJ
      have jt : ∀ a, a < 6 → (if jbit (nI m) a = true then (1 : Int32) else 0) = bI (m.testBit a) := fun a ha => by rw [jbit_t (by omega) (by omega)]; rfl
      have E : ∀ (b q : Int32), jBest N dd (fun h => m.testBit h) (fun _ _ => True) b q → aV l mX12_join (d + 4) D none 115 [(0, .ref bM), (1, .int (nI m)), (2, .int (nI (sw w K))), (3, .int (nI K)), (4, .int b), (5, .int q)] [] y (fun v z => (∃ r, v = some (.int r) ∧ jSum N dd r) ∧ z = y) := by
        intro b q hb
        rcases hb with ⟨_, hb⟩ | ⟨B, L, rfl, rfl, hL, hB, hJB, ⟨a, ha, hJa, hda⟩, hmin⟩
        · exfalso
          refine absurd (cover_le (K := K) (v := v) (fun u hu => (hJ u hu).mp ?_)) (by omega)
          have h0 : m.testBit 0 = true := (hJ 0 (by omega)).mpr ⟨0, K0, hP.2.2.1 K0⟩
          cases e : m.testBit u with
          | true => rfl
          | false => exact absurd ⟨h0, e⟩ (hb 0 u (by omega) hu trivial)
        · have hn : ∀ h, h < N → (m.testBit h = false ↔ ∀ a, a < K → v a ≠ h) := fun h hh => by
            constructor
            · intro g a ha e
              have := (hJ h hh).mpr ⟨a, ha, e⟩
              rw [g] at this; exact absurd this (by decide)
            · intro g
              cases e : m.testBit h with
              | false => rfl
              | true => obtain ⟨a, ha, e2⟩ := (hJ h hh).mp e; exact absurd e2 (g a ha)
          obtain ⟨k0, hk0, ek0⟩ := (hJ a ha).mp hJa
          obtain ⟨g1, g2⟩ := prim_add (q := L) hP hB ((hn B hB).mp hJB) (fun e => absurd e (by omega)) (fun _ => ⟨⟨k0, hk0, by rw [ek0]; exact hda⟩, fun k hk h hh hx => hmin (v k) h (hP.1 k hk) hh trivial ((hJ (v k) (hP.1 k hk)).mpr ⟨k, hk, rfl⟩) ((hn h hh).mpr hx)⟩)
          obtain ⟨o1, o2⟩ := mk_or m hm B (by omega)
          have es : nI (sw w K) + nI L = nI (sw (nxt w K L) (K + 1)) := by rw [nI_add, g2]
          have ih2 := ih (K + 1) (by omega) (by omega) _ _ (m ||| 2 ^ B) o2 g1 (fun h hh => by
            rw [mk_tb m hm B (by omega) h (by omega), Bool.or_eq_true, decide_eq_true_iff, hJ h hh]
            constructor
            · rintro (⟨a, ha, e⟩ | e)
              · exact ⟨a, by omega, by rw [nxt_o ha]; exact e⟩
              · exact ⟨K, by omega, by rw [nxt_s]; exact e.symm⟩
            · rintro ⟨a, ha, e⟩
              by_cases ea : a = K
              · subst ea; rw [nxt_s] at e; exact Or.inr e.symm
              · rw [nxt_o (by omega)] at e; exact Or.inl ⟨a, by omega, e⟩)
          refine a_iload_n (i := 1) dX12_join_115 rfl rfl ?_
          refine a_iconst (v := 1) dX12_join_116 (by decide) ?_
          refine a_iload (i := 4) dX12_join_117 rfl ?_
          refine a_ishl dX12_join_119 ?_
          refine a_ior dX12_join_120 ?_
          rw [o1]
          refine a_istore_n (i := 1) dX12_join_121 rfl (by decide) ?_
          refine a_iload_n (i := 2) dX12_join_122 rfl rfl ?_
          refine a_iload (i := 5) dX12_join_123 rfl ?_
          refine a_iadd dX12_join_125 ?_
          rw [es]
          refine a_istore_n (i := 2) dX12_join_126 rfl (by decide) ?_
          refine a_iincK (i := 3) (u := 1) dX12_join_127 rfl (by decide) (by decide) ?_
          refine a_goto (tg := 11) dX12_join_130 (by decide) ?_
          rw [nI_1]; exact a_loc _ rfl ih2
      have A : ∀ (g a : Nat), a + g = N → ∀ (b q : Int32), jBest N dd (fun h => m.testBit h) (fun i _ => i < a) b q → aV l mX12_join (d + 4) D none 28 [(0, .ref bM), (1, .int (nI m)), (2, .int (nI (sw w K))), (3, .int (nI K)), (4, .int b), (5, .int q), (6, .int (nI a))] [] y (fun v z => (∃ r, v = some (.int r) ∧ jSum N dd r) ∧ z = y) := by
        intro g
        induction g with
        | zero =>
          intro a ha b q hb
          rw [Nat.add_zero] at ha
          subst ha
          refine a_iload (i := 6) dX12_join_28 rfl ?_
          refine a_aload_n (i := 0) dX12_join_30 rfl rfl ?_
          refine gX12_258 rfl dX12_join_31 (isM_0 hM) ?_
          rw [e0]
          refine a_icmp_ge (tg := 115) dX12_join_34 (by decide) (fun c_34 => ?_) (fun c_34 => ?_)
          · exact a_loc _ rfl (E b q (jBest_w hb (fun i c hi hc _ => Or.inl hi)))
          · exact absurd (Int32.le_refl _) c_34
        | succ g iha =>
          intro a ha b q hb
          have aN : a < N := by omega
          have C : ∀ (p c : Nat), c + p = N → ∀ (b q : Int32), jBest N dd (fun h => m.testBit h) (fun i j => i < a ∨ (i = a ∧ j < c)) b q → aV l mX12_join (d + 4) D none 40 [(0, .ref bM), (1, .int (nI m)), (2, .int (nI (sw w K))), (3, .int (nI K)), (4, .int b), (5, .int q), (6, .int (nI a)), (7, .int (nI c))] [] y (fun v z => (∃ r, v = some (.int r) ∧ jSum N dd r) ∧ z = y) := by
            intro p
            induction p with
            | zero =>
              intro c hc b q hb
              rw [Nat.add_zero] at hc
              subst hc
              have iha2 := iha (a + 1) (by omega) b q (jBest_w hb (fun i j hi hj g => Or.inl (by omega)))
              refine a_iload (i := 7) dX12_join_40 rfl ?_
              refine a_aload_n (i := 0) dX12_join_42 rfl rfl ?_
              refine gX12_258 rfl dX12_join_43 (isM_0 hM) ?_
              rw [e0]
              refine a_icmp_ge (tg := 109) dX12_join_46 (by decide) (fun c_46 => ?_) (fun c_46 => ?_)
              · refine a_iincK (i := 6) (u := 1) dX12_join_109 rfl (by decide) (by decide) ?_
                refine a_goto (tg := 28) dX12_join_112 (by decide) ?_
                rw [nI_1]; exact a_loc _ rfl iha2
              · exact absurd (Int32.le_refl _) c_46
            | succ p ihc =>
              intro c hc b q hb
              have cN : c < N := by omega
              have skip : ¬ (m.testBit a = true ∧ m.testBit c = false) → jBest N dd (fun h => m.testBit h) (fun i j => i < a ∨ (i = a ∧ j < c + 1)) b q := fun hn => jBest_w hb (fun i j hi hj g => by
                by_cases e : i = a ∧ j = c
                · obtain ⟨rfl, rfl⟩ := e; exact Or.inr hn
                · exact Or.inl (by omega))
              cases ja : m.testBit a with
              | false =>
                have ih2 := ihc (c + 1) (by omega) b q (skip (by rw [ja]; exact fun g => absurd g.1 (by decide)))
                refine a_iload (i := 7) dX12_join_40 rfl ?_
                refine a_aload_n (i := 0) dX12_join_42 rfl rfl ?_
                refine gX12_258 rfl dX12_join_43 (isM_0 hM) ?_
                rw [e0]
                refine a_icmp_ge (tg := 109) dX12_join_46 (by decide) (fun c_46 => ?_) (fun c_46 => ?_)
                · exact absurd c_46 (nI_ge cN (by omega))
                · refine a_iload_n (i := 1) dX12_join_49 rfl rfl ?_
                  refine a_iload (i := 6) dX12_join_50 rfl ?_
                  refine kX12_426 rfl dX12_join_52 (Nat.le_of_ble_eq_true rfl) (c_X12_isOf) ?_
                  rw [jt a (by omega), ja]
                  refine a_if_eq (tg := 103) dX12_join_55 (by decide) (fun c_55 => ?_) (fun c_55 => ?_)
                  · refine a_iincK (i := 7) (u := 1) dX12_join_103 rfl (by decide) (by decide) ?_
                    refine a_goto (tg := 40) dX12_join_106 (by decide) ?_
                    rw [nI_1]; exact a_loc _ rfl ih2
                  · exact absurd rfl c_55
              | true =>
                cases jc : m.testBit c with
                | true =>
                  have ih2 := ihc (c + 1) (by omega) b q (skip (by rw [jc]; exact fun g => absurd g.2 (by decide)))
                  refine a_iload (i := 7) dX12_join_40 rfl ?_
                  refine a_aload_n (i := 0) dX12_join_42 rfl rfl ?_
                  refine gX12_258 rfl dX12_join_43 (isM_0 hM) ?_
                  rw [e0]
                  refine a_icmp_ge (tg := 109) dX12_join_46 (by decide) (fun c_46 => ?_) (fun c_46 => ?_)
                  · exact absurd c_46 (nI_ge cN (by omega))
                  · refine a_iload_n (i := 1) dX12_join_49 rfl rfl ?_
                    refine a_iload (i := 6) dX12_join_50 rfl ?_
                    refine kX12_426 rfl dX12_join_52 (Nat.le_of_ble_eq_true rfl) (c_X12_isOf) ?_
                    rw [jt a (by omega), ja]
                    refine a_if_eq (tg := 103) dX12_join_55 (by decide) (fun c_55 => ?_) (fun c_55 => ?_)
                    · exact absurd c_55 (by decide)
                    · refine a_iload_n (i := 1) dX12_join_58 rfl rfl ?_
                      refine a_iload (i := 7) dX12_join_59 rfl ?_
                      refine kX12_426 rfl dX12_join_61 (Nat.le_of_ble_eq_true rfl) (c_X12_isOf) ?_
                      rw [jt c (by omega), jc]
                      refine a_if_eq (tg := 70) dX12_join_64 (by decide) (fun c_64 => ?_) (fun c_64 => ?_)
                      · exact absurd c_64 (by decide)
                      · refine a_goto (tg := 103) dX12_join_67 (by decide) ?_
                        refine a_iincK (i := 7) (u := 1) dX12_join_103 rfl (by decide) (by decide) ?_
                        refine a_goto (tg := 40) dX12_join_106 (by decide) ?_
                        rw [nI_1]; exact a_loc _ rfl ih2
                | false =>
                  obtain ⟨d1, d2, _⟩ := hd a (by omega) c (by omega)
                  have hl := mz_likeOf (l := l) (d := d) (D := D) hM ok hZ hS (show a < T.1 0 by omega) (show c < T.1 0 by omega)
                  rw [d1] at hl
                  have take : (∀ i j, i < N → j < N → (i < a ∨ (i = a ∧ j < c)) → m.testBit i = true → m.testBit j = false → dd a c ≤ dd i j) → jBest N dd (fun h => m.testBit h) (fun i j => i < a ∨ (i = a ∧ j < c + 1)) (nI c) (nI (dd a c)) := fun hh => Or.inr ⟨c, dd a c, rfl, rfl, d2, cN, jc, ⟨a, aN, ja, rfl⟩, fun i j hi hj g g1 g2 => by
                    by_cases e : i = a ∧ j = c
                    · obtain ⟨rfl, rfl⟩ := e; exact Nat.le_refl _
                    · exact hh i j hi hj (by omega) g1 g2⟩
                  rcases hb with ⟨rfl, hb⟩ | ⟨B, L, rfl, rfl, hL, hB, hJB, hex, hmin⟩
                  · have ih2 := ihc (c + 1) (by omega) _ _ (take (fun i j hi hj g g1 g2 => absurd ⟨g1, g2⟩ (hb i j hi hj g)))
                    refine a_iload (i := 7) dX12_join_40 rfl ?_
                    refine a_aload_n (i := 0) dX12_join_42 rfl rfl ?_
                    refine gX12_258 rfl dX12_join_43 (isM_0 hM) ?_
                    rw [e0]
                    refine a_icmp_ge (tg := 109) dX12_join_46 (by decide) (fun c_46 => ?_) (fun c_46 => ?_)
                    · exact absurd c_46 (nI_ge cN (by omega))
                    · refine a_iload_n (i := 1) dX12_join_49 rfl rfl ?_
                      refine a_iload (i := 6) dX12_join_50 rfl ?_
                      refine kX12_426 rfl dX12_join_52 (Nat.le_of_ble_eq_true rfl) (c_X12_isOf) ?_
                      rw [jt a (by omega), ja]
                      refine a_if_eq (tg := 103) dX12_join_55 (by decide) (fun c_55 => ?_) (fun c_55 => ?_)
                      · exact absurd c_55 (by decide)
                      · refine a_iload_n (i := 1) dX12_join_58 rfl rfl ?_
                        refine a_iload (i := 7) dX12_join_59 rfl ?_
                        refine kX12_426 rfl dX12_join_61 (Nat.le_of_ble_eq_true rfl) (c_X12_isOf) ?_
                        rw [jt c (by omega), jc]
                        refine a_if_eq (tg := 70) dX12_join_64 (by decide) (fun c_64 => ?_) (fun c_64 => ?_)
                        · refine a_aload_n (i := 0) dX12_join_70 rfl rfl ?_
                          refine a_iload (i := 6) dX12_join_71 rfl ?_
                          refine a_iload (i := 7) dX12_join_73 rfl ?_
                          refine kX12_528 rfl dX12_join_75 (Nat.le_of_ble_eq_true rfl) (isM_0 hM) (hl) ?_
                          refine a_istore (i := 8) dX12_join_78 (by decide) ?_
                          refine a_iload (i := 4) dX12_join_80 rfl ?_
                          refine a_if_lt (tg := 95) dX12_join_82 (by decide) (fun c_82 => ?_) (fun c_82 => ?_)
                          · refine a_iload (i := 7) dX12_join_95 rfl ?_
                            refine a_istore (i := 4) dX12_join_97 (by decide) ?_
                            refine a_iload (i := 8) dX12_join_99 rfl ?_
                            refine a_istore (i := 5) dX12_join_101 (by decide) ?_
                            refine a_iincK (i := 7) (u := 1) dX12_join_103 rfl (by decide) (by decide) ?_
                            refine a_goto (tg := 40) dX12_join_106 (by decide) ?_
                            rw [nI_1]; exact a_loc _ rfl ih2
                          · exact absurd (by decide) c_82
                        · exact absurd rfl c_64
                  · by_cases q2 : dd a c < L
                    · have ih2 := ihc (c + 1) (by omega) _ _ (take (fun i j hi hj g g1 g2 => by have := hmin i j hi hj g g1 g2; omega))
                      refine a_iload (i := 7) dX12_join_40 rfl ?_
                      refine a_aload_n (i := 0) dX12_join_42 rfl rfl ?_
                      refine gX12_258 rfl dX12_join_43 (isM_0 hM) ?_
                      rw [e0]
                      refine a_icmp_ge (tg := 109) dX12_join_46 (by decide) (fun c_46 => ?_) (fun c_46 => ?_)
                      · exact absurd c_46 (nI_ge cN (by omega))
                      · refine a_iload_n (i := 1) dX12_join_49 rfl rfl ?_
                        refine a_iload (i := 6) dX12_join_50 rfl ?_
                        refine kX12_426 rfl dX12_join_52 (Nat.le_of_ble_eq_true rfl) (c_X12_isOf) ?_
                        rw [jt a (by omega), ja]
                        refine a_if_eq (tg := 103) dX12_join_55 (by decide) (fun c_55 => ?_) (fun c_55 => ?_)
                        · exact absurd c_55 (by decide)
                        · refine a_iload_n (i := 1) dX12_join_58 rfl rfl ?_
                          refine a_iload (i := 7) dX12_join_59 rfl ?_
                          refine kX12_426 rfl dX12_join_61 (Nat.le_of_ble_eq_true rfl) (c_X12_isOf) ?_
                          rw [jt c (by omega), jc]
                          refine a_if_eq (tg := 70) dX12_join_64 (by decide) (fun c_64 => ?_) (fun c_64 => ?_)
                          · refine a_aload_n (i := 0) dX12_join_70 rfl rfl ?_
                            refine a_iload (i := 6) dX12_join_71 rfl ?_
                            refine a_iload (i := 7) dX12_join_73 rfl ?_
                            refine kX12_528 rfl dX12_join_75 (Nat.le_of_ble_eq_true rfl) (isM_0 hM) (hl) ?_
                            refine a_istore (i := 8) dX12_join_78 (by decide) ?_
                            refine a_iload (i := 4) dX12_join_80 rfl ?_
                            refine a_if_lt (tg := 95) dX12_join_82 (by decide) (fun c_82 => ?_) (fun c_82 => ?_)
                            · exact absurd c_82 (nI_pos (by omega))
                            · refine a_iload (i := 8) dX12_join_85 rfl ?_
                              refine a_iload (i := 5) dX12_join_87 rfl ?_
                              refine a_icmp_lt (tg := 95) dX12_join_89 (by decide) (fun c_89 => ?_) (fun c_89 => ?_)
                              · refine a_iload (i := 7) dX12_join_95 rfl ?_
                                refine a_istore (i := 4) dX12_join_97 (by decide) ?_
                                refine a_iload (i := 8) dX12_join_99 rfl ?_
                                refine a_istore (i := 5) dX12_join_101 (by decide) ?_
                                refine a_iincK (i := 7) (u := 1) dX12_join_103 rfl (by decide) (by decide) ?_
                                refine a_goto (tg := 40) dX12_join_106 (by decide) ?_
                                rw [nI_1]; exact a_loc _ rfl ih2
                              · exact absurd (nI_lt q2 (by omega)) c_89
                          · exact absurd rfl c_64
                    · have ih2 := ihc (c + 1) (by omega) (nI B) (nI L) (Or.inr ⟨B, L, rfl, rfl, hL, hB, hJB, hex, fun i j hi hj g g1 g2 => by
                        by_cases e : i = a ∧ j = c
                        · obtain ⟨rfl, rfl⟩ := e; omega
                        · exact hmin i j hi hj (by omega) g1 g2⟩)
                      refine a_iload (i := 7) dX12_join_40 rfl ?_
                      refine a_aload_n (i := 0) dX12_join_42 rfl rfl ?_
                      refine gX12_258 rfl dX12_join_43 (isM_0 hM) ?_
                      rw [e0]
                      refine a_icmp_ge (tg := 109) dX12_join_46 (by decide) (fun c_46 => ?_) (fun c_46 => ?_)
                      · exact absurd c_46 (nI_ge cN (by omega))
                      · refine a_iload_n (i := 1) dX12_join_49 rfl rfl ?_
                        refine a_iload (i := 6) dX12_join_50 rfl ?_
                        refine kX12_426 rfl dX12_join_52 (Nat.le_of_ble_eq_true rfl) (c_X12_isOf) ?_
                        rw [jt a (by omega), ja]
                        refine a_if_eq (tg := 103) dX12_join_55 (by decide) (fun c_55 => ?_) (fun c_55 => ?_)
                        · exact absurd c_55 (by decide)
                        · refine a_iload_n (i := 1) dX12_join_58 rfl rfl ?_
                          refine a_iload (i := 7) dX12_join_59 rfl ?_
                          refine kX12_426 rfl dX12_join_61 (Nat.le_of_ble_eq_true rfl) (c_X12_isOf) ?_
                          rw [jt c (by omega), jc]
                          refine a_if_eq (tg := 70) dX12_join_64 (by decide) (fun c_64 => ?_) (fun c_64 => ?_)
                          · refine a_aload_n (i := 0) dX12_join_70 rfl rfl ?_
                            refine a_iload (i := 6) dX12_join_71 rfl ?_
                            refine a_iload (i := 7) dX12_join_73 rfl ?_
                            refine kX12_528 rfl dX12_join_75 (Nat.le_of_ble_eq_true rfl) (isM_0 hM) (hl) ?_
                            refine a_istore (i := 8) dX12_join_78 (by decide) ?_
                            refine a_iload (i := 4) dX12_join_80 rfl ?_
                            refine a_if_lt (tg := 95) dX12_join_82 (by decide) (fun c_82 => ?_) (fun c_82 => ?_)
                            · exact absurd c_82 (nI_pos (by omega))
                            · refine a_iload (i := 8) dX12_join_85 rfl ?_
                              refine a_iload (i := 5) dX12_join_87 rfl ?_
                              refine a_icmp_lt (tg := 95) dX12_join_89 (by decide) (fun c_89 => ?_) (fun c_89 => ?_)
                              · exact absurd c_89 (nI_nlt (show L ≤ dd a c by omega) (by omega))
                              · refine a_goto (tg := 103) dX12_join_92 (by decide) ?_
                                refine a_iincK (i := 7) (u := 1) dX12_join_103 rfl (by decide) (by decide) ?_
                                refine a_goto (tg := 40) dX12_join_106 (by decide) ?_
                                rw [nI_1]; exact a_loc _ rfl ih2
                          · exact absurd rfl c_64
          refine a_iload (i := 6) dX12_join_28 rfl ?_
          refine a_aload_n (i := 0) dX12_join_30 rfl rfl ?_
          refine gX12_258 rfl dX12_join_31 (isM_0 hM) ?_
          rw [e0]
          refine a_icmp_ge (tg := 115) dX12_join_34 (by decide) (fun c_34 => ?_) (fun c_34 => ?_)
          · exact absurd c_34 (nI_ge aN (by omega))
          · refine a_iconst (v := 0) dX12_join_37 (by decide) ?_
            refine a_istore (i := 7) dX12_join_38 (by decide) ?_
            exact a_loc _ rfl (C N 0 (Nat.zero_add _) b q (jBest_w hb (fun i j hi hj g => Or.inl (by omega))))
      refine a_iload_n (i := 3) dX12_join_11 rfl rfl ?_
      refine a_aload_n (i := 0) dX12_join_12 rfl rfl ?_
      refine gX12_258 rfl dX12_join_13 (isM_0 hM) ?_
      rw [e0]
      refine a_icmp_ge (tg := 133) dX12_join_16 (by decide) (fun c_16 => ?_) (fun c_16 => ?_)
      · exact absurd c_16 (nI_ge (show K < N by omega) (by omega))
      · refine a_iconst (v := (-1)) dX12_join_19 (by decide) ?_
        refine a_istore (i := 4) dX12_join_20 (by decide) ?_
        refine a_iconst (v := 0) dX12_join_22 (by decide) ?_
        refine a_istore (i := 5) dX12_join_23 (by decide) ?_
        refine a_iconst (v := 0) dX12_join_25 (by decide) ?_
        refine a_istore (i := 6) dX12_join_26 (by decide) ?_
        exact a_loc _ rfl (A N 0 (Nat.zero_add _) (-1) 0 (Or.inl ⟨rfl, fun a c _ _ g => absurd g (by omega)⟩))
  by_cases n0 : N = 0
  · subst n0
    have P0 : primP 0 dd 0 (fun _ => 0) (fun _ => 0) := ⟨fun k hk => absurd hk (by omega), fun i hi => absurd hi (by omega), fun h => absurd h (by omega), rfl, fun k _ hk => absurd hk (by omega)⟩
    refine a_iconst (v := 1) dX12_join_5 (by decide) ?_
    refine a_istore_n (i := 1) dX12_join_6 rfl (by decide) ?_
    refine a_iconst (v := 0) dX12_join_7 (by decide) ?_
    refine a_istore_n (i := 2) dX12_join_8 rfl (by decide) ?_
    refine a_iconst (v := 1) dX12_join_9 (by decide) ?_
    refine a_istore_n (i := 3) dX12_join_10 rfl (by decide) ?_
    refine a_iload_n (i := 3) dX12_join_11 rfl rfl ?_
    refine a_aload_n (i := 0) dX12_join_12 rfl rfl ?_
    refine gX12_258 rfl dX12_join_13 (isM_0 hM) ?_
    rw [e0]
    refine a_icmp_ge (tg := 133) dX12_join_16 (by decide) (fun c_16 => ?_) (fun c_16 => ?_)
    · refine a_iload_n (i := 2) dX12_join_133 rfl rfl ?_
      exact a_iret dX12_join_134 (by exact ⟨⟨_, rfl, _, _, P0, rfl⟩, rfl⟩)
    · exact absurd (by decide) c_16
  · have P1 : primP N dd 1 (fun _ => 0) (fun _ => 0) := ⟨fun k _ => by show 0 < N; omega, fun i hi j hj _ => by omega, fun _ => rfl, rfl, fun k k0 k1 => absurd k1 (by omega)⟩
    have t1 : ∀ h, h < 6 → ((1 : Nat).testBit h = true ↔ h = 0) := by decide
    have M1 := M (N - 1) 1 (by omega) (by decide) _ _ 1 (by decide) P1 (fun h hh => by
      rw [t1 h (by omega)]
      exact ⟨fun e => ⟨0, by decide, e.symm⟩, fun ⟨a, _, e⟩ => e.symm⟩)
    refine a_iconst (v := 1) dX12_join_5 (by decide) ?_
    refine a_istore_n (i := 1) dX12_join_6 rfl (by decide) ?_
    refine a_iconst (v := 0) dX12_join_7 (by decide) ?_
    refine a_istore_n (i := 2) dX12_join_8 rfl (by decide) ?_
    refine a_iconst (v := 1) dX12_join_9 (by decide) ?_
    refine a_istore_n (i := 3) dX12_join_10 rfl (by decide) ?_
    exact a_loc _ rfl M1
end qV
