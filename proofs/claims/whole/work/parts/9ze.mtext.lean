/-! text, the model -/
section qBL
variable {l : Launch} {d : Nat} {D : Nat → Bool} {x y z : aS} {n N : Nat} {B : Nat → Nat} {P : pS} {T : zT} {W : Nat → zL} {Z : zS}
theorem kM_0 {k w : Nat} {a b : Int32} (h : kM k w a b) : a = 0 ↔ k = 37 := by
  unfold kM at h
  rcases h with ⟨h1, rfl, h3⟩ | ⟨h1, rfl, h3⟩ | ⟨h1, rfl, h3⟩ | ⟨h1, rfl, h3⟩ | ⟨h1, rfl⟩ | ⟨h1, rfl | ⟨rfl, h3⟩⟩ | ⟨rfl, h3⟩ <;> exact ⟨fun e => by first | exact h1 | exact absurd e (by decide), fun e => by first | rfl | omega⟩
theorem rdGo_f (h : ¬ P.2.2.2.2.1 = 0) : ∀ F, rdGo B n F P = P
  | 0 => rfl
  | F + 1 => by rw [rdGo, if_pos (Or.inr h)]
def mTx (P : pS) (x y : aS) : Prop := mR P.1 P.2.1 (zFirst P.1) y ∧ rNum (zFirst P.1) y ∧ rFl 5 y ∧ y.1 bM 78 = 0 ∧ y.1 bM 79 = -1 ∧ y.1 bM 83 = 0 ∧ y.1 bM 85 = 0 ∧ y.1 bM 1 = 0 ∧ y.1 bM 2 = 0 ∧ y.1 bM 4 = 0 ∧ y.1 bM 5 = -1 ∧ (∀ m j, m < bM ∨ m = bM + 4 → y.1 m j = x.1 m j) ∧ (∀ m j, ¬ m = bM → y.2 m j = x.2 m j)
def mTf (P : pS) (x y : aS) : Prop := y.1 bM 1 = 0 ∧ y.1 bM 2 = 0 ∧ y.1 bM 4 = nI P.2.2.2.2.1 ∧ y.1 bM 5 = nI P.2.2.2.2.2 ∧ (∀ m j, ¬ rC m j → ¬ mUc m j → ¬ (m = bM ∧ (j ≤ 2 ∨ j = 6)) → y.1 m j = x.1 m j) ∧ y.2 = x.2
set_option maxHeartbeats 4000000 in
set_option maxRecDepth 100000 in
theorem c_X12_textN {a : Int32} (hM : D 12 = true) (hN : x.1 bM 1 = nI N) (h : a < 0 ∨ nI N < a) : aDI l mX12_text (d + 5) D [.ref bM, .int a] x (-2) (aWr x bM 2 0) := by
  refine a_metI (by decide) (Nat.le_of_ble_eq_true rfl) rfl ?_
  refine a_aload_n (i := 0) dX12_text_0 rfl rfl ?_
  refine a_iconst (v := 0) dX12_text_1 (by decide) ?_
  refine pX12_175 rfl dX12_text_2 (isM_0 hM) ?_
  refine a_iload_n (i := 1) dX12_text_5 rfl rfl ?_
  refine a_if_lt (tg := 17) dX12_text_6 (by decide) (fun c_6 => ?_) (fun c_6 => ?_)
  · refine a_bipush (v := (-2)) dX12_text_17 (by decide) ?_
    exact a_iret dX12_text_19 (by exact ⟨rfl, rfl⟩)
  · refine a_iload_n (i := 1) dX12_text_9 rfl rfl ?_
    refine a_aload_n (i := 0) dX12_text_10 rfl rfl ?_
    refine gX12_178 rfl dX12_text_11 (isM_0 hM) ?_
    rw [aWr_j _ _ _ (by decide), hN]
    refine a_icmp_le (tg := 20) dX12_text_14 (by decide) (fun c_14 => ?_) (fun c_14 => ?_)
    · exact absurd h (by intro e; rcases e with e | e; exact c_6 e; exact absurd c_14 (Int32.not_le.mpr e))
    · refine a_bipush (v := (-2)) dX12_text_17 (by decide) ?_
      exact a_iret dX12_text_19 (by exact ⟨rfl, rfl⟩)
set_option maxHeartbeats 8000000 in
set_option maxRecDepth 100000 in
theorem c_X12_text (hM : D 12 = true) (hN : x.1 bM 1 = nI N) (hN7 : N ≤ 700) (hB : ∀ i, i < N → B i < 256 ∧ x.1 (bM + 1) i = nI (B i)) (hw : ∀ j, j < 108 → x.1 (bM + 4) j = nI (wd j)) (hn : n ≤ N) : aCt l mX12_text (d + 5) D [.ref bM, .int (nI n)] x (fun v y => ((rdGo B n (n + 1) pS0).2.2.2.2.1 = 0 → v = some (.int (nI ((rdGo B n (n + 1) pS0).1.1 8))) ∧ mTx (rdGo B n (n + 1) pS0) x y) ∧ (¬ (rdGo B n (n + 1) pS0).2.2.2.2.1 = 0 → v = some (.int (-1)) ∧ mTf (rdGo B n (n + 1) pS0) x y)) := by
  refine a_met (by decide) (Nat.le_of_ble_eq_true rfl) (fun v y q => Or.inl ⟨rfl, by by_cases g : (rdGo B n (n + 1) pS0).2.2.2.2.1 = 0; exact ⟨_, (q.1 g).1⟩; exact ⟨_, (q.2 g).1⟩⟩) ?_
  obtain ⟨z, hz⟩ : ∃ z, z = aWr (aWr (aWr (aWr (aWr (aWr x bM 2 0) bM 6 (nI n)) bM 1 0) bM 4 0) bM 5 (-1)) bM 7 0 := ⟨_, rfl⟩
  have zo : ∀ m j, ¬ (m = bM ∧ (j = 2 ∨ j = 6 ∨ j = 1 ∨ j = 4 ∨ j = 5 ∨ j = 7)) → z.1 m j = x.1 m j := fun m j e => by rw [hz, aWr_o _ _ (by omega), aWr_o _ _ (by omega), aWr_o _ _ (by omega), aWr_o _ _ (by omega), aWr_o _ _ (by omega), aWr_o _ _ (by omega)]
  have z1 : z.1 bM 1 = 0 := by rw [hz]; repeat (first | rw [aWr_s] | rw [aWr_j _ _ _ (by decide)])
  have z2 : z.1 bM 2 = 0 := by rw [hz]; repeat (first | rw [aWr_s] | rw [aWr_j _ _ _ (by decide)])
  have z4 : z.1 bM 4 = 0 := by rw [hz]; repeat (first | rw [aWr_s] | rw [aWr_j _ _ _ (by decide)])
  have z5 : z.1 bM 5 = -1 := by rw [hz]; repeat (first | rw [aWr_s] | rw [aWr_j _ _ _ (by decide)])
  have z6 : z.1 bM 6 = nI n := by rw [hz]; repeat (first | rw [aWr_s] | rw [aWr_j _ _ _ (by decide)])
  have z7 : z.1 bM 7 = 0 := by rw [hz]; repeat (first | rw [aWr_s] | rw [aWr_j _ _ _ (by decide)])
  have zb : mBt n B z := ⟨z6, by omega, fun i hi => ⟨(hB i (by omega)).1, by rw [zo _ _ (by omega)]; exact (hB i (by omega)).2⟩, fun j hj => by rw [zo _ _ (by omega)]; exact hw j hj⟩
  have n0 : ¬ nI n < 0 := nI_pos (by omega)
  have nN : nI n ≤ nI N := nI_le hn (by omega)
  have nrC : ∀ j, j ≤ 6 → ¬ rC bM j := fun j hj e => by unfold rC at e; omega
  have L : ∀ F P (y : aS), mK n B P y → P.2.2.2.2.1 = 0 → tG P.1 → n + 1 ≤ P.2.2.2.1 + F → mW rC z y → aV l mX12_text (d + 5) D none 55 [(0, .ref bM), (1, .int (nI n)), (2, .int (nI (P.1.1 8)))] [] y (fun v y => ((rdGo B n F P).2.2.2.2.1 = 0 → v = some (.int (nI ((rdGo B n F P).1.1 8))) ∧ mTx (rdGo B n F P) x y) ∧ (¬ (rdGo B n F P).2.2.2.2.1 = 0 → v = some (.int (-1)) ∧ mTf (rdGo B n F P) x y)) := by
    intro F
    induction F with
    | zero =>
      intro P y K f0 tg hF Wy
      have := (K.2.1.1 f0).1
      omega
    | succ F ih =>
      intro P y K f0 tg hF Wy
      obtain ⟨i1, rk, c4, c5⟩ := K.2.1.1 f0
      have k0 := kM_0 rk.2.2
      by_cases k37 : (tok B n P.2.2.2.1).1 = 37
      · rw [rdGo, if_pos (Or.inl k37)]
        have e8 := k0.mpr k37
        have FIN : ∀ w : aS, mR P.1 P.2.1 (zFirst P.1) w ∧ rNum (zFirst P.1) w ∧ rFl 5 w ∧ w.1 bM 78 = 0 ∧ w.1 bM 79 = -1 ∧ w.1 bM 83 = 0 ∧ w.1 bM 85 = 0 ∧ (∀ m j, (m = bM ∧ j ≤ 11) ∨ m < bM ∨ m = bM + 4 → w.1 m j = y.1 m j) ∧ (∀ m j, ¬ m = bM → w.2 m j = y.2 m j) → mTx P x w := by
          intro w ⟨a1, a2, a3, a4, a5, a6, a7, a8, a9⟩
          have g : ∀ j, j ≤ 2 → w.1 bM j = z.1 bM j := fun j hj => by rw [a8 _ _ (Or.inl ⟨rfl, by omega⟩), Wy.1 _ _ (fun e => by unfold mUc at e; omega) (nrC j (by omega))]
          exact ⟨a1, a2, a3, a4, a5, a6, a7, (g 1 (by decide)).trans z1, (g 2 (by decide)).trans z2, (a8 _ _ (Or.inl ⟨rfl, by decide⟩)).trans c4, (a8 _ _ (Or.inl ⟨rfl, by decide⟩)).trans c5, fun m j h => by rw [a8 _ _ (by omega), Wy.1 _ _ (fun e => by unfold mUc at e; omega) (fun e => by unfold rC at e; omega), zo _ _ (by omega)], fun m j h => by rw [a9 m j h, Wy.2, hz]; rfl⟩
        refine a_aload_n (i := 0) dX12_text_55 rfl rfl ?_
        refine gX12_193 rfl dX12_text_56 (isM_0 hM) ?_
        rw [e8]
        refine a_if_eq (tg := 77) dX12_text_59 (by decide) (fun c_59 => ?_) (fun c_59 => ?_)
        · refine a_aload_n (i := 0) dX12_text_77 rfl rfl ?_
          refine kgX12_172 rfl dX12_text_78 (Nat.le_of_ble_eq_true rfl) (isM_0 hM) (c_X12_keepText hM K f0 tg) ?_
          rintro v w ⟨rfl, Q⟩
          refine a_iload_n (i := 2) dX12_text_81 rfl rfl ?_
          exact a_iret dX12_text_82 (by exact ⟨fun _ => ⟨rfl, FIN w Q⟩, fun e => absurd f0 e⟩)
        · exact absurd rfl c_59
      · rw [rdGo, if_neg (by intro e; rcases e with e | e; exact k37 e; exact e f0)]
        have BAD : ∀ w : aS, mK n B (rdN B n P) w → mW rC y w → ¬ (rdN B n P).2.2.2.2.1 = 0 → mTf (rdN B n P) x w := by
          intro w Kw Ww nf
          obtain ⟨p4, p5⟩ := Kw.2.1.2 nf
          have Wz := mW_t Wy Ww
          have g : ∀ j, j ≤ 2 → w.1 bM j = z.1 bM j := fun j hj => Wz.1 _ _ (fun e => by unfold mUc at e; omega) (nrC j (by omega))
          exact ⟨(g 1 (by decide)).trans z1, (g 2 (by decide)).trans z2, p4, p5, fun m j h1 h2 h3 => by rw [Wz.1 _ _ h2 h1, zo _ _ (by unfold mUc at h2; omega)], by rw [Wz.2, hz]; rfl⟩
        by_cases nf : (rdN B n P).2.2.2.2.1 = 0
        · obtain ⟨tg2, e8⟩ := tG_n tg nf
          have mn := mon_n f0 i1 K.2.2.2.1 nf
          have e8 : (rdN B n P).1.1 8 = P.1.1 8 + 1 := by rw [e8, h8_l]
          have X : ∀ w : aS, mK n B (rdN B n P) w → mW rC y w → aV l mX12_text (d + 5) D none 55 [(0, .ref bM), (1, .int (nI n)), (2, .int (nI (P.1.1 8 + 1)))] [] w (fun v y => ((rdGo B n F (rdN B n P)).2.2.2.2.1 = 0 → v = some (.int (nI ((rdGo B n F (rdN B n P)).1.1 8))) ∧ mTx (rdGo B n F (rdN B n P)) x y) ∧ (¬ (rdGo B n F (rdN B n P)).2.2.2.2.1 = 0 → v = some (.int (-1)) ∧ mTf (rdGo B n F (rdN B n P)) x y)) := by
            intro w Kw Ww
            have := ih (rdN B n P) w Kw nf tg2 (by omega) (mW_t Wy Ww)
            rw [e8] at this
            exact this
          refine a_aload_n (i := 0) dX12_text_55 rfl rfl ?_
          refine gX12_193 rfl dX12_text_56 (isM_0 hM) ?_
          refine a_if_eq (tg := 77) dX12_text_59 (by decide) (fun c_59 => ?_) (fun c_59 => ?_)
          · exact absurd (k0.mp c_59) k37
          · refine a_aload_n (i := 0) dX12_text_62 rfl rfl ?_
            refine kgX12_316 rfl dX12_text_63 (Nat.le_of_ble_eq_true rfl) (isM_0 hM) (c_X12_lineRead hM K f0) ?_
            rintro v w ⟨rfl, Kw, Ww⟩
            rw [bI_t nf]
            refine a_if_ne (tg := 71) dX12_text_66 (by decide) (fun c_66 => ?_) (fun c_66 => ?_)
            · refine a_iincK (i := 2) (u := 1) dX12_text_71 rfl (by decide) (by decide) ?_
              rw [nI_1]
              refine a_goto (tg := 55) dX12_text_74 (by decide) ?_
              exact a_loc _ rfl (X w Kw Ww)
            · exact absurd c_66 (by decide)
        · rw [rdGo_f nf]
          refine a_aload_n (i := 0) dX12_text_55 rfl rfl ?_
          refine gX12_193 rfl dX12_text_56 (isM_0 hM) ?_
          refine a_if_eq (tg := 77) dX12_text_59 (by decide) (fun c_59 => ?_) (fun c_59 => ?_)
          · exact absurd (k0.mp c_59) k37
          · refine a_aload_n (i := 0) dX12_text_62 rfl rfl ?_
            refine kgX12_316 rfl dX12_text_63 (Nat.le_of_ble_eq_true rfl) (isM_0 hM) (c_X12_lineRead hM K f0) ?_
            rintro v w ⟨rfl, Kw, Ww⟩
            rw [bI_f nf]
            refine a_if_ne (tg := 71) dX12_text_66 (by decide) (fun c_66 => ?_) (fun c_66 => ?_)
            · exact absurd rfl c_66
            · refine a_iconst (v := (-1)) dX12_text_69 (by decide) ?_
              exact a_iret dX12_text_70 (by exact ⟨fun e => absurd e nf, fun _ => ⟨rfl, BAD w Kw Ww nf⟩⟩)
  have ST : ∀ w y : aS, (∀ j, (18 ≤ j ∧ j ≤ 23) ∨ j = 53 → w.1 bM j = 0) → (∀ k, k < 2 → w.1 (bM + 25) k = 0 ∧ w.1 (bM + 26) (2 + k) = 0) → (∀ q, q < 3 → w.1 (bM + 43) (3 + q) = 0) → mW rC z w → w.1 bM 4 = 0 → w.1 bM 5 = -1 → rKM (tok B n 0) y → mSt w y → mK n B pS0 y ∧ mW rC z y := by
    intro w y a1 a2 a3 Ww w4 w5 u G
    have Wy := mW_t Ww (mW_u (mU_s G))
    have g : ∀ m j, ¬ (m = bM ∧ 7 ≤ j ∧ j ≤ 10) → y.1 m j = w.1 m j := G.1
    have c0 : ∀ j, j < 6 → (shr y).1 bM (12 + j) = nI 0 := fun j hj => by rw [shr_0, g _ _ (by omega), a1 _ (by omega)]; rfl
    refine ⟨⟨mBt_W rC_b zb Wy, ⟨fun _ => ⟨Nat.zero_le _, u, by rw [g _ _ (by omega)]; exact w4, by rw [g _ _ (by omega)]; exact w5⟩, fun e => absurd rfl e⟩, ⟨Nat.zero_le _, Nat.zero_le _, Nat.zero_le _, Nat.zero_le _, Nat.zero_le _⟩, fun _ => ⟨Nat.zero_le _, fun q _ => ⟨Nat.zero_le _, fun _ => rfl⟩⟩, fun _ => ⟨⟨c0 0 (by decide), c0 1 (by decide), c0 2 (by decide), c0 3 (by decide), c0 4 (by decide), c0 5 (by decide), ?_, ?_, fun h hh => absurd hh (Nat.not_lt_zero h), fun h hh => absurd hh (Nat.not_lt_zero h), fun h hh => absurd hh (Nat.not_lt_zero h), fun h hh => absurd hh (Nat.not_lt_zero h), fun h hh => absurd hh (Nat.not_lt_zero h)⟩, ?_, ?_, ?_, fun q hq => ⟨?_, fun e => absurd e Bool.false_ne_true⟩⟩⟩, Wy⟩
    · rw [shr_r _ (by decide) (show hlf 26 = 2 from rfl), g _ _ (by omega), (a2 0 (by decide)).2]; rfl
    · rw [shr_r _ (by decide) (show hlf 26 = 2 from rfl), g _ _ (by omega), (a2 1 (by decide)).2]; rfl
    · rw [g _ _ (by omega), (a2 0 (by decide)).1]; rfl
    · rw [g _ _ (by omega), (a2 1 (by decide)).1]; rfl
    · rw [g _ _ (by omega), a1 _ (by omega)]; rfl
    · rw [g _ _ (by omega), a3 q hq]; rfl
  refine a_aload_n (i := 0) dX12_text_0 rfl rfl ?_
  refine a_iconst (v := 0) dX12_text_1 (by decide) ?_
  refine pX12_175 rfl dX12_text_2 (isM_0 hM) ?_
  refine a_iload_n (i := 1) dX12_text_5 rfl rfl ?_
  refine a_if_lt (tg := 17) dX12_text_6 (by decide) (fun c_6 => ?_) (fun c_6 => ?_)
  · exact absurd c_6 n0
  · refine a_iload_n (i := 1) dX12_text_9 rfl rfl ?_
    refine a_aload_n (i := 0) dX12_text_10 rfl rfl ?_
    refine gX12_178 rfl dX12_text_11 (isM_0 hM) ?_
    rw [aWr_j _ _ _ (by decide), hN]
    refine a_icmp_le (tg := 20) dX12_text_14 (by decide) (fun c_14 => ?_) (fun c_14 => ?_)
    · refine a_aload_n (i := 0) dX12_text_20 rfl rfl ?_
      refine a_iload_n (i := 1) dX12_text_21 rfl rfl ?_
      refine pX12_187 rfl dX12_text_22 (isM_0 hM) ?_
      refine a_aload_n (i := 0) dX12_text_25 rfl rfl ?_
      refine a_iconst (v := 0) dX12_text_26 (by decide) ?_
      refine pX12_178 rfl dX12_text_27 (isM_0 hM) ?_
      refine a_aload_n (i := 0) dX12_text_30 rfl rfl ?_
      refine a_iconst (v := 0) dX12_text_31 (by decide) ?_
      refine pX12_181 rfl dX12_text_32 (isM_0 hM) ?_
      refine a_aload_n (i := 0) dX12_text_35 rfl rfl ?_
      refine a_iconst (v := (-1)) dX12_text_36 (by decide) ?_
      refine pX12_16 rfl dX12_text_37 (isM_0 hM) ?_
      refine a_aload_n (i := 0) dX12_text_40 rfl rfl ?_
      refine a_iconst (v := 0) dX12_text_41 (by decide) ?_
      refine pX12_190 rfl dX12_text_42 (isM_0 hM) ?_
      rw [← hz]
      refine a_aload_n (i := 0) dX12_text_45 rfl rfl ?_
      refine kgX12_169 rfl dX12_text_46 (Nat.le_of_ble_eq_true rfl) (isM_0 hM) (c_X12_plain hM) ?_
      rintro v w ⟨rfl, a1, a2, a3, Pw⟩
      have Ww := pW_W Pw
      have w4 : w.1 bM 4 = 0 := by rw [pl_4 Pw (by decide)]; exact z4
      have w5 : w.1 bM 5 = -1 := by rw [pl_4 Pw (by decide)]; exact z5
      have w7 : w.1 bM 7 = nI 0 := by rw [pl_4 Pw (by decide)]; exact z7
      refine a_aload_n (i := 0) dX12_text_49 rfl rfl ?_
      refine kgX12_227 rfl dX12_text_50 (Nat.le_of_ble_eq_true rfl) (isM_0 hM) (c_X12_token (n := n) (B := B) (i := 0) hM (mBt_W rC_b zb Ww) w7 (Nat.zero_le _)) ?_
      rintro v y ⟨rfl, u, G⟩
      obtain ⟨K, Wy⟩ := ST w y a1 a2 a3 Ww w4 w5 u G
      refine a_iconst (v := 0) dX12_text_53 (by decide) ?_
      refine a_istore_n (i := 2) dX12_text_54 rfl (by decide) ?_
      exact a_loc _ rfl (L (n + 1) pS0 y K rfl tG_0 (by show n + 1 ≤ 0 + (n + 1); omega) Wy)
    · exact absurd nN c_14
end qBL
