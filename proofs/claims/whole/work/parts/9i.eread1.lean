/-! READING an E, the class: await, takeClose, takeSign, takeStart -/
section qAP
variable {l : Launch} {d : Nat} {D : Nat → Bool} {x y : aS} {n t a k b : Nat} {B : Nat → Nat} {S : eS} {r r' : zP}
theorem cE_u (hA : aLw D t a) (h : cE n B t a S x) (hp : cP n B r' y) (F : cU x y) : cE n B t a (r', S.2) y := by
  obtain ⟨a1, -, -, -⟩ := hA
  obtain ⟨J, e5, e6, eL, e7, e8⟩ := h
  have ht := J.1
  refine ⟨cJ_u J hp F, ?_, fun j hj => ?_, ⟨?_, fun i hi => ?_⟩, ?_, ?_⟩
  · rw [F.1 _ _ (fun e => absurd e.1 (by decide)) (by omega)]; exact e5
  · rw [F.1 _ _ (fun e => absurd e.1 (by decide)) (fun e => absurd e.1 (by decide))]; exact e6 j hj
  · rw [cU_T ht (by omega) F]; exact eL.1
  · rw [cU_T ht (by omega) F, cU_T ht (by omega) F]; exact eL.2 i hi
  · rw [F.1 _ _ (fun e => absurd e.1 (by decide)) (by omega)]; exact e7
  · rw [cU_T ht (Nat.le_refl t) F]; exact e8
theorem cE_fl {c : Nat} (hA : aLw D t a) (h : cE n B t a S x) (h0 : S.1.2.1 = 0) (hc : c ≤ 5) (hc0 : ¬ c = 0) : cE n B t a (eFl B n c S) (aWr (aWr x bRd 7 (nI c)) bRd 8 (nI (tok B n S.1.1).2.2.2.1)) ∧ cFe t a x (aWr (aWr x bRd 7 (nI c)) bRd 8 (nI (tok B n S.1.1).2.2.2.1)) := by
  have fl := cP_fl (c := c) h.1.2.2.2 h0 hc hc0
  exact ⟨cE_u hA h fl.1 fl.2, cFe_u fl.2⟩
theorem cJ_r {j : Nat} {v : Int32} (h : cJ n B t r x) : cJ n B t r (aWr x (bRd + 5) j v) := by
  obtain ⟨ht, h1, h2, h3⟩ := h
  have e1 : bTp ≠ bRd + 5 := by decide
  have e2 : bTp + 2 ≠ bRd + 5 := by decide
  have e3 : bRd ≠ bRd + 5 := by decide
  refine ⟨ht, by rw [aWr_n _ _ _ e3]; exact h1, ⟨by rw [aWr_n _ _ _ e1]; exact h2.1, h2.2.1, fun i hi => ⟨(h2.2.2 i hi).1, by rw [aWr_n _ _ _ e2]; exact (h2.2.2 i hi).2⟩⟩, ?_⟩
  obtain ⟨p1, p2, p3, p4⟩ := h3
  refine ⟨by rw [aWr_n _ _ _ e3]; exact p1, p2, fun e => ?_, fun e => by rw [aWr_n _ _ _ e3]; exact p4 e⟩
  obtain ⟨a, ⟨k1, k2, k3, k4⟩, b⟩ := p3 e
  exact ⟨a, ⟨by rw [aWr_n _ _ _ e1]; exact k1, by rw [aWr_n _ _ _ e1]; exact k2, by rw [aWr_n _ _ _ e1]; exact k3, by rw [aWr_n _ _ _ e1]; exact k4⟩, by rw [aWr_n _ _ _ e3]; exact b⟩
theorem cE_kn (hA : aLw D t a) (h : cE n B t a S x) : cE n B t a (eKn S) (aWr x t 18 (nI (S.2.2.2.2.2.2 + 1))) ∧ cFe t a x (aWr x t 18 (nI (S.2.2.2.2.2.2 + 1))) := by
  obtain ⟨a1, -, -, -⟩ := hA
  obtain ⟨J, e5, e6, eL, e7, e8⟩ := h
  have ht := J.1
  have n1 := (bRd_5 ht (Nat.le_refl t)).1
  have n2 := (bRd_5 ht (Nat.le_refl t)).2
  refine ⟨⟨cJ_w J (Nat.le_refl t), by rw [aWr_n _ _ _ n1]; exact e5, fun j hj => by rw [aWr_n _ _ _ n2]; exact e6 j hj, ⟨by rw [aWr_n _ _ _ (show a ≠ t by omega)]; exact eL.1, fun i hi => by rw [aWr_n _ _ _ (show a + 10 ≠ t by omega), aWr_n _ _ _ (show a + 20 ≠ t by omega)]; exact eL.2 i hi⟩, by rw [aWr_n _ _ _ n1]; exact e7, aWr_s _ _ _ _⟩, cFe_w (by omega)⟩
theorem cE_op (hA : aLw D t a) (h : cE n B t a S x) : cE n B t a (eOp S) (aWr x bRd 6 (nI (S.2.2.2.2.2.1 + 1))) ∧ cFe t a x (aWr x bRd 6 (nI (S.2.2.2.2.2.1 + 1))) := by
  obtain ⟨a1, -, -, -⟩ := hA
  obtain ⟨J, e5, e6, eL, e7, e8⟩ := h
  have ht := J.1
  have n1 := fun m (hm : t ≤ m) => (bRd_5 ht hm).1.symm
  refine ⟨⟨cJ_f J (by omega), by rw [aWr_j _ _ _ (by decide)]; exact e5, fun j hj => by rw [aWr_n _ _ _ (by decide)]; exact e6 j hj, ⟨by rw [aWr_n _ _ _ (n1 a (by omega))]; exact eL.1, fun i hi => by rw [aWr_n _ _ _ (n1 (a + 10) (by omega)), aWr_n _ _ _ (n1 (a + 20) (by omega))]; exact eL.2 i hi⟩, aWr_s _ _ _ _, by rw [aWr_n _ _ _ (n1 t (Nat.le_refl t))]; exact e8⟩, cFe_w (by omega)⟩
set_option maxHeartbeats 4000000 in
set_option maxRecDepth 100000 in
theorem c_X3_await {al : Bool} (hD : aDC D) (hA : aLw D t a) (h : cE n B t a S x) (h0 : S.1.2.1 = 0) (hw : S.2.2.1 ≤ 72) : aCt l mX3_await (d + 5) D [.ref bRd, .int (nI k), .int (bI al)] x (fun v y => v = none ∧ cE n B t a (eAw B n k al S) y ∧ cFe t a x y) := by
  obtain ⟨J, e5, e6, eL, e7, e8⟩ := id h
  have ht := J.1
  have fl := cE_fl (c := 2) hA h h0 (by decide) (by decide)
  refine a_met (by decide) (Nat.le_of_ble_eq_true rfl) (fun v y q => Or.inr (Or.inr (Or.inr ⟨rfl, q.1⟩))) ?_
  unfold eAw
  cases al with
  | false =>
    rw [if_neg (fun e => absurd e.1 (by decide))]
    refine a_iload_n (i := 2) dX3_await_0 rfl rfl ?_
    refine a_if_eq (tg := 16) dX3_await_1 (by decide) (fun c_1 => ?_) (fun c_1 => ?_)
    · refine a_aload_n (i := 0) dX3_await_16 rfl rfl ?_
      refine a_iconst (v := 2) dX3_await_17 (by decide) ?_
      refine kX3_77 rfl dX3_await_18 (Nat.le_of_ble_eq_true rfl) (isRd_0 hD) (c_X3_fail (c := 2) hD J.2.2.2 h0) ?_
      exact a_vret dX3_await_21 (by exact ⟨rfl, fl⟩)
    · exact absurd rfl c_1
  | true =>
    by_cases g : S.2.2.1 < 72
    · rw [if_pos ⟨rfl, g⟩]
      have c7 : nI S.2.2.1 < nI 72 := nI_lt g (by decide)
      have K : ∀ Y : aS, Y = aWr (aWr x (bRd + 5) S.2.2.1 (nI k)) bRd 5 (nI (S.2.2.1 + 1)) → cE n B t a (S.1, S.2.1, S.2.2.1 + 1, sps S.2.2.2.1 S.2.2.1 k, S.2.2.2.2) Y ∧ cFe t a x Y := by
        intro Y hY
        obtain ⟨a1, -, -, -⟩ := hA
        have n1 := fun m (hm : t ≤ m) => (bRd_5 ht hm).1.symm
        have n2 := fun m (hm : t ≤ m) => (bRd_5 ht hm).2.symm
        rw [hY]
        refine ⟨⟨cJ_f (cJ_r J) (by omega), aWr_s _ _ _ _, fun j hj => ?_, ⟨by rw [aWr_n _ _ _ (n1 a (by omega)), aWr_n _ _ _ (n2 a (by omega))]; exact eL.1, fun i hi => by rw [aWr_n _ _ _ (n1 (a + 10) (by omega)), aWr_n _ _ _ (n1 (a + 20) (by omega)), aWr_n _ _ _ (n2 (a + 10) (by omega)), aWr_n _ _ _ (n2 (a + 20) (by omega))]; exact eL.2 i hi⟩, by rw [aWr_j _ _ _ (by decide), aWr_n _ _ _ (by decide)]; exact e7, by rw [aWr_n _ _ _ (n1 t (Nat.le_refl t)), aWr_n _ _ _ (n2 t (Nat.le_refl t))]; exact e8⟩, cFe_t (cFe_w (by omega)) (cFe_w (by omega))⟩
        have hj : j < S.2.2.1 + 1 := hj
        rw [aWr_n _ _ _ (by decide)]
        show _ = nI (if j = S.2.2.1 then k else S.2.2.2.1 j)
        by_cases e : j = S.2.2.1
        · rw [if_pos e, e, aWr_s]
        · rw [if_neg e, aWr_j _ _ _ e]; exact e6 j (by omega)
      refine a_iload_n (i := 2) dX3_await_0 rfl rfl ?_
      refine a_if_eq (tg := 16) dX3_await_1 (by decide) (fun c_1 => ?_) (fun c_1 => ?_)
      · exact absurd c_1 (by decide)
      · refine a_aload_n (i := 0) dX3_await_4 rfl rfl ?_
        refine gX3_210 rfl dX3_await_5 (isRd_0 hD) ?_
        rw [e5]
        refine a_aload_n (i := 0) dX3_await_8 rfl rfl ?_
        refine gX3_25 rfl dX3_await_9 (isRd_0 hD) ?_
        refine a_alen dX3_await_12 (isRd_5 hD) (by decide) ?_
        refine a_icmp_lt (tg := 22) dX3_await_13 (by decide) (fun c_13 => ?_) (fun c_13 => ?_)
        · refine a_aload_n (i := 0) dX3_await_22 rfl rfl ?_
          refine gX3_25 rfl dX3_await_23 (isRd_0 hD) ?_
          refine a_aload_n (i := 0) dX3_await_26 rfl rfl ?_
          refine gX3_210 rfl dX3_await_27 (isRd_0 hD) ?_
          rw [e5]
          refine a_iload_n (i := 1) dX3_await_30 rfl rfl ?_
          refine a_iastN dX3_await_31 (isRd_5 hD) (by first | with_reducible exact rfl | with_reducible exact ix8 _ _ | with_reducible exact ix12 _ _ | exact rfl) (by omega) (by decide) ?_
          refine a_aload_n (i := 0) dX3_await_32 rfl rfl ?_
          refine a_dup dX3_await_33 rfl ?_
          refine gX3_210 rfl dX3_await_34 (isRd_0 hD) ?_
          rw [aWr_n _ _ _ (by decide), e5]
          refine a_iconst (v := 1) dX3_await_37 (by decide) ?_
          refine a_iadd dX3_await_38 ?_
          rw [nI_1]
          refine pX3_210 rfl dX3_await_39 (isRd_0 hD) ?_
          exact a_vret dX3_await_42 (by exact ⟨rfl, K _ rfl⟩)
        · exact absurd c7 c_13
    · rw [if_neg (fun e => g e.2)]
      have c7 : ¬ nI S.2.2.1 < nI 72 := nI_nlt (by omega) (by omega)
      refine a_iload_n (i := 2) dX3_await_0 rfl rfl ?_
      refine a_if_eq (tg := 16) dX3_await_1 (by decide) (fun c_1 => ?_) (fun c_1 => ?_)
      · exact absurd c_1 (by decide)
      · refine a_aload_n (i := 0) dX3_await_4 rfl rfl ?_
        refine gX3_210 rfl dX3_await_5 (isRd_0 hD) ?_
        rw [e5]
        refine a_aload_n (i := 0) dX3_await_8 rfl rfl ?_
        refine gX3_25 rfl dX3_await_9 (isRd_0 hD) ?_
        refine a_alen dX3_await_12 (isRd_5 hD) (by decide) ?_
        refine a_icmp_lt (tg := 22) dX3_await_13 (by decide) (fun c_13 => ?_) (fun c_13 => ?_)
        · exact absurd c_13 c7
        · refine a_aload_n (i := 0) dX3_await_16 rfl rfl ?_
          refine a_iconst (v := 2) dX3_await_17 (by decide) ?_
          refine kX3_77 rfl dX3_await_18 (Nat.le_of_ble_eq_true rfl) (isRd_0 hD) (c_X3_fail (c := 2) hD J.2.2.2 h0) ?_
          exact a_vret dX3_await_21 (by exact ⟨rfl, fl⟩)
set_option maxHeartbeats 4000000 in
set_option maxRecDepth 100000 in
theorem c_X3_takeClose (hD : aDC D) (hA : aLw D t a) (h : cE n B t a S x) (hw : S.2.2.1 ≤ 72) (hs : ∀ j, j < S.2.2.1 → S.2.2.2.1 j < 39) (hL : S.2.2.2.2.1.1 + wcn S.2.2.2.1 S.2.2.1 ≤ 64) (ho : 1 ≤ S.2.2.2.2.2.1) (hr : (eRl 1 S).2.2.1 ≤ 72) : aCt l mX3_takeClose (d + 6) D [.ref bRd, .ref a] x (fun v y => v = none ∧ cE n B t a (eCl S) y ∧ cFe t a x y) := by
  have eo : nI S.2.2.2.2.2.1 - 1 = nI (S.2.2.2.2.2.1 - 1) := by
    obtain ⟨o, ho⟩ : ∃ o, S.2.2.2.2.2.1 = o + 1 := ⟨S.2.2.2.2.2.1 - 1, by omega⟩
    rw [ho, nI_pred]; rfl
  refine a_met (by decide) (Nat.le_of_ble_eq_true rfl) (fun v y q => Or.inr (Or.inr (Or.inr ⟨rfl, q.1⟩))) ?_
  have K : ∀ y1 Y : aS, cE n B t a (eRl 1 S) y1 → cFe t a x y1 → Y = aWr (aWr y1 bRd 5 (nI ((eRl 1 S).2.2.1 - 1))) bRd 6 (nI (S.2.2.2.2.2.1 - 1)) → cE n B t a (eCl S) Y ∧ cFe t a x Y := by
    intro y1 Y h1 F hY
    obtain ⟨J, e5, e6, eL, e7, e8⟩ := h1
    obtain ⟨a1, -, -, -⟩ := hA
    have n1 := fun m (hm : t ≤ m) => (bRd_5 J.1 hm).1.symm
    rw [hY]
    refine ⟨⟨cJ_f (cJ_f J (by omega)) (by omega), by rw [aWr_j _ _ _ (by decide), aWr_s]; rfl, fun j hj => ?_, ⟨by rw [aWr_n _ _ _ (n1 a (by omega)), aWr_n _ _ _ (n1 a (by omega))]; exact eL.1, fun i hi => by rw [aWr_n _ _ _ (n1 (a + 10) (by omega)), aWr_n _ _ _ (n1 (a + 20) (by omega)), aWr_n _ _ _ (n1 (a + 10) (by omega)), aWr_n _ _ _ (n1 (a + 20) (by omega))]; exact eL.2 i hi⟩, aWr_s _ _ _ _, by rw [aWr_n _ _ _ (n1 t (Nat.le_refl t)), aWr_n _ _ _ (n1 t (Nat.le_refl t))]; exact e8⟩, cFe_t F (cFe_t (cFe_w (by omega)) (cFe_w (by omega)))⟩
    have hj : j < (eRl 1 S).2.2.1 - 1 := hj
    rw [aWr_n _ _ _ (by decide), aWr_n _ _ _ (by decide)]
    exact e6 j (by omega)
  by_cases g : (eRl 1 S).2.2.1 = 0
  · refine a_aload_n (i := 0) dX3_takeClose_0 rfl rfl ?_
    refine a_aload_n (i := 1) dX3_takeClose_1 rfl rfl ?_
    refine a_iconst (v := 1) dX3_takeClose_2 (by decide) ?_
    refine kgX3_230 rfl dX3_takeClose_3 (Nat.le_of_ble_eq_true rfl) (isRd_0 hD) (c_X3_release (b := 1) hD hA (by decide) (by decide) h hw hs hL) ?_
    rintro v y1 ⟨rfl, E1, F1⟩
    have w5 : y1.1 bRd 5 = 0 := by rw [E1.2.1, g]; rfl
    have o6 : y1.1 bRd 6 = nI S.2.2.2.2.2.1 := E1.2.2.2.2.1
    refine a_aload_n (i := 0) dX3_takeClose_6 rfl rfl ?_
    refine gX3_210 rfl dX3_takeClose_7 (isRd_0 hD) ?_
    rw [w5]
    refine a_if_le (tg := 23) dX3_takeClose_10 (by decide) (fun c_10 => ?_) (fun c_10 => ?_)
    · refine a_aload_n (i := 0) dX3_takeClose_23 rfl rfl ?_
      refine a_dup dX3_takeClose_24 rfl ?_
      refine gX3_213 rfl dX3_takeClose_25 (isRd_0 hD) ?_
      rw [o6]
      refine a_iconst (v := 1) dX3_takeClose_28 (by decide) ?_
      refine a_isub dX3_takeClose_29 ?_
      rw [eo]
      refine pX3_213 rfl dX3_takeClose_30 (isRd_0 hD) ?_
      exact a_vret dX3_takeClose_33 (by exact ⟨rfl, K y1 _ E1 F1 (by rw [g, show nI (0 - 1) = (0 : Int32) from rfl, aWr_id y1 bRd 5 0 w5])⟩)
    · exact absurd (Int32.le_refl _) c_10
  · obtain ⟨w, hw2⟩ : ∃ w, (eRl 1 S).2.2.1 = w + 1 := ⟨(eRl 1 S).2.2.1 - 1, by omega⟩
    refine a_aload_n (i := 0) dX3_takeClose_0 rfl rfl ?_
    refine a_aload_n (i := 1) dX3_takeClose_1 rfl rfl ?_
    refine a_iconst (v := 1) dX3_takeClose_2 (by decide) ?_
    refine kgX3_230 rfl dX3_takeClose_3 (Nat.le_of_ble_eq_true rfl) (isRd_0 hD) (c_X3_release (b := 1) hD hA (by decide) (by decide) h hw hs hL) ?_
    rintro v y1 ⟨rfl, E1, F1⟩
    have w5 : y1.1 bRd 5 = nI (w + 1) := by rw [E1.2.1, hw2]
    have o6 : y1.1 bRd 6 = nI S.2.2.2.2.2.1 := E1.2.2.2.2.1
    refine a_aload_n (i := 0) dX3_takeClose_6 rfl rfl ?_
    refine gX3_210 rfl dX3_takeClose_7 (isRd_0 hD) ?_
    rw [w5]
    refine a_if_le (tg := 23) dX3_takeClose_10 (by decide) (fun c_10 => ?_) (fun c_10 => ?_)
    · exact absurd c_10 (nI_nle (by omega) (by omega))
    · refine a_aload_n (i := 0) dX3_takeClose_13 rfl rfl ?_
      refine a_dup dX3_takeClose_14 rfl ?_
      refine gX3_210 rfl dX3_takeClose_15 (isRd_0 hD) ?_
      rw [w5]
      refine a_iconst (v := 1) dX3_takeClose_18 (by decide) ?_
      refine a_isub dX3_takeClose_19 ?_
      rw [nI_pred]
      refine pX3_210 rfl dX3_takeClose_20 (isRd_0 hD) ?_
      refine a_aload_n (i := 0) dX3_takeClose_23 rfl rfl ?_
      refine a_dup dX3_takeClose_24 rfl ?_
      refine gX3_213 rfl dX3_takeClose_25 (isRd_0 hD) ?_
      rw [aWr_j _ _ _ (by decide), o6]
      refine a_iconst (v := 1) dX3_takeClose_28 (by decide) ?_
      refine a_isub dX3_takeClose_29 ?_
      rw [eo]
      refine pX3_213 rfl dX3_takeClose_30 (isRd_0 hD) ?_
      exact a_vret dX3_takeClose_33 (by exact ⟨rfl, K y1 _ E1 F1 (by rw [hw2]; rfl)⟩)
end qAP
