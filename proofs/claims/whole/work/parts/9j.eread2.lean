/-! READING an E, the class: takeSign, takeStart -/
theorem rel_le (s : Nat → Nat) (b : Nat) : ∀ (w : Nat) (L : zL), (rel s b w L).1 ≤ w := by
  intro w
  induction w with
  | zero => intro L; exact Nat.le_refl 0
  | succ w ih =>
    intro L
    show (if b ≤ kBd (s w) then rel s b w (lAp L (nI (s w)) 0) else (w + 1, L)).1 ≤ w + 1
    split
    · exact Nat.le_succ_of_le (ih _)
    · exact Nat.le_refl _
section qAQ
variable {l : Launch} {d : Nat} {D : Nat → Bool} {x y : aS} {n t a k b : Nat} {B : Nat → Nat} {S : eS} {r r' : zP}
set_option maxHeartbeats 4000000 in
set_option maxRecDepth 100000 in
theorem c_X3_takeSign (hD : aDC D) (hA : aLw D t a) (h : cE n B t a S x) (h0 : S.1.2.1 = 0) (hk : k < 39) (hk1 : 1 ≤ kBd k) (hw : S.2.2.1 ≤ 72) (hs : ∀ j, j < S.2.2.1 → S.2.2.2.1 j < 39) (hL : S.2.2.2.2.1.1 + wcn S.2.2.2.1 S.2.2.1 ≤ 64) (hn : S.2.2.2.2.2.2 ≤ 64) : aCt l mX3_takeSign (d + 6) D [.ref bRd, .ref a, .int (nI k)] x (fun v y => v = none ∧ cE n B t a (eSg B n k S) y ∧ cFe t a x y) := by
  obtain ⟨kb, kb6⟩ := kBc_n k hk
  have ht := h.1.1
  refine a_met (by decide) (Nat.le_of_ble_eq_true rfl) (fun v y q => Or.inr (Or.inr (Or.inr ⟨rfl, q.1⟩))) ?_
  -- from the count of knots on
  have T : ∀ (S1 : eS) (y1 : aS), cE n B t a S1 y1 → S1.1.2.1 = 0 → S1.2.2.1 ≤ 72 → S1.2.2.2.2.2.2 = S.2.2.2.2.2.2 → cFe t a x y1 → aV l mX3_takeSign (d + 6) D none 56 [(0, .ref bRd), (1, .ref a), (2, .int (nI k))] [] y1 (fun v y => v = none ∧ cE n B t a (eAw B n k (decide (S.2.2.2.2.2.2 + 1 ≤ 64)) (eKn S1)) y ∧ cFe t a x y) := by
    intro S1 y1 E1 z1 w1 n1 F1
    have ek := E1.2.2.2.2.2
    rw [n1] at ek
    have k2 := cE_kn hA E1
    rw [n1] at k2
    obtain ⟨Y, hY⟩ : ∃ Y, Y = aWr y1 t 18 (nI (S.2.2.2.2.2.2 + 1)) := ⟨_, rfl⟩
    rw [← hY] at k2
    have Y18 : Y.1 t 18 = nI (S.2.2.2.2.2.2 + 1) := by rw [hY, aWr_s]
    by_cases g : S.2.2.2.2.2.2 + 1 ≤ 64
    · rw [decide_eq_true g]
      refine a_aload_n (i := 0) dX3_takeSign_56 rfl rfl ?_
      refine gX3_21 rfl dX3_takeSign_57 (isRd_0 hD) ?_
      rw [E1.1.2.1]
      refine a_dup dX3_takeSign_60 rfl ?_
      refine gX3_237 rfl dX3_takeSign_61 (isT_0 hD ht) ?_
      rw [ek]
      refine a_iconst (v := 1) dX3_takeSign_64 (by decide) ?_
      refine a_iadd dX3_takeSign_65 ?_
      rw [nI_1]
      refine pX3_237 rfl dX3_takeSign_66 (isT_0 hD ht) ?_
      rw [← hY]
      refine a_aload_n (i := 0) dX3_takeSign_69 rfl rfl ?_
      refine a_iload_n (i := 2) dX3_takeSign_70 rfl rfl ?_
      refine a_aload_n (i := 0) dX3_takeSign_71 rfl rfl ?_
      refine gX3_21 rfl dX3_takeSign_72 (isRd_0 hD) ?_
      rw [k2.1.1.2.1]
      refine gX3_237 rfl dX3_takeSign_75 (isT_0 hD ht) ?_
      rw [Y18]
      refine a_bipush (v := 64) dX3_takeSign_78 (by decide) ?_
      refine a_icmp_gt (tg := 87) dX3_takeSign_80 (by decide) (fun c_80 => ?_) (fun c_80 => ?_)
      · exact absurd c_80 (nI_nlt (a := 64) g (by decide))
      · refine a_iconst (v := 1) dX3_takeSign_83 (by decide) ?_
        refine a_goto (tg := 88) dX3_takeSign_84 (by decide) ?_
        refine kgX3_233 rfl dX3_takeSign_88 (Nat.le_of_ble_eq_true rfl) (isRd_0 hD) (c_X3_await (k := k) (al := true) hD hA k2.1 z1 w1) ?_
        rintro v y2 ⟨rfl, E2, F2⟩
        exact a_vret dX3_takeSign_91 (by exact ⟨rfl, E2, cFe_t F1 (cFe_t k2.2 F2)⟩)
    · rw [decide_eq_false g]
      refine a_aload_n (i := 0) dX3_takeSign_56 rfl rfl ?_
      refine gX3_21 rfl dX3_takeSign_57 (isRd_0 hD) ?_
      rw [E1.1.2.1]
      refine a_dup dX3_takeSign_60 rfl ?_
      refine gX3_237 rfl dX3_takeSign_61 (isT_0 hD ht) ?_
      rw [ek]
      refine a_iconst (v := 1) dX3_takeSign_64 (by decide) ?_
      refine a_iadd dX3_takeSign_65 ?_
      rw [nI_1]
      refine pX3_237 rfl dX3_takeSign_66 (isT_0 hD ht) ?_
      rw [← hY]
      refine a_aload_n (i := 0) dX3_takeSign_69 rfl rfl ?_
      refine a_iload_n (i := 2) dX3_takeSign_70 rfl rfl ?_
      refine a_aload_n (i := 0) dX3_takeSign_71 rfl rfl ?_
      refine gX3_21 rfl dX3_takeSign_72 (isRd_0 hD) ?_
      rw [k2.1.1.2.1]
      refine gX3_237 rfl dX3_takeSign_75 (isT_0 hD ht) ?_
      rw [Y18]
      refine a_bipush (v := 64) dX3_takeSign_78 (by decide) ?_
      refine a_icmp_gt (tg := 87) dX3_takeSign_80 (by decide) (fun c_80 => ?_) (fun c_80 => ?_)
      · refine a_iconst (v := 0) dX3_takeSign_87 (by decide) ?_
        refine kgX3_233 rfl dX3_takeSign_88 (Nat.le_of_ble_eq_true rfl) (isRd_0 hD) (c_X3_await (k := k) (al := false) hD hA k2.1 z1 w1) ?_
        rintro v y2 ⟨rfl, E2, F2⟩
        exact a_vret dX3_takeSign_91 (by exact ⟨rfl, E2, cFe_t F1 (cFe_t k2.2 F2)⟩)
      · exact absurd (nI_lt (a := 64) (by omega) (by omega)) c_80
  unfold eSg
  by_cases c4 : kBd k = 4
  · rw [if_pos c4]
    have k4 : nI (kBd k) = 4 := by rw [c4]; rfl
    have wl : (eRl 5 S).2.2.1 ≤ S.2.2.1 := rel_le _ _ _ _
    by_cases w0 : (eRl 5 S).2.2.1 = 0
    · rw [if_neg (fun e => by have := e.2.1; omega)]
      refine a_iload_n (i := 2) dX3_takeSign_0 rfl rfl ?_
      refine kX3_220 rfl dX3_takeSign_1 (Nat.le_of_ble_eq_true rfl) (c_X3_binding) ?_
      rw [kb, k4]
      refine a_istore_n (i := 3) dX3_takeSign_4 rfl (by decide) ?_
      refine a_aload_n (i := 0) dX3_takeSign_5 rfl rfl ?_
      refine a_aload_n (i := 1) dX3_takeSign_6 rfl rfl ?_
      refine a_iload_n (i := 3) dX3_takeSign_7 rfl rfl ?_
      refine a_iconst (v := 4) dX3_takeSign_8 (by decide) ?_
      refine a_icmp_ne (tg := 16) dX3_takeSign_9 (by decide) (fun c_9 => ?_) (fun c_9 => ?_)
      · exact absurd rfl c_9
      · refine a_iconst (v := 5) dX3_takeSign_12 (by decide) ?_
        refine a_goto (tg := 17) dX3_takeSign_13 (by decide) ?_
        refine kgX3_230 rfl dX3_takeSign_17 (Nat.le_of_ble_eq_true rfl) (isRd_0 hD) (c_X3_release (b := 5) hD hA (by decide) (by decide) h hw hs hL) ?_
        rintro v y1 ⟨rfl, E1, F1⟩
        have w5 : y1.1 bRd 5 = 0 := by rw [E1.2.1, w0]; rfl
        have tt := T (eRl 5 S) y1 E1 h0 (by omega) rfl F1
        refine a_iload_n (i := 3) dX3_takeSign_20 rfl rfl ?_
        refine a_iconst (v := 4) dX3_takeSign_21 (by decide) ?_
        refine a_icmp_ne (tg := 56) dX3_takeSign_22 (by decide) (fun c_22 => ?_) (fun c_22 => ?_)
        · exact absurd rfl c_22
        · refine a_aload_n (i := 0) dX3_takeSign_25 rfl rfl ?_
          refine gX3_210 rfl dX3_takeSign_26 (isRd_0 hD) ?_
          rw [w5]
          refine a_if_le (tg := 56) dX3_takeSign_29 (by decide) (fun c_29 => ?_) (fun c_29 => ?_)
          · exact a_loc _ rfl tt
          · exact absurd (Int32.le_refl _) c_29
    · obtain ⟨w, hw2⟩ : ∃ w, (eRl 5 S).2.2.1 = w + 1 := ⟨(eRl 5 S).2.2.1 - 1, by omega⟩
      obtain ⟨kb2, kb26⟩ := kBc_n (S.2.2.2.1 w) (hs w (by omega))
      by_cases q : kBd (S.2.2.2.1 w) = 4
      · rw [if_pos ⟨c4, by omega, by rw [hw2]; exact q⟩]
        refine a_iload_n (i := 2) dX3_takeSign_0 rfl rfl ?_
        refine kX3_220 rfl dX3_takeSign_1 (Nat.le_of_ble_eq_true rfl) (c_X3_binding) ?_
        rw [kb, k4]
        refine a_istore_n (i := 3) dX3_takeSign_4 rfl (by decide) ?_
        refine a_aload_n (i := 0) dX3_takeSign_5 rfl rfl ?_
        refine a_aload_n (i := 1) dX3_takeSign_6 rfl rfl ?_
        refine a_iload_n (i := 3) dX3_takeSign_7 rfl rfl ?_
        refine a_iconst (v := 4) dX3_takeSign_8 (by decide) ?_
        refine a_icmp_ne (tg := 16) dX3_takeSign_9 (by decide) (fun c_9 => ?_) (fun c_9 => ?_)
        · exact absurd rfl c_9
        · refine a_iconst (v := 5) dX3_takeSign_12 (by decide) ?_
          refine a_goto (tg := 17) dX3_takeSign_13 (by decide) ?_
          refine kgX3_230 rfl dX3_takeSign_17 (Nat.le_of_ble_eq_true rfl) (isRd_0 hD) (c_X3_release (b := 5) hD hA (by decide) (by decide) h hw hs hL) ?_
          rintro v y1 ⟨rfl, E1, F1⟩
          have w5 : y1.1 bRd 5 = nI (w + 1) := by rw [E1.2.1, hw2]
          have es : y1.1 (bRd + 5) w = nI (S.2.2.2.1 w) := E1.2.2.1 w (by omega)
          have fl := cE_fl (c := 1) hA E1 h0 (by decide) (by decide)
          refine a_iload_n (i := 3) dX3_takeSign_20 rfl rfl ?_
          refine a_iconst (v := 4) dX3_takeSign_21 (by decide) ?_
          refine a_icmp_ne (tg := 56) dX3_takeSign_22 (by decide) (fun c_22 => ?_) (fun c_22 => ?_)
          · exact absurd rfl c_22
          · refine a_aload_n (i := 0) dX3_takeSign_25 rfl rfl ?_
            refine gX3_210 rfl dX3_takeSign_26 (isRd_0 hD) ?_
            rw [w5]
            refine a_if_le (tg := 56) dX3_takeSign_29 (by decide) (fun c_29 => ?_) (fun c_29 => ?_)
            · exact absurd c_29 (nI_nle (by omega) (by omega))
            · refine a_aload_n (i := 0) dX3_takeSign_32 rfl rfl ?_
              refine gX3_25 rfl dX3_takeSign_33 (isRd_0 hD) ?_
              refine a_aload_n (i := 0) dX3_takeSign_36 rfl rfl ?_
              refine gX3_210 rfl dX3_takeSign_37 (isRd_0 hD) ?_
              rw [w5]
              refine a_iconst (v := 1) dX3_takeSign_40 (by decide) ?_
              refine a_isub dX3_takeSign_41 ?_
              rw [nI_pred]
              refine a_ialdN dX3_takeSign_42 (isRd_5 hD) (by first | with_reducible exact rfl | with_reducible exact ix8 _ _ | with_reducible exact ix12 _ _ | exact rfl) (by omega) (by decide) ?_
              rw [es]
              refine kX3_220 rfl dX3_takeSign_43 (Nat.le_of_ble_eq_true rfl) (c_X3_binding) ?_
              rw [kb2, q]
              refine a_iconst (v := 4) dX3_takeSign_46 (by decide) ?_
              refine a_icmp_ne (tg := 56) dX3_takeSign_47 (by decide) (fun c_47 => ?_) (fun c_47 => ?_)
              · exact absurd rfl c_47
              · refine a_aload_n (i := 0) dX3_takeSign_50 rfl rfl ?_
                refine a_iconst (v := 1) dX3_takeSign_51 (by decide) ?_
                refine kX3_77 rfl dX3_takeSign_52 (Nat.le_of_ble_eq_true rfl) (isRd_0 hD) (c_X3_fail (c := 1) hD E1.1.2.2.2 h0) ?_
                exact a_vret dX3_takeSign_55 (by exact ⟨rfl, fl.1, cFe_t F1 fl.2⟩)
      · rw [if_neg (fun e => by have := e.2.2; rw [hw2] at this; exact q this)]
        refine a_iload_n (i := 2) dX3_takeSign_0 rfl rfl ?_
        refine kX3_220 rfl dX3_takeSign_1 (Nat.le_of_ble_eq_true rfl) (c_X3_binding) ?_
        rw [kb, k4]
        refine a_istore_n (i := 3) dX3_takeSign_4 rfl (by decide) ?_
        refine a_aload_n (i := 0) dX3_takeSign_5 rfl rfl ?_
        refine a_aload_n (i := 1) dX3_takeSign_6 rfl rfl ?_
        refine a_iload_n (i := 3) dX3_takeSign_7 rfl rfl ?_
        refine a_iconst (v := 4) dX3_takeSign_8 (by decide) ?_
        refine a_icmp_ne (tg := 16) dX3_takeSign_9 (by decide) (fun c_9 => ?_) (fun c_9 => ?_)
        · exact absurd rfl c_9
        · refine a_iconst (v := 5) dX3_takeSign_12 (by decide) ?_
          refine a_goto (tg := 17) dX3_takeSign_13 (by decide) ?_
          refine kgX3_230 rfl dX3_takeSign_17 (Nat.le_of_ble_eq_true rfl) (isRd_0 hD) (c_X3_release (b := 5) hD hA (by decide) (by decide) h hw hs hL) ?_
          rintro v y1 ⟨rfl, E1, F1⟩
          have w5 : y1.1 bRd 5 = nI (w + 1) := by rw [E1.2.1, hw2]
          have es : y1.1 (bRd + 5) w = nI (S.2.2.2.1 w) := E1.2.2.1 w (by omega)
          have tt := T (eRl 5 S) y1 E1 h0 (by omega) rfl F1
          refine a_iload_n (i := 3) dX3_takeSign_20 rfl rfl ?_
          refine a_iconst (v := 4) dX3_takeSign_21 (by decide) ?_
          refine a_icmp_ne (tg := 56) dX3_takeSign_22 (by decide) (fun c_22 => ?_) (fun c_22 => ?_)
          · exact absurd rfl c_22
          · refine a_aload_n (i := 0) dX3_takeSign_25 rfl rfl ?_
            refine gX3_210 rfl dX3_takeSign_26 (isRd_0 hD) ?_
            rw [w5]
            refine a_if_le (tg := 56) dX3_takeSign_29 (by decide) (fun c_29 => ?_) (fun c_29 => ?_)
            · exact absurd c_29 (nI_nle (by omega) (by omega))
            · refine a_aload_n (i := 0) dX3_takeSign_32 rfl rfl ?_
              refine gX3_25 rfl dX3_takeSign_33 (isRd_0 hD) ?_
              refine a_aload_n (i := 0) dX3_takeSign_36 rfl rfl ?_
              refine gX3_210 rfl dX3_takeSign_37 (isRd_0 hD) ?_
              rw [w5]
              refine a_iconst (v := 1) dX3_takeSign_40 (by decide) ?_
              refine a_isub dX3_takeSign_41 ?_
              rw [nI_pred]
              refine a_ialdN dX3_takeSign_42 (isRd_5 hD) (by first | with_reducible exact rfl | with_reducible exact ix8 _ _ | with_reducible exact ix12 _ _ | exact rfl) (by omega) (by decide) ?_
              rw [es]
              refine kX3_220 rfl dX3_takeSign_43 (Nat.le_of_ble_eq_true rfl) (c_X3_binding) ?_
              rw [kb2]
              refine a_iconst (v := 4) dX3_takeSign_46 (by decide) ?_
              refine a_icmp_ne (tg := 56) dX3_takeSign_47 (by decide) (fun c_47 => ?_) (fun c_47 => ?_)
              · exact a_loc _ rfl tt
              · exact absurd ((nI_eq (b := 4) (by omega) (by decide)).mp c_47) q
  · rw [if_neg c4, if_neg (fun e => c4 e.1)]
    have k4 : ¬ nI (kBd k) = 4 := fun e => c4 ((nI_eq (b := 4) (by omega) (by decide)).mp e)
    have wl : (eRl (kBd k) S).2.2.1 ≤ S.2.2.1 := rel_le _ _ _ _
    refine a_iload_n (i := 2) dX3_takeSign_0 rfl rfl ?_
    refine kX3_220 rfl dX3_takeSign_1 (Nat.le_of_ble_eq_true rfl) (c_X3_binding) ?_
    rw [kb]
    refine a_istore_n (i := 3) dX3_takeSign_4 rfl (by decide) ?_
    refine a_aload_n (i := 0) dX3_takeSign_5 rfl rfl ?_
    refine a_aload_n (i := 1) dX3_takeSign_6 rfl rfl ?_
    refine a_iload_n (i := 3) dX3_takeSign_7 rfl rfl ?_
    refine a_iconst (v := 4) dX3_takeSign_8 (by decide) ?_
    refine a_icmp_ne (tg := 16) dX3_takeSign_9 (by decide) (fun c_9 => ?_) (fun c_9 => ?_)
    · refine a_iload_n (i := 3) dX3_takeSign_16 rfl rfl ?_
      refine kgX3_230 rfl dX3_takeSign_17 (Nat.le_of_ble_eq_true rfl) (isRd_0 hD) (c_X3_release (b := kBd k) hD hA hk1 (by omega) h hw hs hL) ?_
      rintro v y1 ⟨rfl, E1, F1⟩
      have tt := T (eRl (kBd k) S) y1 E1 h0 (by omega) rfl F1
      refine a_iload_n (i := 3) dX3_takeSign_20 rfl rfl ?_
      refine a_iconst (v := 4) dX3_takeSign_21 (by decide) ?_
      refine a_icmp_ne (tg := 56) dX3_takeSign_22 (by decide) (fun c_22 => ?_) (fun c_22 => ?_)
      · exact a_loc _ rfl tt
      · exact absurd c_22 k4
    · exact absurd c_9 k4
set_option maxHeartbeats 4000000 in
set_option maxRecDepth 100000 in
theorem c_X3_takeStart (hD : aDC D) (hA : aLw D t a) (h : cE n B t a S x) (h0 : S.1.2.1 = 0) (hk : k = (tok B n S.1.1).1) (hw : S.2.2.1 ≤ 72) (hs : ∀ j, j < S.2.2.1 → S.2.2.2.1 j < 39) (hL : S.2.2.2.2.1.1 + wcn S.2.2.2.1 S.2.2.1 ≤ S.2.2.2.2.2.2) (hn : S.2.2.2.2.2.2 ≤ 64) (ho : S.2.2.2.2.2.1 ≤ 8) : aCt l mX3_takeStart (d + 6) D [.ref bRd, .ref a, .int (nI k)] x (fun v y => v = none ∧ cE n B t a (eSt B n k S) y ∧ cFe t a x y) := by
  have ht := h.1.1
  obtain ⟨i1, tk1, -⟩ := h.1.2.2.2.2.2.1 h0
  have tk := tok_ok (B := B) i1
  have hk38 : k ≤ 38 := by rw [hk]; exact tk.2.2.2.2.2.1
  obtain ⟨J, e5, e6, eL, e7, e8⟩ := id h
  have fl1 := cE_fl (c := 1) hA h h0 (by decide) (by decide)
  have k2 := cE_kn hA h
  obtain ⟨Y, hY⟩ : ∃ Y, Y = aWr x t 18 (nI (S.2.2.2.2.2.2 + 1)) := ⟨_, rfl⟩
  rw [← hY] at k2
  have Y18 : Y.1 t 18 = nI (S.2.2.2.2.2.2 + 1) := by rw [hY, aWr_s]
  have Y6 : Y.1 bTp 6 = nI (tok B n S.1.1).2.1 := by rw [hY, aWr_n _ _ _ (tr_ne ht (Nat.le_refl t)).1]; exact tk1.2.2.2
  have nk : ∀ c : Nat, c < 39 → ¬ k = c → ¬ nI k = nI c := fun c hc q e => q ((nI_eq (by omega) (by omega)).mp e)
  refine a_met (by decide) (Nat.le_of_ble_eq_true rfl) (fun v y q => Or.inr (Or.inr (Or.inr ⟨rfl, q.1⟩))) ?_
  unfold eSt
  by_cases q24 : k = 24
  · rw [if_pos q24]
    have e24 : nI k = 24 := by rw [q24]; rfl
    have o2 := cE_op hA h
    obtain ⟨Z, hZ⟩ : ∃ Z, Z = aWr x bRd 6 (nI (S.2.2.2.2.2.1 + 1)) := ⟨_, rfl⟩
    rw [← hZ] at o2
    have Z6 : Z.1 bRd 6 = nI (S.2.2.2.2.2.1 + 1) := by rw [hZ, aWr_s]
    rw [e24]
    by_cases g : S.2.2.2.2.2.1 + 1 ≤ 8
    · rw [decide_eq_true g]
      refine a_iload_n (i := 2) dX3_takeStart_0 rfl rfl ?_
      refine a_bipush (v := 24) dX3_takeStart_1 (by decide) ?_
      refine a_icmp_ne (tg := 39) dX3_takeStart_3 (by decide) (fun c_3 => ?_) (fun c_3 => ?_)
      · exact absurd rfl c_3
      · refine a_aload_n (i := 0) dX3_takeStart_6 rfl rfl ?_
        refine a_dup dX3_takeStart_7 rfl ?_
        refine gX3_213 rfl dX3_takeStart_8 (isRd_0 hD) ?_
        rw [e7]
        refine a_iconst (v := 1) dX3_takeStart_11 (by decide) ?_
        refine a_iadd dX3_takeStart_12 ?_
        rw [nI_1]
        refine pX3_213 rfl dX3_takeStart_13 (isRd_0 hD) ?_
        rw [← hZ]
        refine a_aload_n (i := 0) dX3_takeStart_16 rfl rfl ?_
        refine a_bipush (v := 24) dX3_takeStart_17 (by decide) ?_
        refine a_aload_n (i := 0) dX3_takeStart_19 rfl rfl ?_
        refine gX3_213 rfl dX3_takeStart_20 (isRd_0 hD) ?_
        rw [Z6]
        refine a_bipush (v := 8) dX3_takeStart_23 (by decide) ?_
        refine a_icmp_gt (tg := 32) dX3_takeStart_25 (by decide) (fun c_25 => ?_) (fun c_25 => ?_)
        · exact absurd c_25 (nI_nlt (a := 8) g (by decide))
        · refine a_iconst (v := 1) dX3_takeStart_28 (by decide) ?_
          refine a_goto (tg := 33) dX3_takeStart_29 (by decide) ?_
          refine kgX3_233 rfl dX3_takeStart_33 (Nat.le_of_ble_eq_true rfl) (isRd_0 hD) (c_X3_await (k := 24) (al := true) hD hA o2.1 h0 hw) ?_
          rintro v y2 ⟨rfl, E2, F2⟩
          refine a_goto (tg := 203) dX3_takeStart_36 (by decide) ?_
          exact a_vret dX3_takeStart_203 (by exact ⟨rfl, E2, cFe_t o2.2 F2⟩)
    · rw [decide_eq_false g]
      refine a_iload_n (i := 2) dX3_takeStart_0 rfl rfl ?_
      refine a_bipush (v := 24) dX3_takeStart_1 (by decide) ?_
      refine a_icmp_ne (tg := 39) dX3_takeStart_3 (by decide) (fun c_3 => ?_) (fun c_3 => ?_)
      · exact absurd rfl c_3
      · refine a_aload_n (i := 0) dX3_takeStart_6 rfl rfl ?_
        refine a_dup dX3_takeStart_7 rfl ?_
        refine gX3_213 rfl dX3_takeStart_8 (isRd_0 hD) ?_
        rw [e7]
        refine a_iconst (v := 1) dX3_takeStart_11 (by decide) ?_
        refine a_iadd dX3_takeStart_12 ?_
        rw [nI_1]
        refine pX3_213 rfl dX3_takeStart_13 (isRd_0 hD) ?_
        rw [← hZ]
        refine a_aload_n (i := 0) dX3_takeStart_16 rfl rfl ?_
        refine a_bipush (v := 24) dX3_takeStart_17 (by decide) ?_
        refine a_aload_n (i := 0) dX3_takeStart_19 rfl rfl ?_
        refine gX3_213 rfl dX3_takeStart_20 (isRd_0 hD) ?_
        rw [Z6]
        refine a_bipush (v := 8) dX3_takeStart_23 (by decide) ?_
        refine a_icmp_gt (tg := 32) dX3_takeStart_25 (by decide) (fun c_25 => ?_) (fun c_25 => ?_)
        · refine a_iconst (v := 0) dX3_takeStart_32 (by decide) ?_
          refine kgX3_233 rfl dX3_takeStart_33 (Nat.le_of_ble_eq_true rfl) (isRd_0 hD) (c_X3_await (k := 24) (al := false) hD hA o2.1 h0 hw) ?_
          rintro v y2 ⟨rfl, E2, F2⟩
          refine a_goto (tg := 203) dX3_takeStart_36 (by decide) ?_
          exact a_vret dX3_takeStart_203 (by exact ⟨rfl, E2, cFe_t o2.2 F2⟩)
        · exact absurd (nI_lt (a := 8) (by omega) (by omega)) c_25
  · rw [if_neg q24]
    have n24 := nk 24 (by decide) q24
    by_cases q14 : k = 14
    · rw [if_pos q14]
      have e14 : nI k = 14 := by rw [q14]; rfl
      have n14 : ¬ (14 : Int32) = 24 := by decide
      rw [e14]
      have T : aV l mX3_takeStart (d + 6) D none 76 [(0, .ref bRd), (1, .ref a), (2, .int 14)] [] x (fun v y => v = none ∧ cE n B t a (eAw B n 14 (decide (S.2.2.2.2.2.2 + 1 ≤ 64)) (eKn S)) y ∧ cFe t a x y) := by
        by_cases g : S.2.2.2.2.2.2 + 1 ≤ 64
        · rw [decide_eq_true g]
          refine a_aload_n (i := 0) dX3_takeStart_76 rfl rfl ?_
          refine gX3_21 rfl dX3_takeStart_77 (isRd_0 hD) ?_
          rw [J.2.1]
          refine a_dup dX3_takeStart_80 rfl ?_
          refine gX3_237 rfl dX3_takeStart_81 (isT_0 hD ht) ?_
          rw [e8]
          refine a_iconst (v := 1) dX3_takeStart_84 (by decide) ?_
          refine a_iadd dX3_takeStart_85 ?_
          rw [nI_1]
          refine pX3_237 rfl dX3_takeStart_86 (isT_0 hD ht) ?_
          rw [← hY]
          refine a_aload_n (i := 0) dX3_takeStart_89 rfl rfl ?_
          refine a_bipush (v := 14) dX3_takeStart_90 (by decide) ?_
          refine a_aload_n (i := 0) dX3_takeStart_92 rfl rfl ?_
          refine gX3_21 rfl dX3_takeStart_93 (isRd_0 hD) ?_
          rw [k2.1.1.2.1]
          refine gX3_237 rfl dX3_takeStart_96 (isT_0 hD ht) ?_
          rw [Y18]
          refine a_bipush (v := 64) dX3_takeStart_99 (by decide) ?_
          refine a_icmp_gt (tg := 108) dX3_takeStart_101 (by decide) (fun c_101 => ?_) (fun c_101 => ?_)
          · exact absurd c_101 (nI_nlt (a := 64) g (by decide))
          · refine a_iconst (v := 1) dX3_takeStart_104 (by decide) ?_
            refine a_goto (tg := 109) dX3_takeStart_105 (by decide) ?_
            refine kgX3_233 rfl dX3_takeStart_109 (Nat.le_of_ble_eq_true rfl) (isRd_0 hD) (c_X3_await (k := 14) (al := true) hD hA k2.1 h0 hw) ?_
            rintro v y2 ⟨rfl, E2, F2⟩
            refine a_goto (tg := 203) dX3_takeStart_112 (by decide) ?_
            exact a_vret dX3_takeStart_203 (by exact ⟨rfl, E2, cFe_t k2.2 F2⟩)
        · rw [decide_eq_false g]
          refine a_aload_n (i := 0) dX3_takeStart_76 rfl rfl ?_
          refine gX3_21 rfl dX3_takeStart_77 (isRd_0 hD) ?_
          rw [J.2.1]
          refine a_dup dX3_takeStart_80 rfl ?_
          refine gX3_237 rfl dX3_takeStart_81 (isT_0 hD ht) ?_
          rw [e8]
          refine a_iconst (v := 1) dX3_takeStart_84 (by decide) ?_
          refine a_iadd dX3_takeStart_85 ?_
          rw [nI_1]
          refine pX3_237 rfl dX3_takeStart_86 (isT_0 hD ht) ?_
          rw [← hY]
          refine a_aload_n (i := 0) dX3_takeStart_89 rfl rfl ?_
          refine a_bipush (v := 14) dX3_takeStart_90 (by decide) ?_
          refine a_aload_n (i := 0) dX3_takeStart_92 rfl rfl ?_
          refine gX3_21 rfl dX3_takeStart_93 (isRd_0 hD) ?_
          rw [k2.1.1.2.1]
          refine gX3_237 rfl dX3_takeStart_96 (isT_0 hD ht) ?_
          rw [Y18]
          refine a_bipush (v := 64) dX3_takeStart_99 (by decide) ?_
          refine a_icmp_gt (tg := 108) dX3_takeStart_101 (by decide) (fun c_101 => ?_) (fun c_101 => ?_)
          · refine a_iconst (v := 0) dX3_takeStart_108 (by decide) ?_
            refine kgX3_233 rfl dX3_takeStart_109 (Nat.le_of_ble_eq_true rfl) (isRd_0 hD) (c_X3_await (k := 14) (al := false) hD hA k2.1 h0 hw) ?_
            rintro v y2 ⟨rfl, E2, F2⟩
            refine a_goto (tg := 203) dX3_takeStart_112 (by decide) ?_
            exact a_vret dX3_takeStart_203 (by exact ⟨rfl, E2, cFe_t k2.2 F2⟩)
          · exact absurd (nI_lt (a := 64) (by omega) (by omega)) c_101
      by_cases w0 : S.2.2.1 = 0
      · rw [if_neg (fun e => by have := e.1; omega)]
        have w5 : x.1 bRd 5 = 0 := by rw [e5, w0]; rfl
        refine a_iload_n (i := 2) dX3_takeStart_0 rfl rfl ?_
        refine a_bipush (v := 24) dX3_takeStart_1 (by decide) ?_
        refine a_icmp_ne (tg := 39) dX3_takeStart_3 (by decide) (fun c_3 => ?_) (fun c_3 => ?_)
        · refine a_iload_n (i := 2) dX3_takeStart_39 rfl rfl ?_
          refine a_bipush (v := 14) dX3_takeStart_40 (by decide) ?_
          refine a_icmp_ne (tg := 115) dX3_takeStart_42 (by decide) (fun c_42 => ?_) (fun c_42 => ?_)
          · exact absurd rfl c_42
          · refine a_aload_n (i := 0) dX3_takeStart_45 rfl rfl ?_
            refine gX3_210 rfl dX3_takeStart_46 (isRd_0 hD) ?_
            rw [w5]
            refine a_if_le (tg := 76) dX3_takeStart_49 (by decide) (fun c_49 => ?_) (fun c_49 => ?_)
            · exact a_loc _ rfl T
            · exact absurd (Int32.le_refl _) c_49
        · exact absurd c_3 n14
      · obtain ⟨w, hw2⟩ : ∃ w, S.2.2.1 = w + 1 := ⟨S.2.2.1 - 1, by omega⟩
        have w5 : x.1 bRd 5 = nI (w + 1) := by rw [e5, hw2]
        have es : x.1 (bRd + 5) w = nI (S.2.2.2.1 w) := e6 w (by omega)
        obtain ⟨kb2, kb26⟩ := kBc_n (S.2.2.2.1 w) (hs w (by omega))
        by_cases q : 3 < kBd (S.2.2.2.1 w)
        · rw [if_pos ⟨by omega, by rw [hw2]; exact q⟩]
          refine a_iload_n (i := 2) dX3_takeStart_0 rfl rfl ?_
          refine a_bipush (v := 24) dX3_takeStart_1 (by decide) ?_
          refine a_icmp_ne (tg := 39) dX3_takeStart_3 (by decide) (fun c_3 => ?_) (fun c_3 => ?_)
          · refine a_iload_n (i := 2) dX3_takeStart_39 rfl rfl ?_
            refine a_bipush (v := 14) dX3_takeStart_40 (by decide) ?_
            refine a_icmp_ne (tg := 115) dX3_takeStart_42 (by decide) (fun c_42 => ?_) (fun c_42 => ?_)
            · exact absurd rfl c_42
            · refine a_aload_n (i := 0) dX3_takeStart_45 rfl rfl ?_
              refine gX3_210 rfl dX3_takeStart_46 (isRd_0 hD) ?_
              rw [w5]
              refine a_if_le (tg := 76) dX3_takeStart_49 (by decide) (fun c_49 => ?_) (fun c_49 => ?_)
              · exact absurd c_49 (nI_nle (by omega) (by omega))
              · refine a_aload_n (i := 0) dX3_takeStart_52 rfl rfl ?_
                refine gX3_25 rfl dX3_takeStart_53 (isRd_0 hD) ?_
                refine a_aload_n (i := 0) dX3_takeStart_56 rfl rfl ?_
                refine gX3_210 rfl dX3_takeStart_57 (isRd_0 hD) ?_
                rw [w5]
                refine a_iconst (v := 1) dX3_takeStart_60 (by decide) ?_
                refine a_isub dX3_takeStart_61 ?_
                rw [nI_pred]
                refine a_ialdN dX3_takeStart_62 (isRd_5 hD) (by first | with_reducible exact rfl | with_reducible exact ix8 _ _ | with_reducible exact ix12 _ _ | exact rfl) (by omega) (by decide) ?_
                rw [es]
                refine kX3_220 rfl dX3_takeStart_63 (Nat.le_of_ble_eq_true rfl) (c_X3_binding) ?_
                rw [kb2]
                refine a_iconst (v := 3) dX3_takeStart_66 (by decide) ?_
                refine a_icmp_le (tg := 76) dX3_takeStart_67 (by decide) (fun c_67 => ?_) (fun c_67 => ?_)
                · exact absurd c_67 (nI_ge (a := 3) q (by omega))
                · refine a_aload_n (i := 0) dX3_takeStart_70 rfl rfl ?_
                  refine a_iconst (v := 1) dX3_takeStart_71 (by decide) ?_
                  refine kX3_77 rfl dX3_takeStart_72 (Nat.le_of_ble_eq_true rfl) (isRd_0 hD) (c_X3_fail (c := 1) hD J.2.2.2 h0) ?_
                  exact a_vret dX3_takeStart_75 (by exact ⟨rfl, fl1⟩)
          · exact absurd c_3 n14
        · rw [if_neg (fun e => by have := e.2; rw [hw2] at this; exact q this)]
          refine a_iload_n (i := 2) dX3_takeStart_0 rfl rfl ?_
          refine a_bipush (v := 24) dX3_takeStart_1 (by decide) ?_
          refine a_icmp_ne (tg := 39) dX3_takeStart_3 (by decide) (fun c_3 => ?_) (fun c_3 => ?_)
          · refine a_iload_n (i := 2) dX3_takeStart_39 rfl rfl ?_
            refine a_bipush (v := 14) dX3_takeStart_40 (by decide) ?_
            refine a_icmp_ne (tg := 115) dX3_takeStart_42 (by decide) (fun c_42 => ?_) (fun c_42 => ?_)
            · exact absurd rfl c_42
            · refine a_aload_n (i := 0) dX3_takeStart_45 rfl rfl ?_
              refine gX3_210 rfl dX3_takeStart_46 (isRd_0 hD) ?_
              rw [w5]
              refine a_if_le (tg := 76) dX3_takeStart_49 (by decide) (fun c_49 => ?_) (fun c_49 => ?_)
              · exact absurd c_49 (nI_nle (by omega) (by omega))
              · refine a_aload_n (i := 0) dX3_takeStart_52 rfl rfl ?_
                refine gX3_25 rfl dX3_takeStart_53 (isRd_0 hD) ?_
                refine a_aload_n (i := 0) dX3_takeStart_56 rfl rfl ?_
                refine gX3_210 rfl dX3_takeStart_57 (isRd_0 hD) ?_
                rw [w5]
                refine a_iconst (v := 1) dX3_takeStart_60 (by decide) ?_
                refine a_isub dX3_takeStart_61 ?_
                rw [nI_pred]
                refine a_ialdN dX3_takeStart_62 (isRd_5 hD) (by first | with_reducible exact rfl | with_reducible exact ix8 _ _ | with_reducible exact ix12 _ _ | exact rfl) (by omega) (by decide) ?_
                rw [es]
                refine kX3_220 rfl dX3_takeStart_63 (Nat.le_of_ble_eq_true rfl) (c_X3_binding) ?_
                rw [kb2]
                refine a_iconst (v := 3) dX3_takeStart_66 (by decide) ?_
                refine a_icmp_le (tg := 76) dX3_takeStart_67 (by decide) (fun c_67 => ?_) (fun c_67 => ?_)
                · exact a_loc _ rfl T
                · exact absurd (nI_le (b := 3) (by omega) (by decide)) c_67
          · exact absurd c_3 n14
    · rw [if_neg q14]
      have n14 := nk 14 (by decide) q14
      have fl2 := cE_fl (c := 2) hA k2.1 h0 (by decide) (by decide)
      have V : 64 < S.2.2.2.2.2.2 + 1 ∨ ¬ 64 < S.2.2.2.2.2.2 + 1 := Nat.lt_or_ge _ _ |>.imp id (fun g => by omega)
      have App : ¬ 64 < S.2.2.2.2.2.2 + 1 → aV l mX3_takeStart (d + 6) D none 183 [(0, .ref bRd), (1, .ref a), (2, .int (nI k))] [] Y (fun v y => v = none ∧ cE n B t a (eAp k (tok B n S.1.1).2.1 (eKn S)) y ∧ cFe t a x y) := by
        intro g
        obtain ⟨a1, a2, a3, a4⟩ := id hA
        obtain ⟨J2, g5, g6, gL, g7, g8⟩ := id k2.1
        have nW : ∀ m j, ¬ m = a → ¬ m = a + 10 → ¬ m = a + 20 → (wApp Y a S.2.2.2.2.1.1 (nI k) (nI (tok B n S.1.1).2.1)).1 m j = Y.1 m j := fun m j q1 q2 q3 => by unfold wApp; rw [aWr_n _ _ _ q1, aWr_n _ _ _ q3, aWr_n _ _ _ q2]
        have b1 := fun m (hm : t ≤ m) => (bRd_5 ht hm).1
        have b2 := fun m (hm : t ≤ m) => (bRd_5 ht hm).2
        have E2 : cE n B t a (eAp k (tok B n S.1.1).2.1 (eKn S)) (wApp Y a S.2.2.2.2.1.1 (nI k) (nI (tok B n S.1.1).2.1)) := by
          refine ⟨cJ_ap J2 (by omega), ?_, fun j hj => ?_, rLw_ap gL, ?_, ?_⟩
          · rw [nW _ _ (b1 a (by omega)) (b1 (a + 10) (by omega)) (b1 (a + 20) (by omega))]; exact g5
          · rw [nW _ _ (b2 a (by omega)) (b2 (a + 10) (by omega)) (b2 (a + 20) (by omega))]; exact g6 j hj
          · rw [nW _ _ (b1 a (by omega)) (b1 (a + 10) (by omega)) (b1 (a + 20) (by omega))]; exact g7
          · rw [nW _ _ (by omega) (by omega) (by omega)]; exact g8
        refine a_aload_n (i := 1) dX3_takeStart_183 rfl rfl ?_
        refine a_iload_n (i := 2) dX3_takeStart_184 rfl rfl ?_
        refine a_aload_n (i := 0) dX3_takeStart_185 rfl rfl ?_
        refine gX3_12 rfl dX3_takeStart_186 (isRd_0 hD) ?_
        refine gX3_102 rfl dX3_takeStart_189 (isTp_0 hD) ?_
        rw [Y6]
        refine kX3_240 rfl dX3_takeStart_192 (Nat.le_of_ble_eq_true rfl) (a2) (c_X2_append (s := S.2.2.2.2.1.1) a2 a3 a4 gL.1 (by omega)) ?_
        refine a_goto (tg := 203) dX3_takeStart_195 (by decide) ?_
        exact a_vret dX3_takeStart_203 (by exact ⟨rfl, E2, cFe_t k2.2 cFe_ap⟩)
      by_cases q23 : k = 23
      · rw [if_pos (Or.inl q23)]
        have e23 : nI k = 23 := by rw [q23]; rfl
        rcases V with g | g
        · rw [if_pos (Or.inl g)]
          refine a_iload_n (i := 2) dX3_takeStart_0 rfl rfl ?_
          refine a_bipush (v := 24) dX3_takeStart_1 (by decide) ?_
          refine a_icmp_ne (tg := 39) dX3_takeStart_3 (by decide) (fun c_3 => ?_) (fun c_3 => ?_)
          · refine a_iload_n (i := 2) dX3_takeStart_39 rfl rfl ?_
            refine a_bipush (v := 14) dX3_takeStart_40 (by decide) ?_
            refine a_icmp_ne (tg := 115) dX3_takeStart_42 (by decide) (fun c_42 => ?_) (fun c_42 => ?_)
            · refine a_iload_n (i := 2) dX3_takeStart_115 rfl rfl ?_
              refine a_bipush (v := 23) dX3_takeStart_116 (by decide) ?_
              refine a_icmp_eq (tg := 133) dX3_takeStart_118 (by decide) (fun c_118 => ?_) (fun c_118 => ?_)
              · refine a_aload_n (i := 0) dX3_takeStart_133 rfl rfl ?_
                refine gX3_21 rfl dX3_takeStart_134 (isRd_0 hD) ?_
                rw [J.2.1]
                refine a_dup dX3_takeStart_137 rfl ?_
                refine gX3_237 rfl dX3_takeStart_138 (isT_0 hD ht) ?_
                rw [e8]
                refine a_iconst (v := 1) dX3_takeStart_141 (by decide) ?_
                refine a_iadd dX3_takeStart_142 ?_
                rw [nI_1]
                refine pX3_237 rfl dX3_takeStart_143 (isT_0 hD ht) ?_
                rw [← hY]
                refine a_aload_n (i := 0) dX3_takeStart_146 rfl rfl ?_
                refine gX3_21 rfl dX3_takeStart_147 (isRd_0 hD) ?_
                rw [k2.1.1.2.1]
                refine gX3_237 rfl dX3_takeStart_150 (isT_0 hD ht) ?_
                rw [Y18]
                refine a_bipush (v := 64) dX3_takeStart_153 (by decide) ?_
                refine a_icmp_gt (tg := 177) dX3_takeStart_155 (by decide) (fun c_155 => ?_) (fun c_155 => ?_)
                · refine a_aload_n (i := 0) dX3_takeStart_177 rfl rfl ?_
                  refine a_iconst (v := 2) dX3_takeStart_178 (by decide) ?_
                  refine kX3_77 rfl dX3_takeStart_179 (Nat.le_of_ble_eq_true rfl) (isRd_0 hD) (c_X3_fail (c := 2) hD k2.1.1.2.2.2 h0) ?_
                  exact a_vret dX3_takeStart_182 (by exact ⟨rfl, fl2.1, cFe_t k2.2 fl2.2⟩)
                · exact absurd (nI_lt (a := 64) g (by omega)) c_155
              · exact absurd e23 c_118
            · exact absurd c_42 n14
          · exact absurd c_3 n24
        · by_cases v9 : 9999 < (tok B n S.1.1).2.1
          · rw [if_pos (Or.inr ⟨q23, v9⟩)]
            refine a_iload_n (i := 2) dX3_takeStart_0 rfl rfl ?_
            refine a_bipush (v := 24) dX3_takeStart_1 (by decide) ?_
            refine a_icmp_ne (tg := 39) dX3_takeStart_3 (by decide) (fun c_3 => ?_) (fun c_3 => ?_)
            · refine a_iload_n (i := 2) dX3_takeStart_39 rfl rfl ?_
              refine a_bipush (v := 14) dX3_takeStart_40 (by decide) ?_
              refine a_icmp_ne (tg := 115) dX3_takeStart_42 (by decide) (fun c_42 => ?_) (fun c_42 => ?_)
              · refine a_iload_n (i := 2) dX3_takeStart_115 rfl rfl ?_
                refine a_bipush (v := 23) dX3_takeStart_116 (by decide) ?_
                refine a_icmp_eq (tg := 133) dX3_takeStart_118 (by decide) (fun c_118 => ?_) (fun c_118 => ?_)
                · refine a_aload_n (i := 0) dX3_takeStart_133 rfl rfl ?_
                  refine gX3_21 rfl dX3_takeStart_134 (isRd_0 hD) ?_
                  rw [J.2.1]
                  refine a_dup dX3_takeStart_137 rfl ?_
                  refine gX3_237 rfl dX3_takeStart_138 (isT_0 hD ht) ?_
                  rw [e8]
                  refine a_iconst (v := 1) dX3_takeStart_141 (by decide) ?_
                  refine a_iadd dX3_takeStart_142 ?_
                  rw [nI_1]
                  refine pX3_237 rfl dX3_takeStart_143 (isT_0 hD ht) ?_
                  rw [← hY]
                  refine a_aload_n (i := 0) dX3_takeStart_146 rfl rfl ?_
                  refine gX3_21 rfl dX3_takeStart_147 (isRd_0 hD) ?_
                  rw [k2.1.1.2.1]
                  refine gX3_237 rfl dX3_takeStart_150 (isT_0 hD ht) ?_
                  rw [Y18]
                  refine a_bipush (v := 64) dX3_takeStart_153 (by decide) ?_
                  refine a_icmp_gt (tg := 177) dX3_takeStart_155 (by decide) (fun c_155 => ?_) (fun c_155 => ?_)
                  · exact absurd c_155 (nI_nlt (a := 64) (by omega) (by decide))
                  · refine a_iload_n (i := 2) dX3_takeStart_158 rfl rfl ?_
                    refine a_bipush (v := 23) dX3_takeStart_159 (by decide) ?_
                    refine a_icmp_ne (tg := 183) dX3_takeStart_161 (by decide) (fun c_161 => ?_) (fun c_161 => ?_)
                    · exact absurd e23 c_161
                    · refine a_aload_n (i := 0) dX3_takeStart_164 rfl rfl ?_
                      refine gX3_12 rfl dX3_takeStart_165 (isRd_0 hD) ?_
                      refine gX3_102 rfl dX3_takeStart_168 (isTp_0 hD) ?_
                      rw [Y6]
                      refine a_sipush (v := 9999) dX3_takeStart_171 (by decide) ?_
                      refine a_icmp_le (tg := 183) dX3_takeStart_174 (by decide) (fun c_174 => ?_) (fun c_174 => ?_)
                      · exact absurd c_174 (nI_ge (a := 9999) v9 (by have := tk.2.2.2.2.2.2.1; omega))
                      · refine a_aload_n (i := 0) dX3_takeStart_177 rfl rfl ?_
                        refine a_iconst (v := 2) dX3_takeStart_178 (by decide) ?_
                        refine kX3_77 rfl dX3_takeStart_179 (Nat.le_of_ble_eq_true rfl) (isRd_0 hD) (c_X3_fail (c := 2) hD k2.1.1.2.2.2 h0) ?_
                        exact a_vret dX3_takeStart_182 (by exact ⟨rfl, fl2.1, cFe_t k2.2 fl2.2⟩)
                · exact absurd e23 c_118
              · exact absurd c_42 n14
            · exact absurd c_3 n24
          · rw [if_neg (fun e => by rcases e with e | e; exact g e; exact v9 e.2)]
            have ap := App g
            refine a_iload_n (i := 2) dX3_takeStart_0 rfl rfl ?_
            refine a_bipush (v := 24) dX3_takeStart_1 (by decide) ?_
            refine a_icmp_ne (tg := 39) dX3_takeStart_3 (by decide) (fun c_3 => ?_) (fun c_3 => ?_)
            · refine a_iload_n (i := 2) dX3_takeStart_39 rfl rfl ?_
              refine a_bipush (v := 14) dX3_takeStart_40 (by decide) ?_
              refine a_icmp_ne (tg := 115) dX3_takeStart_42 (by decide) (fun c_42 => ?_) (fun c_42 => ?_)
              · refine a_iload_n (i := 2) dX3_takeStart_115 rfl rfl ?_
                refine a_bipush (v := 23) dX3_takeStart_116 (by decide) ?_
                refine a_icmp_eq (tg := 133) dX3_takeStart_118 (by decide) (fun c_118 => ?_) (fun c_118 => ?_)
                · refine a_aload_n (i := 0) dX3_takeStart_133 rfl rfl ?_
                  refine gX3_21 rfl dX3_takeStart_134 (isRd_0 hD) ?_
                  rw [J.2.1]
                  refine a_dup dX3_takeStart_137 rfl ?_
                  refine gX3_237 rfl dX3_takeStart_138 (isT_0 hD ht) ?_
                  rw [e8]
                  refine a_iconst (v := 1) dX3_takeStart_141 (by decide) ?_
                  refine a_iadd dX3_takeStart_142 ?_
                  rw [nI_1]
                  refine pX3_237 rfl dX3_takeStart_143 (isT_0 hD ht) ?_
                  rw [← hY]
                  refine a_aload_n (i := 0) dX3_takeStart_146 rfl rfl ?_
                  refine gX3_21 rfl dX3_takeStart_147 (isRd_0 hD) ?_
                  rw [k2.1.1.2.1]
                  refine gX3_237 rfl dX3_takeStart_150 (isT_0 hD ht) ?_
                  rw [Y18]
                  refine a_bipush (v := 64) dX3_takeStart_153 (by decide) ?_
                  refine a_icmp_gt (tg := 177) dX3_takeStart_155 (by decide) (fun c_155 => ?_) (fun c_155 => ?_)
                  · exact absurd c_155 (nI_nlt (a := 64) (by omega) (by decide))
                  · refine a_iload_n (i := 2) dX3_takeStart_158 rfl rfl ?_
                    refine a_bipush (v := 23) dX3_takeStart_159 (by decide) ?_
                    refine a_icmp_ne (tg := 183) dX3_takeStart_161 (by decide) (fun c_161 => ?_) (fun c_161 => ?_)
                    · exact absurd e23 c_161
                    · refine a_aload_n (i := 0) dX3_takeStart_164 rfl rfl ?_
                      refine gX3_12 rfl dX3_takeStart_165 (isRd_0 hD) ?_
                      refine gX3_102 rfl dX3_takeStart_168 (isTp_0 hD) ?_
                      rw [Y6]
                      refine a_sipush (v := 9999) dX3_takeStart_171 (by decide) ?_
                      refine a_icmp_le (tg := 183) dX3_takeStart_174 (by decide) (fun c_174 => ?_) (fun c_174 => ?_)
                      · exact a_loc _ rfl ap
                      · exact absurd (nI_le (b := 9999) (by omega) (by decide)) c_174
                · exact absurd e23 c_118
              · exact absurd c_42 n14
            · exact absurd c_3 n24
      · have n23 := nk 23 (by decide) q23
        by_cases q15 : 15 ≤ k ∧ k ≤ 21
        · rw [if_pos (Or.inr q15)]
          rcases V with g | g
          · rw [if_pos (Or.inl g)]
            refine a_iload_n (i := 2) dX3_takeStart_0 rfl rfl ?_
            refine a_bipush (v := 24) dX3_takeStart_1 (by decide) ?_
            refine a_icmp_ne (tg := 39) dX3_takeStart_3 (by decide) (fun c_3 => ?_) (fun c_3 => ?_)
            · refine a_iload_n (i := 2) dX3_takeStart_39 rfl rfl ?_
              refine a_bipush (v := 14) dX3_takeStart_40 (by decide) ?_
              refine a_icmp_ne (tg := 115) dX3_takeStart_42 (by decide) (fun c_42 => ?_) (fun c_42 => ?_)
              · refine a_iload_n (i := 2) dX3_takeStart_115 rfl rfl ?_
                refine a_bipush (v := 23) dX3_takeStart_116 (by decide) ?_
                refine a_icmp_eq (tg := 133) dX3_takeStart_118 (by decide) (fun c_118 => ?_) (fun c_118 => ?_)
                · exact absurd c_118 n23
                · refine a_iload_n (i := 2) dX3_takeStart_121 rfl rfl ?_
                  refine a_bipush (v := 15) dX3_takeStart_122 (by decide) ?_
                  refine a_icmp_lt (tg := 198) dX3_takeStart_124 (by decide) (fun c_124 => ?_) (fun c_124 => ?_)
                  · exact absurd c_124 (nI_nlt (b := 15) q15.1 (by omega))
                  · refine a_iload_n (i := 2) dX3_takeStart_127 rfl rfl ?_
                    refine a_bipush (v := 21) dX3_takeStart_128 (by decide) ?_
                    refine a_icmp_gt (tg := 198) dX3_takeStart_130 (by decide) (fun c_130 => ?_) (fun c_130 => ?_)
                    · exact absurd c_130 (nI_nlt (a := 21) q15.2 (by decide))
                    · refine a_aload_n (i := 0) dX3_takeStart_133 rfl rfl ?_
                      refine gX3_21 rfl dX3_takeStart_134 (isRd_0 hD) ?_
                      rw [J.2.1]
                      refine a_dup dX3_takeStart_137 rfl ?_
                      refine gX3_237 rfl dX3_takeStart_138 (isT_0 hD ht) ?_
                      rw [e8]
                      refine a_iconst (v := 1) dX3_takeStart_141 (by decide) ?_
                      refine a_iadd dX3_takeStart_142 ?_
                      rw [nI_1]
                      refine pX3_237 rfl dX3_takeStart_143 (isT_0 hD ht) ?_
                      rw [← hY]
                      refine a_aload_n (i := 0) dX3_takeStart_146 rfl rfl ?_
                      refine gX3_21 rfl dX3_takeStart_147 (isRd_0 hD) ?_
                      rw [k2.1.1.2.1]
                      refine gX3_237 rfl dX3_takeStart_150 (isT_0 hD ht) ?_
                      rw [Y18]
                      refine a_bipush (v := 64) dX3_takeStart_153 (by decide) ?_
                      refine a_icmp_gt (tg := 177) dX3_takeStart_155 (by decide) (fun c_155 => ?_) (fun c_155 => ?_)
                      · refine a_aload_n (i := 0) dX3_takeStart_177 rfl rfl ?_
                        refine a_iconst (v := 2) dX3_takeStart_178 (by decide) ?_
                        refine kX3_77 rfl dX3_takeStart_179 (Nat.le_of_ble_eq_true rfl) (isRd_0 hD) (c_X3_fail (c := 2) hD k2.1.1.2.2.2 h0) ?_
                        exact a_vret dX3_takeStart_182 (by exact ⟨rfl, fl2.1, cFe_t k2.2 fl2.2⟩)
                      · exact absurd (nI_lt (a := 64) g (by omega)) c_155
              · exact absurd c_42 n14
            · exact absurd c_3 n24
          · rw [if_neg (fun e => by rcases e with e | e; exact g e; exact q23 e.1)]
            have ap := App g
            refine a_iload_n (i := 2) dX3_takeStart_0 rfl rfl ?_
            refine a_bipush (v := 24) dX3_takeStart_1 (by decide) ?_
            refine a_icmp_ne (tg := 39) dX3_takeStart_3 (by decide) (fun c_3 => ?_) (fun c_3 => ?_)
            · refine a_iload_n (i := 2) dX3_takeStart_39 rfl rfl ?_
              refine a_bipush (v := 14) dX3_takeStart_40 (by decide) ?_
              refine a_icmp_ne (tg := 115) dX3_takeStart_42 (by decide) (fun c_42 => ?_) (fun c_42 => ?_)
              · refine a_iload_n (i := 2) dX3_takeStart_115 rfl rfl ?_
                refine a_bipush (v := 23) dX3_takeStart_116 (by decide) ?_
                refine a_icmp_eq (tg := 133) dX3_takeStart_118 (by decide) (fun c_118 => ?_) (fun c_118 => ?_)
                · exact absurd c_118 n23
                · refine a_iload_n (i := 2) dX3_takeStart_121 rfl rfl ?_
                  refine a_bipush (v := 15) dX3_takeStart_122 (by decide) ?_
                  refine a_icmp_lt (tg := 198) dX3_takeStart_124 (by decide) (fun c_124 => ?_) (fun c_124 => ?_)
                  · exact absurd c_124 (nI_nlt (b := 15) q15.1 (by omega))
                  · refine a_iload_n (i := 2) dX3_takeStart_127 rfl rfl ?_
                    refine a_bipush (v := 21) dX3_takeStart_128 (by decide) ?_
                    refine a_icmp_gt (tg := 198) dX3_takeStart_130 (by decide) (fun c_130 => ?_) (fun c_130 => ?_)
                    · exact absurd c_130 (nI_nlt (a := 21) q15.2 (by decide))
                    · refine a_aload_n (i := 0) dX3_takeStart_133 rfl rfl ?_
                      refine gX3_21 rfl dX3_takeStart_134 (isRd_0 hD) ?_
                      rw [J.2.1]
                      refine a_dup dX3_takeStart_137 rfl ?_
                      refine gX3_237 rfl dX3_takeStart_138 (isT_0 hD ht) ?_
                      rw [e8]
                      refine a_iconst (v := 1) dX3_takeStart_141 (by decide) ?_
                      refine a_iadd dX3_takeStart_142 ?_
                      rw [nI_1]
                      refine pX3_237 rfl dX3_takeStart_143 (isT_0 hD ht) ?_
                      rw [← hY]
                      refine a_aload_n (i := 0) dX3_takeStart_146 rfl rfl ?_
                      refine gX3_21 rfl dX3_takeStart_147 (isRd_0 hD) ?_
                      rw [k2.1.1.2.1]
                      refine gX3_237 rfl dX3_takeStart_150 (isT_0 hD ht) ?_
                      rw [Y18]
                      refine a_bipush (v := 64) dX3_takeStart_153 (by decide) ?_
                      refine a_icmp_gt (tg := 177) dX3_takeStart_155 (by decide) (fun c_155 => ?_) (fun c_155 => ?_)
                      · exact absurd c_155 (nI_nlt (a := 64) (by omega) (by decide))
                      · refine a_iload_n (i := 2) dX3_takeStart_158 rfl rfl ?_
                        refine a_bipush (v := 23) dX3_takeStart_159 (by decide) ?_
                        refine a_icmp_ne (tg := 183) dX3_takeStart_161 (by decide) (fun c_161 => ?_) (fun c_161 => ?_)
                        · exact a_loc _ rfl ap
                        · exact absurd c_161 n23
              · exact absurd c_42 n14
            · exact absurd c_3 n24
        · rw [if_neg (fun e => by rcases e with e | e; exact q23 e; exact q15 e)]
          refine a_iload_n (i := 2) dX3_takeStart_0 rfl rfl ?_
          refine a_bipush (v := 24) dX3_takeStart_1 (by decide) ?_
          refine a_icmp_ne (tg := 39) dX3_takeStart_3 (by decide) (fun c_3 => ?_) (fun c_3 => ?_)
          · refine a_iload_n (i := 2) dX3_takeStart_39 rfl rfl ?_
            refine a_bipush (v := 14) dX3_takeStart_40 (by decide) ?_
            refine a_icmp_ne (tg := 115) dX3_takeStart_42 (by decide) (fun c_42 => ?_) (fun c_42 => ?_)
            · refine a_iload_n (i := 2) dX3_takeStart_115 rfl rfl ?_
              refine a_bipush (v := 23) dX3_takeStart_116 (by decide) ?_
              refine a_icmp_eq (tg := 133) dX3_takeStart_118 (by decide) (fun c_118 => ?_) (fun c_118 => ?_)
              · exact absurd c_118 n23
              · refine a_iload_n (i := 2) dX3_takeStart_121 rfl rfl ?_
                refine a_bipush (v := 15) dX3_takeStart_122 (by decide) ?_
                refine a_icmp_lt (tg := 198) dX3_takeStart_124 (by decide) (fun c_124 => ?_) (fun c_124 => ?_)
                · refine a_aload_n (i := 0) dX3_takeStart_198 rfl rfl ?_
                  refine a_iconst (v := 1) dX3_takeStart_199 (by decide) ?_
                  refine kX3_77 rfl dX3_takeStart_200 (Nat.le_of_ble_eq_true rfl) (isRd_0 hD) (c_X3_fail (c := 1) hD J.2.2.2 h0) ?_
                  exact a_vret dX3_takeStart_203 (by exact ⟨rfl, fl1⟩)
                · refine a_iload_n (i := 2) dX3_takeStart_127 rfl rfl ?_
                  refine a_bipush (v := 21) dX3_takeStart_128 (by decide) ?_
                  refine a_icmp_gt (tg := 198) dX3_takeStart_130 (by decide) (fun c_130 => ?_) (fun c_130 => ?_)
                  · refine a_aload_n (i := 0) dX3_takeStart_198 rfl rfl ?_
                    refine a_iconst (v := 1) dX3_takeStart_199 (by decide) ?_
                    refine kX3_77 rfl dX3_takeStart_200 (Nat.le_of_ble_eq_true rfl) (isRd_0 hD) (c_X3_fail (c := 1) hD J.2.2.2 h0) ?_
                    exact a_vret dX3_takeStart_203 (by exact ⟨rfl, fl1⟩)
                  · exact absurd ⟨(nI_leI (a := 15) (by decide) (by omega)).mp (Int32.not_lt.mp c_124), (nI_leI (b := 21) (by omega) (by decide)).mp (Int32.not_lt.mp c_130)⟩ q15
            · exact absurd c_42 n14
          · exact absurd c_3 n24
end qAQ
