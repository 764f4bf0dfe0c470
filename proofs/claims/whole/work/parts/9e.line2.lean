/-! READING, the class: man, deed, wedding, strip, damp, seed, the line's end -/
def cLx (t : Nat) (x y : aS) : Prop := (∀ m j, ¬ (m = bTp ∧ 3 ≤ j ∧ j ≤ 6) → ¬ (m = bRd ∧ ¬ j = 1) → ¬ m = bRd + 5 → ¬ (t ≤ m ∧ m < t + 256) → y.1 m j = x.1 m j) ∧ y.2 = x.2
theorem cLx_t {t : Nat} {x y z : aS} (h : cLx t x y) (g : cLx t y z) : cLx t x z := ⟨fun m j a b c e => (g.1 m j a b c e).trans (h.1 m j a b c e), g.2.trans h.2⟩
theorem cLx_l {t : Nat} {x y : aS} (h : cLn t x y) : cLx t x y := ⟨fun m j a b _ e => h.1 m j a (fun g => b ⟨g.1, by omega⟩) (fun g => e ⟨g.1, by omega⟩), h.2⟩
section qAL
variable {l : Launch} {d : Nat} {D : Nat → Bool} {x y : aS} {n t : Nat} {B : Nat → Nat} {r r' : zP} {T : zT}
theorem cI_f {j : Nat} {v : Int32} (h : cI n B t T r x) (hj : j = 2 ∨ j = 3 ∨ j = 5 ∨ j = 6) : cI n B t T r (aWr x bRd j v) := by
  obtain ⟨ht, h1, h2, h3, h4, h5⟩ := h
  have e1 : bTp ≠ bRd := by decide
  have e2 : bTp + 2 ≠ bRd := by decide
  refine ⟨ht, by rw [aWr_j _ _ _ (by omega)]; exact h1, ⟨by rw [aWr_n _ _ _ e1]; exact h2.1, h2.2.1, fun i hi => ⟨(h2.2.2 i hi).1, by rw [aWr_n _ _ _ e2]; exact (h2.2.2 i hi).2⟩⟩, ?_, rT_fr h5 (fun m k a b => by rw [aWr_n _ _ _ (tr_ne ht a).2.1.symm]) h4, h5⟩
  obtain ⟨p1, p2, p3, p4⟩ := h3
  refine ⟨by rw [aWr_j _ _ _ (by omega)]; exact p1, p2, fun e => ?_, fun e => by rw [aWr_j _ _ _ (by omega)]; exact p4 e⟩
  obtain ⟨a, ⟨k1, k2, k3, k4⟩, b⟩ := p3 e
  exact ⟨a, ⟨by rw [aWr_n _ _ _ e1]; exact k1, by rw [aWr_n _ _ _ e1]; exact k2, by rw [aWr_n _ _ _ e1]; exact k3, by rw [aWr_n _ _ _ e1]; exact k4⟩, by rw [aWr_j _ _ _ (by omega)]; exact b⟩
set_option maxHeartbeats 4000000 in
set_option maxRecDepth 100000 in
theorem c_X3_readStrip (hD : aDC D) (I : cI n B t T r x) (h0 : r.2.1 = 0) : aCt l mX3_readStrip (d + 8) D [.ref bRd] x (fun v y => v = none ∧ cI n B t (lnStrip B n T r).1 (lnStrip B n T r).2 y ∧ cLn t x y) := by
  obtain ⟨ht, hp, hk, hr, hT, bd⟩ := id I
  have e1 : x.1 t 14 = nI (T.1 4) := hT.2.2.2.2.1
  refine a_met (by decide) (Nat.le_of_ble_eq_true rfl) (fun v y q => Or.inr (Or.inr (Or.inr ⟨rfl, q.1⟩))) ?_
  unfold lnStrip
  by_cases g : 4 ≤ T.1 4
  · rw [if_pos g]
    have e6 : T.1 4 = 4 := by have := bd.2.2.2.2; omega
    rw [e6] at e1
    have fl := cP_fl (c := 2) hr h0 (by decide) (by decide)
    refine a_aload_n (i := 0) dX3_readStrip_0 rfl rfl ?_
    refine gX3_21 rfl dX3_readStrip_1 (isRd_0 hD) ?_
    rw [hp]
    refine gX3_174 rfl dX3_readStrip_4 (isT_0 hD ht) ?_
    rw [e1]
    refine a_iconst (v := 4) dX3_readStrip_7 (by decide) ?_
    refine a_icmp_lt (tg := 17) dX3_readStrip_8 (by decide) (fun c_8 => ?_) (fun c_8 => ?_)
    · exact absurd c_8 (by decide)
    · refine a_aload_n (i := 0) dX3_readStrip_11 rfl rfl ?_
      refine a_iconst (v := 2) dX3_readStrip_12 (by decide) ?_
      refine kX3_77 rfl dX3_readStrip_13 (Nat.le_of_ble_eq_true rfl) (isRd_0 hD) (c_X3_fail (c := 2) hD hr h0) ?_
      exact a_vret dX3_readStrip_16 (by exact ⟨rfl, cI_u I fl.1 fl.2, cLn_u fl.2⟩)
  · rw [if_neg g]
    have lt6 : nI (T.1 4) < 4 := nI_lt (b := 4) (by omega) (by decide)
    obtain ⟨a, ha⟩ : ∃ a, a = (numP B n 0 99 (pGo B n r)).2 := ⟨_, rfl⟩
    obtain ⟨ρ, hρ⟩ : ∃ ρ, ρ = (numP B n 0 99 (pGo B n r)).1 := ⟨_, rfl⟩
    rw [← ha, ← hρ]
    have K : ∀ y1 y2 Y : aS, cI n B t T (pGo B n r) y1 → cU x y1 → cU y1 y2 → cJ n B t ρ y2 → Y = aWr (aWr y2 (t + 16) (T.1 4) (nI a)) t 14 (nI (T.1 4 + 1)) → cI n B t (tu1 (tui T 8 (T.1 4) (nI a)) 4 (T.1 4 + 1)) ρ Y ∧ cLn t x Y := by
      intro y1 y2 Y I1 F1 F2 C2 hY
      have J := cJ_w (m := t) (j := 14) (v := nI (T.1 4 + 1)) (cJ_w (m := t + 16) (j := T.1 4) (v := nI a) C2 (by omega)) (Nat.le_refl t)
      rw [← hY] at J
      have R := rT_strip (y := Y) (k := T.1 4) (a0 := nI a) I1.2.2.2.2.1 bd rfl (by omega) (fun m j h1 h2 e => by rw [hY, aWr_o _ _ (fun g => e (Or.inr g)), aWr_o _ _ (fun g => e (Or.inl g)), cU_T ht h1 F2]) (by rw [hY, aWr_n _ _ _ (show t + 16 ≠ t by omega), aWr_s]) (by rw [hY, aWr_s])
      refine ⟨⟨ht, J.2.1, J.2.2.1, J.2.2.2, R, bd.1, bd.2.1, bd.2.2.1, bd.2.2.2.1, by show T.1 4 + 1 ≤ 4; omega⟩, ?_⟩
      rw [hY]
      exact cLn_t (cLn_t (cLn_u (cU_t F1 F2)) (cLn_w (by omega) (by omega))) (cLn_w (Nat.le_refl t) (by omega))
    refine a_aload_n (i := 0) dX3_readStrip_0 rfl rfl ?_
    refine gX3_21 rfl dX3_readStrip_1 (isRd_0 hD) ?_
    rw [hp]
    refine gX3_174 rfl dX3_readStrip_4 (isT_0 hD ht) ?_
    rw [e1]
    refine a_iconst (v := 4) dX3_readStrip_7 (by decide) ?_
    refine a_icmp_lt (tg := 17) dX3_readStrip_8 (by decide) (fun c_8 => ?_) (fun c_8 => ?_)
    · refine a_aload_n (i := 0) dX3_readStrip_17 rfl rfl ?_
      refine gX3_12 rfl dX3_readStrip_18 (isRd_0 hD) ?_
      refine kgX3_83 rfl dX3_readStrip_21 (Nat.le_of_ble_eq_true rfl) (isTp_0 hD) (c_X7_step hD hk (cP_n hr h0).1 (cP_n hr h0).2) ?_
      rintro v y1 ⟨rfl, u1, F1⟩
      have C1 := cI_go I h0 u1 F1
      refine a_aload_n (i := 0) dX3_readStrip_24 rfl rfl ?_
      refine gX3_21 rfl dX3_readStrip_25 (isRd_0 hD) ?_
      rw [C1.2.1]
      refine gX3_177 rfl dX3_readStrip_28 (isT_0 hD ht) ?_
      refine a_aload_n (i := 0) dX3_readStrip_31 rfl rfl ?_
      refine gX3_21 rfl dX3_readStrip_32 (isRd_0 hD) ?_
      rw [C1.2.1]
      refine gX3_174 rfl dX3_readStrip_35 (isT_0 hD ht) ?_
      rw [C1.2.2.2.2.1.2.2.2.2.1]
      refine a_aload_n (i := 0) dX3_readStrip_38 rfl rfl ?_
      refine a_iconst (v := 0) dX3_readStrip_39 (by decide) ?_
      refine a_bipush (v := 99) dX3_readStrip_40 (by decide) ?_
      refine kgX3_108 rfl dX3_readStrip_42 (Nat.le_of_ble_eq_true rfl) (isRd_0 hD) (c_X3_takeNumber (lo := 0) (hi := 99) hD C1.2.2.1 C1.2.2.2.1 (by decide) (by decide)) ?_
      rintro v y2 ⟨rfl, u2, F2⟩
      have C2 := cJ_u (cJ_i C1) u2 F2
      rw [← hρ] at C2
      rw [← ha]
      refine a_iastN dX3_readStrip_45 (isT_16 hD ht) (by first | with_reducible exact rfl | with_reducible exact ix8 _ _ | with_reducible exact ix12 _ _ | exact rfl) (by omega) (by decide) ?_
      have C3 := cJ_w (m := t + 16) (j := T.1 4) (v := nI a) C2 (by omega)
      refine a_aload_n (i := 0) dX3_readStrip_46 rfl rfl ?_
      refine gX3_21 rfl dX3_readStrip_47 (isRd_0 hD) ?_
      rw [C3.2.1]
      refine a_dup dX3_readStrip_50 rfl ?_
      refine gX3_174 rfl dX3_readStrip_51 (isT_0 hD ht) ?_
      rw [aWr_n _ _ _ (show t ≠ t + 16 by omega), cU_T ht (Nat.le_refl t) F2, C1.2.2.2.2.1.2.2.2.2.1]
      refine a_iconst (v := 1) dX3_readStrip_54 (by decide) ?_
      refine a_iadd dX3_readStrip_55 ?_
      rw [nI_1]
      refine pX3_174 rfl dX3_readStrip_56 (isT_0 hD ht) ?_
      exact a_vret dX3_readStrip_59 (by exact ⟨rfl, K y1 y2 _ C1 (cU_s F1) F2 C2 rfl⟩)
    · exact absurd lt6 c_8
set_option maxHeartbeats 4000000 in
set_option maxRecDepth 100000 in
theorem c_X3_readDamp {g : Bool} (hD : aDC D) (I : cI n B t T r x) (h0 : r.2.1 = 0) (hg : x.1 bRd 2 = bI g) : aCt l mX3_readDamp (d + 8) D [.ref bRd] x (fun v y => v = none ∧ cI n B t (lnDamp B n g T r).1 (lnDamp B n g T r).2 y ∧ y.1 bRd 2 = 1 ∧ cLn t (aWr x bRd 2 1) y) := by
  obtain ⟨ht, hp, hk, hr, hT, bd⟩ := id I
  refine a_met (by decide) (Nat.le_of_ble_eq_true rfl) (fun v y q => Or.inr (Or.inr (Or.inr ⟨rfl, q.1⟩))) ?_
  unfold lnDamp
  cases g with
  | true =>
    rw [if_pos rfl]
    have e1 : x.1 bRd 2 = 1 := hg
    have ex : aWr x bRd 2 1 = x := aWr_id x bRd 2 1 e1
    have fl := cP_fl (c := 3) hr h0 (by decide) (by decide)
    refine a_aload_n (i := 0) dX3_readDamp_0 rfl rfl ?_
    refine gX3_36 rfl dX3_readDamp_1 (isRd_0 hD) ?_
    rw [e1]
    refine a_if_eq (tg := 13) dX3_readDamp_4 (by decide) (fun c_4 => ?_) (fun c_4 => ?_)
    · exact absurd c_4 (by decide)
    · refine a_aload_n (i := 0) dX3_readDamp_7 rfl rfl ?_
      refine a_iconst (v := 3) dX3_readDamp_8 (by decide) ?_
      refine kX3_77 rfl dX3_readDamp_9 (Nat.le_of_ble_eq_true rfl) (isRd_0 hD) (c_X3_fail (c := 3) hD hr h0) ?_
      exact a_vret dX3_readDamp_12 (by exact ⟨rfl, cI_u I fl.1 fl.2, by rw [fl.2.1 _ _ (fun e => absurd e.1 (by decide)) (by omega)]; exact e1, by rw [ex]; exact cLn_u fl.2⟩)
  | false =>
    rw [if_neg (by decide)]
    have e1 : x.1 bRd 2 = 0 := hg
    obtain ⟨a, ha⟩ : ∃ a, a = (numP B n 0 100 (pGo B n r)).2 := ⟨_, rfl⟩
    obtain ⟨ρ, hρ⟩ : ∃ ρ, ρ = (numP B n 0 100 (pGo B n r)).1 := ⟨_, rfl⟩
    rw [← ha, ← hρ]
    have I0 := cI_f (j := 2) (v := 1) I (by omega)
    have e2 : (aWr x bRd 2 1).1 bRd 2 = 1 := aWr_s _ _ _ _
    obtain ⟨X, hX⟩ : ∃ X, X = aWr x bRd 2 1 := ⟨_, rfl⟩
    rw [← hX] at I0 e2 ⊢
    have K : ∀ y1 y2 Y : aS, cI n B t T (pGo B n r) y1 → cU X y1 → cU y1 y2 → cJ n B t ρ y2 → Y = aWr y2 t 16 (nI a) → cI n B t (tu1 T 5 a) ρ Y ∧ Y.1 bRd 2 = 1 ∧ cLn t X Y := by
      intro y1 y2 Y I1 F1 F2 C2 hY
      have J := cJ_w (m := t) (j := 16) (v := nI a) C2 (Nat.le_refl t)
      rw [← hY] at J
      have R := rT_damp (y := Y) (k := a) I1.2.2.2.2.1 bd (fun m j h1 h2 e => by rw [hY, aWr_o _ _ e, cU_T ht h1 F2]) (by rw [hY, aWr_s])
      refine ⟨⟨ht, J.2.1, J.2.2.1, J.2.2.2, R, bd⟩, ?_, ?_⟩
      · rw [hY, aWr_n _ _ _ (tr_ne ht (Nat.le_refl t)).2.1, F2.1 _ _ (fun e => absurd e.1 (by decide)) (by omega), F1.1 _ _ (fun e => absurd e.1 (by decide)) (by omega)]; exact e2
      · rw [hY]; exact cLn_t (cLn_u (cU_t F1 F2)) (cLn_w (Nat.le_refl t) (by omega))
    refine a_aload_n (i := 0) dX3_readDamp_0 rfl rfl ?_
    refine gX3_36 rfl dX3_readDamp_1 (isRd_0 hD) ?_
    rw [e1]
    refine a_if_eq (tg := 13) dX3_readDamp_4 (by decide) (fun c_4 => ?_) (fun c_4 => ?_)
    · refine a_aload_n (i := 0) dX3_readDamp_13 rfl rfl ?_
      refine a_iconst (v := 1) dX3_readDamp_14 (by decide) ?_
      refine pX3_36 rfl dX3_readDamp_15 (isRd_0 hD) (by first | exact Or.inl rfl | exact Or.inr rfl | assumption) ?_
      rw [← hX]
      refine a_aload_n (i := 0) dX3_readDamp_18 rfl rfl ?_
      refine gX3_12 rfl dX3_readDamp_19 (isRd_0 hD) ?_
      refine kgX3_83 rfl dX3_readDamp_22 (Nat.le_of_ble_eq_true rfl) (isTp_0 hD) (c_X7_step hD I0.2.2.1 (cP_n I0.2.2.2.1 h0).1 (cP_n I0.2.2.2.1 h0).2) ?_
      rintro v y1 ⟨rfl, u1, F1⟩
      have C1 := cI_go I0 h0 u1 F1
      refine a_aload_n (i := 0) dX3_readDamp_25 rfl rfl ?_
      refine gX3_21 rfl dX3_readDamp_26 (isRd_0 hD) ?_
      rw [C1.2.1]
      refine a_aload_n (i := 0) dX3_readDamp_29 rfl rfl ?_
      refine a_iconst (v := 0) dX3_readDamp_30 (by decide) ?_
      refine a_bipush (v := 100) dX3_readDamp_31 (by decide) ?_
      refine kgX3_108 rfl dX3_readDamp_33 (Nat.le_of_ble_eq_true rfl) (isRd_0 hD) (c_X3_takeNumber (lo := 0) (hi := 100) hD C1.2.2.1 C1.2.2.2.1 (by decide) (by decide)) ?_
      rintro v y2 ⟨rfl, u2, F2⟩
      have C2 := cJ_u (cJ_i C1) u2 F2
      rw [← hρ] at C2
      rw [← ha]
      refine pX3_180 rfl dX3_readDamp_36 (isT_0 hD ht) ?_
      exact a_vret dX3_readDamp_39 (by exact ⟨rfl, K y1 y2 _ C1 (cU_s F1) F2 C2 rfl⟩)
    · exact absurd rfl c_4
set_option maxHeartbeats 4000000 in
set_option maxRecDepth 100000 in
theorem c_X3_readSeed {g : Bool} (hD : aDC D) (I : cI n B t T r x) (h0 : r.2.1 = 0) (hg : x.1 bRd 3 = bI g) : aCt l mX3_readSeed (d + 8) D [.ref bRd] x (fun v y => v = none ∧ cI n B t (lnSeed B n g T r).1 (lnSeed B n g T r).2 y ∧ y.1 bRd 3 = 1 ∧ cLn t (aWr x bRd 3 1) y) := by
  obtain ⟨ht, hp, hk, hr, hT, bd⟩ := id I
  refine a_met (by decide) (Nat.le_of_ble_eq_true rfl) (fun v y q => Or.inr (Or.inr (Or.inr ⟨rfl, q.1⟩))) ?_
  unfold lnSeed
  cases g with
  | true =>
    rw [if_pos rfl]
    have e1 : x.1 bRd 3 = 1 := hg
    have ex : aWr x bRd 3 1 = x := aWr_id x bRd 3 1 e1
    have fl := cP_fl (c := 3) hr h0 (by decide) (by decide)
    refine a_aload_n (i := 0) dX3_readSeed_0 rfl rfl ?_
    refine gX3_40 rfl dX3_readSeed_1 (isRd_0 hD) ?_
    rw [e1]
    refine a_if_eq (tg := 13) dX3_readSeed_4 (by decide) (fun c_4 => ?_) (fun c_4 => ?_)
    · exact absurd c_4 (by decide)
    · refine a_aload_n (i := 0) dX3_readSeed_7 rfl rfl ?_
      refine a_iconst (v := 3) dX3_readSeed_8 (by decide) ?_
      refine kX3_77 rfl dX3_readSeed_9 (Nat.le_of_ble_eq_true rfl) (isRd_0 hD) (c_X3_fail (c := 3) hD hr h0) ?_
      exact a_vret dX3_readSeed_12 (by exact ⟨rfl, cI_u I fl.1 fl.2, by rw [fl.2.1 _ _ (fun e => absurd e.1 (by decide)) (by omega)]; exact e1, by rw [ex]; exact cLn_u fl.2⟩)
  | false =>
    rw [if_neg (by decide)]
    have e1 : x.1 bRd 3 = 0 := hg
    obtain ⟨a, ha⟩ : ∃ a, a = (numP B n 0 99999 (pGo B n r)).2 := ⟨_, rfl⟩
    obtain ⟨ρ, hρ⟩ : ∃ ρ, ρ = (numP B n 0 99999 (pGo B n r)).1 := ⟨_, rfl⟩
    rw [← ha, ← hρ]
    have I0 := cI_f (j := 3) (v := 1) I (by omega)
    have e2 : (aWr x bRd 3 1).1 bRd 3 = 1 := aWr_s _ _ _ _
    obtain ⟨X, hX⟩ : ∃ X, X = aWr x bRd 3 1 := ⟨_, rfl⟩
    rw [← hX] at I0 e2 ⊢
    have K : ∀ y1 y2 Y : aS, cI n B t T (pGo B n r) y1 → cU X y1 → cU y1 y2 → cJ n B t ρ y2 → Y = aWr y2 t 17 (nI a) → cI n B t (tu1 T 6 a) ρ Y ∧ Y.1 bRd 3 = 1 ∧ cLn t X Y := by
      intro y1 y2 Y I1 F1 F2 C2 hY
      have J := cJ_w (m := t) (j := 17) (v := nI a) C2 (Nat.le_refl t)
      rw [← hY] at J
      have R := rT_seed (y := Y) (k := a) I1.2.2.2.2.1 bd (fun m j h1 h2 e => by rw [hY, aWr_o _ _ e, cU_T ht h1 F2]) (by rw [hY, aWr_s])
      refine ⟨⟨ht, J.2.1, J.2.2.1, J.2.2.2, R, bd⟩, ?_, ?_⟩
      · rw [hY, aWr_n _ _ _ (tr_ne ht (Nat.le_refl t)).2.1, F2.1 _ _ (fun e => absurd e.1 (by decide)) (by omega), F1.1 _ _ (fun e => absurd e.1 (by decide)) (by omega)]; exact e2
      · rw [hY]; exact cLn_t (cLn_u (cU_t F1 F2)) (cLn_w (Nat.le_refl t) (by omega))
    refine a_aload_n (i := 0) dX3_readSeed_0 rfl rfl ?_
    refine gX3_40 rfl dX3_readSeed_1 (isRd_0 hD) ?_
    rw [e1]
    refine a_if_eq (tg := 13) dX3_readSeed_4 (by decide) (fun c_4 => ?_) (fun c_4 => ?_)
    · refine a_aload_n (i := 0) dX3_readSeed_13 rfl rfl ?_
      refine a_iconst (v := 1) dX3_readSeed_14 (by decide) ?_
      refine pX3_40 rfl dX3_readSeed_15 (isRd_0 hD) (by first | exact Or.inl rfl | exact Or.inr rfl | assumption) ?_
      rw [← hX]
      refine a_aload_n (i := 0) dX3_readSeed_18 rfl rfl ?_
      refine gX3_12 rfl dX3_readSeed_19 (isRd_0 hD) ?_
      refine kgX3_83 rfl dX3_readSeed_22 (Nat.le_of_ble_eq_true rfl) (isTp_0 hD) (c_X7_step hD I0.2.2.1 (cP_n I0.2.2.2.1 h0).1 (cP_n I0.2.2.2.1 h0).2) ?_
      rintro v y1 ⟨rfl, u1, F1⟩
      have C1 := cI_go I0 h0 u1 F1
      refine a_aload_n (i := 0) dX3_readSeed_25 rfl rfl ?_
      refine gX3_21 rfl dX3_readSeed_26 (isRd_0 hD) ?_
      rw [C1.2.1]
      refine a_aload_n (i := 0) dX3_readSeed_29 rfl rfl ?_
      refine a_iconst (v := 0) dX3_readSeed_30 (by decide) ?_
      refine a_ldc (v := 99999) dX3_readSeed_31 (oX3_183 rfl) ?_
      refine kgX3_108 rfl dX3_readSeed_33 (Nat.le_of_ble_eq_true rfl) (isRd_0 hD) (c_X3_takeNumber (lo := 0) (hi := 99999) hD C1.2.2.1 C1.2.2.2.1 (by decide) (by decide)) ?_
      rintro v y2 ⟨rfl, u2, F2⟩
      have C2 := cJ_u (cJ_i C1) u2 F2
      rw [← hρ] at C2
      rw [← ha]
      refine pX3_184 rfl dX3_readSeed_36 (isT_0 hD ht) ?_
      exact a_vret dX3_readSeed_39 (by exact ⟨rfl, K y1 y2 _ C1 (cU_s F1) F2 C2 rfl⟩)
    · exact absurd rfl c_4
set_option maxHeartbeats 8000000 in
set_option maxRecDepth 100000 in
theorem c_X3_readMan (hD : aDC D) (I : cI n B t T r x) (h0 : r.2.1 = 0) : aCt l mX3_readMan (d + 8) D [.ref bRd] x (fun v y => v = none ∧ cI n B t (lnMan B n T r).1 (lnMan B n T r).2 y ∧ cLn t x y) := by
  obtain ⟨ht, hp, hk, hr, hT, bd⟩ := id I
  have e1 : x.1 t 4 = nI (T.1 1) := hT.2.1
  have b0 := bd.1
  refine a_met (by decide) (Nat.le_of_ble_eq_true rfl) (fun v y q => Or.inr (Or.inr (Or.inr ⟨rfl, q.1⟩))) ?_
  unfold lnMan
  by_cases g : 8 ≤ T.1 1
  · rw [if_pos g]
    have e6 : T.1 1 = 8 := by have := bd.2.1; omega
    rw [e6] at e1
    have fl := cP_fl (c := 2) hr h0 (by decide) (by decide)
    refine a_aload_n (i := 0) dX3_readMan_0 rfl rfl ?_
    refine gX3_21 rfl dX3_readMan_1 (isRd_0 hD) ?_
    rw [hp]
    refine gX3_112 rfl dX3_readMan_4 (isT_0 hD ht) ?_
    rw [e1]
    refine a_istore_n (i := 1) dX3_readMan_7 rfl (by decide) ?_
    refine a_iload_n (i := 1) dX3_readMan_8 rfl rfl ?_
    refine a_bipush (v := 8) dX3_readMan_9 (by decide) ?_
    refine a_icmp_lt (tg := 20) dX3_readMan_11 (by decide) (fun c_11 => ?_) (fun c_11 => ?_)
    · exact absurd c_11 (by decide)
    · refine a_aload_n (i := 0) dX3_readMan_14 rfl rfl ?_
      refine a_iconst (v := 2) dX3_readMan_15 (by decide) ?_
      refine kX3_77 rfl dX3_readMan_16 (Nat.le_of_ble_eq_true rfl) (isRd_0 hD) (c_X3_fail (c := 2) hD hr h0) ?_
      exact a_vret dX3_readMan_19 (by exact ⟨rfl, cI_u I fl.1 fl.2, cLn_u fl.2⟩)
  · rw [if_neg g]
    have lt6 : nI (T.1 1) < 8 := nI_lt (b := 8) (by omega) (by decide)
    by_cases w : (newP B n (T.2.1 2) (T.1 1) (pGo B n r)).2.1 = 0
    · rw [if_neg (fun e => e w)]
      obtain ⟨w1, w2⟩ := newP_0 w
      have K : ∀ y2 z y3 y4 z4 y5 z5 y6 z6 y7 Y : aS, cI n B t T (pGo B n r) y2 → cLn t x y2 → z = aWr y2 (t + 6) (T.1 1) (nI (tok B n (pGo B n r).1).2.1) → cU z y3 → cU y3 y4 → z4 = aWr y4 (t + 7) (T.1 1) (nI (mn1 B n T r).2) → cU z4 y5 → z5 = aWr y5 (t + 8) (T.1 1) (nI (mn2 B n T r).2) → cU z5 y6 → z6 = aWr y6 (t + 9) (T.1 1) (nI (mn3 B n T r).2) → cU z6 y7 → cJ n B t (mn4 B n T r).1 y7 → Y = aWr (aWr y7 (t + 10) (T.1 1) (nI (mn4 B n T r).2)) t 4 (nI (T.1 1 + 1)) → cI n B t (tu1 (tui (tun (tui (tun (tui T 2 (T.1 1) (nI (tok B n (pGo B n r).1).2.1)) 0 (T.1 1) (mn1 B n T r).2) 3 (T.1 1) (nI (mn2 B n T r).2)) 1 (T.1 1) (mn3 B n T r).2) 4 (T.1 1) (nI (mn4 B n T r).2)) 1 (T.1 1 + 1)) (mn4 B n T r).1 Y ∧ cLn t x Y := by
        intro y2 z y3 y4 z4 y5 z5 y6 z6 y7 Y I2 G hz F3 F4 hz4 F5 hz5 F6 hz6 F7 C7 hY
        have J := cJ_w (m := t) (j := 4) (v := nI (T.1 1 + 1)) (cJ_w (m := t + 10) (j := T.1 1) (v := nI (mn4 B n T r).2) C7 (by omega)) (Nat.le_refl t)
        rw [← hY] at J
        have T4 : ∀ m j, t ≤ m → y4.1 m j = z.1 m j := fun m j hm => (cU_T ht hm F4).trans (cU_T ht hm F3)
        have T5 : ∀ m j, t ≤ m → y5.1 m j = z4.1 m j := fun m j hm => cU_T ht hm F5
        have T6 : ∀ m j, t ≤ m → y6.1 m j = z5.1 m j := fun m j hm => cU_T ht hm F6
        have T7 : ∀ m j, t ≤ m → y7.1 m j = z6.1 m j := fun m j hm => cU_T ht hm F7
        have R := rT_man (y := Y) (k := T.1 1) (a0 := nI (tok B n (pGo B n r).1).2.1) (a1 := (mn1 B n T r).2) (a2 := nI (mn2 B n T r).2) (a3 := (mn3 B n T r).2) (a4 := nI (mn4 B n T r).2) I2.2.2.2.2.1 bd rfl (by omega) (fun m j h1 h2 e => by rw [hY, aWr_o _ _ (by omega), aWr_o _ _ (by omega), T7 m j h1, hz6, aWr_o _ _ (by omega), T6 m j h1, hz5, aWr_o _ _ (by omega), T5 m j h1, hz4, aWr_o _ _ (by omega), T4 m j h1, hz, aWr_o _ _ (by omega)]) (by rw [hY, aWr_n _ _ _ (show t + 6 ≠ t by omega), aWr_n _ _ _ (show t + 6 ≠ t + 10 by omega), T7 _ _ (by omega), hz6, aWr_n _ _ _ (show t + 6 ≠ t + 9 by omega), T6 _ _ (by omega), hz5, aWr_n _ _ _ (show t + 6 ≠ t + 8 by omega), T5 _ _ (by omega), hz4, aWr_n _ _ _ (show t + 6 ≠ t + 7 by omega), T4 _ _ (by omega), hz, aWr_s]) (by rw [hY, aWr_n _ _ _ (show t + 7 ≠ t by omega), aWr_n _ _ _ (show t + 7 ≠ t + 10 by omega), T7 _ _ (by omega), hz6, aWr_n _ _ _ (show t + 7 ≠ t + 9 by omega), T6 _ _ (by omega), hz5, aWr_n _ _ _ (show t + 7 ≠ t + 8 by omega), T5 _ _ (by omega), hz4, aWr_s]) (by rw [hY, aWr_n _ _ _ (show t + 8 ≠ t by omega), aWr_n _ _ _ (show t + 8 ≠ t + 10 by omega), T7 _ _ (by omega), hz6, aWr_n _ _ _ (show t + 8 ≠ t + 9 by omega), T6 _ _ (by omega), hz5, aWr_s]) (by rw [hY, aWr_n _ _ _ (show t + 9 ≠ t by omega), aWr_n _ _ _ (show t + 9 ≠ t + 10 by omega), T7 _ _ (by omega), hz6, aWr_s]) (by rw [hY, aWr_n _ _ _ (show t + 10 ≠ t by omega), aWr_s]) (by rw [hY, aWr_s])
        refine ⟨⟨ht, J.2.1, J.2.2.1, J.2.2.2, R, bd.1, by show T.1 1 + 1 ≤ 8; omega, bd.2.2⟩, ?_⟩
        have w1 : cLn t x z := cLn_t G (by rw [hz]; exact cLn_w (by omega) (by omega))
        have w4 : cLn t x z4 := cLn_t (cLn_t w1 (cLn_u (cU_t F3 F4))) (by rw [hz4]; exact cLn_w (by omega) (by omega))
        have w5 : cLn t x z5 := cLn_t (cLn_t w4 (cLn_u F5)) (by rw [hz5]; exact cLn_w (by omega) (by omega))
        have w6 : cLn t x z6 := cLn_t (cLn_t w5 (cLn_u F6)) (by rw [hz6]; exact cLn_w (by omega) (by omega))
        rw [hY]
        exact cLn_t (cLn_t (cLn_t w6 (cLn_u F7)) (cLn_w (by omega) (by omega))) (cLn_w (Nat.le_refl t) (by omega))
      refine a_aload_n (i := 0) dX3_readMan_0 rfl rfl ?_
      refine gX3_21 rfl dX3_readMan_1 (isRd_0 hD) ?_
      rw [hp]
      refine gX3_112 rfl dX3_readMan_4 (isT_0 hD ht) ?_
      rw [e1]
      refine a_istore_n (i := 1) dX3_readMan_7 rfl (by decide) ?_
      refine a_iload_n (i := 1) dX3_readMan_8 rfl rfl ?_
      refine a_bipush (v := 8) dX3_readMan_9 (by decide) ?_
      refine a_icmp_lt (tg := 20) dX3_readMan_11 (by decide) (fun c_11 => ?_) (fun c_11 => ?_)
      · refine a_aload_n (i := 0) dX3_readMan_20 rfl rfl ?_
        refine gX3_12 rfl dX3_readMan_21 (isRd_0 hD) ?_
        refine kgX3_83 rfl dX3_readMan_24 (Nat.le_of_ble_eq_true rfl) (isTp_0 hD) (c_X7_step hD hk (cP_n hr h0).1 (cP_n hr h0).2) ?_
        rintro v y1 ⟨rfl, u1, F1⟩
        have C1 := cI_go I h0 u1 F1
        refine a_aload_n (i := 0) dX3_readMan_27 rfl rfl ?_
        refine a_aload_n (i := 0) dX3_readMan_28 rfl rfl ?_
        refine gX3_21 rfl dX3_readMan_29 (isRd_0 hD) ?_
        rw [C1.2.1]
        refine gX3_115 rfl dX3_readMan_32 (isT_0 hD ht) ?_
        refine a_iload_n (i := 1) dX3_readMan_35 rfl rfl ?_
        refine kgX3_98 rfl dX3_readMan_36 (Nat.le_of_ble_eq_true rfl) (isRd_0 hD) (c_X3_isNewName (f := T.2.1 2) hD C1.2.2.2.1 rfl (isT_6 hD ht) (by omega) (by decide) (fun k hk => (C1.2.2.2.2.1.2.2.2.2.2.2.2.2.2.2.1 k hk).1)) ?_
        rintro v y2 ⟨rfl, u2, F2⟩
        have C2 := cI_u C1 u2 F2
        rw [w1] at C2
        have v2 := (C2.2.2.2.1.2.2.1 rfl).2.1.2.2.2
        rw [bI_t w]
        refine a_if_ne (tg := 43) dX3_readMan_39 (by decide) (fun c_39 => ?_) (fun c_39 => ?_)
        · refine a_aload_n (i := 0) dX3_readMan_43 rfl rfl ?_
          refine gX3_21 rfl dX3_readMan_44 (isRd_0 hD) ?_
          rw [C2.2.1]
          refine gX3_115 rfl dX3_readMan_47 (isT_0 hD ht) ?_
          refine a_iload_n (i := 1) dX3_readMan_50 rfl rfl ?_
          refine a_aload_n (i := 0) dX3_readMan_51 rfl rfl ?_
          refine gX3_12 rfl dX3_readMan_52 (isRd_0 hD) ?_
          refine gX3_102 rfl dX3_readMan_55 (isTp_0 hD) ?_
          rw [v2]
          refine a_iastN dX3_readMan_58 (isT_6 hD ht) (by first | with_reducible exact rfl | with_reducible exact ix8 _ _ | with_reducible exact ix12 _ _ | exact rfl) (by omega) (by decide) ?_
          have Z := cJ_w (m := t + 6) (j := T.1 1) (v := nI (tok B n (pGo B n r).1).2.1) (cJ_i C2) (by omega)
          obtain ⟨z, hz⟩ : ∃ z, z = aWr y2 (t + 6) (T.1 1) (nI (tok B n (pGo B n r).1).2.1) := ⟨_, rfl⟩
          rw [← hz] at Z ⊢
          refine a_aload_n (i := 0) dX3_readMan_59 rfl rfl ?_
          refine gX3_12 rfl dX3_readMan_60 (isRd_0 hD) ?_
          refine kgX3_83 rfl dX3_readMan_63 (Nat.le_of_ble_eq_true rfl) (isTp_0 hD) (c_X7_step hD Z.2.2.1 (cP_n Z.2.2.2 rfl).1 (cP_n Z.2.2.2 rfl).2) ?_
          rintro v y3 ⟨rfl, u3, F3⟩
          have C3 := cJ_go Z rfl u3 F3
          refine a_aload_n (i := 0) dX3_readMan_66 rfl rfl ?_
          refine gX3_21 rfl dX3_readMan_67 (isRd_0 hD) ?_
          rw [C3.2.1]
          refine gX3_118 rfl dX3_readMan_70 (isT_0 hD ht) ?_
          refine a_iload_n (i := 1) dX3_readMan_73 rfl rfl ?_
          refine a_aload_n (i := 0) dX3_readMan_74 rfl rfl ?_
          refine a_aload_n (i := 0) dX3_readMan_75 rfl rfl ?_
          refine gX3_21 rfl dX3_readMan_76 (isRd_0 hD) ?_
          rw [C3.2.1]
          refine gX3_95 rfl dX3_readMan_79 (isT_0 hD ht) ?_
          refine a_aload_n (i := 0) dX3_readMan_82 rfl rfl ?_
          refine gX3_21 rfl dX3_readMan_83 (isRd_0 hD) ?_
          rw [C3.2.1]
          refine gX3_92 rfl dX3_readMan_86 (isT_0 hD ht) ?_
          rw [cU_T ht (Nat.le_refl t) (cU_s F3), hz, aWr_n _ _ _ (show t ≠ t + 6 by omega), C2.2.2.2.2.1.1]
          refine kgX3_121 rfl dX3_readMan_89 (Nat.le_of_ble_eq_true rfl) (isRd_0 hD) (c_X3_takeToldName (f := T.2.1 0) (N := T.1 0) hD C3.2.2.1 C3.2.2.2 (isT_3 hD ht) b0 (by decide) (fun k hk => by rw [cU_T ht (by omega) (cU_s F3), hz, aWr_n _ _ _ (show t + 3 ≠ t + 6 by omega)]; exact (C2.2.2.2.2.1.2.2.2.2.2.2.2.2.2.1 k hk).1)) ?_
          rintro v y4 ⟨rfl, u4, F4⟩
          have C4 := cJ_u C3 u4 F4
          refine a_iastN dX3_readMan_92 (isT_7 hD ht) (by first | with_reducible exact rfl | with_reducible exact ix8 _ _ | with_reducible exact ix12 _ _ | exact rfl) (by omega) (by decide) ?_
          have Z4 := cJ_w (m := t + 7) (j := T.1 1) (v := nI (mn1 B n T r).2) C4 (by omega)
          obtain ⟨z4, hz4⟩ : ∃ z4, z4 = aWr y4 (t + 7) (T.1 1) (nI (mn1 B n T r).2) := ⟨_, rfl⟩
          change aV _ _ _ _ _ _ _ _ (aWr y4 (t + 7) (T.1 1) (nI (mn1 B n T r).2)) _
          rw [← hz4] at Z4 ⊢
          refine a_aload_n (i := 0) dX3_readMan_93 rfl rfl ?_
          refine gX3_21 rfl dX3_readMan_94 (isRd_0 hD) ?_
          rw [Z4.2.1]
          refine gX3_125 rfl dX3_readMan_97 (isT_0 hD ht) ?_
          refine a_iload_n (i := 1) dX3_readMan_100 rfl rfl ?_
          refine a_aload_n (i := 0) dX3_readMan_101 rfl rfl ?_
          refine a_iconst (v := 0) dX3_readMan_102 (by decide) ?_
          refine a_bipush (v := 99) dX3_readMan_103 (by decide) ?_
          refine kgX3_108 rfl dX3_readMan_105 (Nat.le_of_ble_eq_true rfl) (isRd_0 hD) (c_X3_takeNumber (lo := 0) (hi := 99) hD Z4.2.2.1 Z4.2.2.2 (by decide) (by decide)) ?_
          rintro v y5 ⟨rfl, u5, F5⟩
          have C5 := cJ_u Z4 u5 F5
          refine a_iastN dX3_readMan_108 (isT_8 hD ht) (by first | with_reducible exact rfl | with_reducible exact ix8 _ _ | with_reducible exact ix12 _ _ | exact rfl) (by omega) (by decide) ?_
          have Z5 := cJ_w (m := t + 8) (j := T.1 1) (v := nI (mn2 B n T r).2) C5 (by omega)
          obtain ⟨z5, hz5⟩ : ∃ z5, z5 = aWr y5 (t + 8) (T.1 1) (nI (mn2 B n T r).2) := ⟨_, rfl⟩
          change aV _ _ _ _ _ _ _ _ (aWr y5 (t + 8) (T.1 1) (nI (mn2 B n T r).2)) _
          rw [← hz5] at Z5 ⊢
          refine a_aload_n (i := 0) dX3_readMan_109 rfl rfl ?_
          refine gX3_21 rfl dX3_readMan_110 (isRd_0 hD) ?_
          rw [Z5.2.1]
          refine gX3_128 rfl dX3_readMan_113 (isT_0 hD ht) ?_
          refine a_iload_n (i := 1) dX3_readMan_116 rfl rfl ?_
          refine a_aload_n (i := 0) dX3_readMan_117 rfl rfl ?_
          refine a_iconst (v := 0) dX3_readMan_118 (by decide) ?_
          refine a_bipush (v := 7) dX3_readMan_119 (by decide) ?_
          refine kgX3_108 rfl dX3_readMan_121 (Nat.le_of_ble_eq_true rfl) (isRd_0 hD) (c_X3_takeNumber (lo := 0) (hi := 7) hD Z5.2.2.1 Z5.2.2.2 (by decide) (by decide)) ?_
          rintro v y6 ⟨rfl, u6, F6⟩
          have C6 := cJ_u Z5 u6 F6
          refine a_iastN dX3_readMan_124 (isT_9 hD ht) (by first | with_reducible exact rfl | with_reducible exact ix8 _ _ | with_reducible exact ix12 _ _ | exact rfl) (by omega) (by decide) ?_
          have Z6 := cJ_w (m := t + 9) (j := T.1 1) (v := nI (mn3 B n T r).2) C6 (by omega)
          obtain ⟨z6, hz6⟩ : ∃ z6, z6 = aWr y6 (t + 9) (T.1 1) (nI (mn3 B n T r).2) := ⟨_, rfl⟩
          change aV _ _ _ _ _ _ _ _ (aWr y6 (t + 9) (T.1 1) (nI (mn3 B n T r).2)) _
          rw [← hz6] at Z6 ⊢
          refine a_aload_n (i := 0) dX3_readMan_125 rfl rfl ?_
          refine gX3_21 rfl dX3_readMan_126 (isRd_0 hD) ?_
          rw [Z6.2.1]
          refine gX3_131 rfl dX3_readMan_129 (isT_0 hD ht) ?_
          refine a_iload_n (i := 1) dX3_readMan_132 rfl rfl ?_
          refine a_aload_n (i := 0) dX3_readMan_133 rfl rfl ?_
          refine a_iconst (v := 0) dX3_readMan_134 (by decide) ?_
          refine a_bipush (v := 20) dX3_readMan_135 (by decide) ?_
          refine kgX3_108 rfl dX3_readMan_137 (Nat.le_of_ble_eq_true rfl) (isRd_0 hD) (c_X3_takeNumber (lo := 0) (hi := 20) hD Z6.2.2.1 Z6.2.2.2 (by decide) (by decide)) ?_
          rintro v y7 ⟨rfl, u7, F7⟩
          have C7 := cJ_u Z6 u7 F7
          refine a_iastN dX3_readMan_140 (isT_10 hD ht) (by first | with_reducible exact rfl | with_reducible exact ix8 _ _ | with_reducible exact ix12 _ _ | exact rfl) (by omega) (by decide) ?_
          have C8 := cJ_w (m := t + 10) (j := T.1 1) (v := nI (mn4 B n T r).2) C7 (by omega)
          change aV _ _ _ _ _ _ _ _ (aWr y7 (t + 10) (T.1 1) (nI (mn4 B n T r).2)) _
          refine a_aload_n (i := 0) dX3_readMan_141 rfl rfl ?_
          refine gX3_21 rfl dX3_readMan_142 (isRd_0 hD) ?_
          rw [C8.2.1]
          refine a_dup dX3_readMan_145 rfl ?_
          refine gX3_112 rfl dX3_readMan_146 (isT_0 hD ht) ?_
          rw [aWr_n _ _ _ (show t ≠ t + 10 by omega), cU_T ht (Nat.le_refl t) F7, hz6, aWr_n _ _ _ (show t ≠ t + 9 by omega), cU_T ht (Nat.le_refl t) F6, hz5, aWr_n _ _ _ (show t ≠ t + 8 by omega), cU_T ht (Nat.le_refl t) F5, hz4, aWr_n _ _ _ (show t ≠ t + 7 by omega), cU_T ht (Nat.le_refl t) F4, cU_T ht (Nat.le_refl t) (cU_s F3), hz, aWr_n _ _ _ (show t ≠ t + 6 by omega), C2.2.2.2.2.1.2.1]
          refine a_iconst (v := 1) dX3_readMan_149 (by decide) ?_
          refine a_iadd dX3_readMan_150 ?_
          rw [nI_1]
          refine pX3_112 rfl dX3_readMan_151 (isT_0 hD ht) ?_
          exact a_vret dX3_readMan_154 (by exact ⟨rfl, K y2 z y3 y4 z4 y5 z5 y6 z6 y7 _ C2 (cLn_u (cU_t (cU_s F1) F2)) hz (cU_s F3) F4 hz4 F5 hz5 F6 hz6 F7 C7 rfl⟩)
        · exact absurd c_39 (by decide)
      · exact absurd lt6 c_11
    · rw [if_pos w]
      refine a_aload_n (i := 0) dX3_readMan_0 rfl rfl ?_
      refine gX3_21 rfl dX3_readMan_1 (isRd_0 hD) ?_
      rw [hp]
      refine gX3_112 rfl dX3_readMan_4 (isT_0 hD ht) ?_
      rw [e1]
      refine a_istore_n (i := 1) dX3_readMan_7 rfl (by decide) ?_
      refine a_iload_n (i := 1) dX3_readMan_8 rfl rfl ?_
      refine a_bipush (v := 8) dX3_readMan_9 (by decide) ?_
      refine a_icmp_lt (tg := 20) dX3_readMan_11 (by decide) (fun c_11 => ?_) (fun c_11 => ?_)
      · refine a_aload_n (i := 0) dX3_readMan_20 rfl rfl ?_
        refine gX3_12 rfl dX3_readMan_21 (isRd_0 hD) ?_
        refine kgX3_83 rfl dX3_readMan_24 (Nat.le_of_ble_eq_true rfl) (isTp_0 hD) (c_X7_step hD hk (cP_n hr h0).1 (cP_n hr h0).2) ?_
        rintro v y1 ⟨rfl, u1, F1⟩
        have C1 := cI_go I h0 u1 F1
        refine a_aload_n (i := 0) dX3_readMan_27 rfl rfl ?_
        refine a_aload_n (i := 0) dX3_readMan_28 rfl rfl ?_
        refine gX3_21 rfl dX3_readMan_29 (isRd_0 hD) ?_
        rw [C1.2.1]
        refine gX3_115 rfl dX3_readMan_32 (isT_0 hD ht) ?_
        refine a_iload_n (i := 1) dX3_readMan_35 rfl rfl ?_
        refine kgX3_98 rfl dX3_readMan_36 (Nat.le_of_ble_eq_true rfl) (isRd_0 hD) (c_X3_isNewName (f := T.2.1 2) hD C1.2.2.2.1 rfl (isT_6 hD ht) (by omega) (by decide) (fun k hk => (C1.2.2.2.2.1.2.2.2.2.2.2.2.2.2.2.1 k hk).1)) ?_
        rintro v y2 ⟨rfl, u2, F2⟩
        have C2 := cI_u C1 u2 F2
        rw [bI_f w]
        refine a_if_ne (tg := 43) dX3_readMan_39 (by decide) (fun c_39 => ?_) (fun c_39 => ?_)
        · exact absurd rfl c_39
        · exact a_vret dX3_readMan_42 (by exact ⟨rfl, C2, cLn_u (cU_t (cU_s F1) F2)⟩)
      · exact absurd lt6 c_11
end qAL
