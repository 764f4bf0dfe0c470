/-! READING: what holds between lines, laws too; the class's readLaw, start -/
abbrev pS : Type := zT × (Nat → zL) × (Nat → Bool) × zP
def gup (g : Nat → Bool) (k : Nat) : Nat → Bool := fun j => if j = k then true else g j
def wup (W : Nat → zL) (q : Nat) (L : zL) : Nat → zL := fun j => if j = q then L else W j
def lwE (B : Nat → Nat) (n q : Nat) (P : pS) : eS := eGo B n (n + 1) (pGo B n (pGo B n P.2.2.2), true, 0, (fun _ => 0), P.2.1 q, 0, P.1.1 7)
def lnLaw (B : Nat → Nat) (n : Nat) (P : pS) : pS :=
  if ¬ (9 ≤ (tok B n (pGo B n P.2.2.2).1).1 ∧ (tok B n (pGo B n P.2.2.2).1).1 ≤ 11) then (P.1, P.2.1, P.2.2.1, pFl B n 1 (pGo B n P.2.2.2))
  else if P.2.2.1 (2 + ((tok B n (pGo B n P.2.2.2).1).1 - 9)) = true then (P.1, P.2.1, P.2.2.1, pFl B n 3 (pGo B n P.2.2.2))
  else (tu1 P.1 7 (lwE B n ((tok B n (pGo B n P.2.2.2).1).1 - 9) P).2.2.2.2.2.2, wup P.2.1 ((tok B n (pGo B n P.2.2.2).1).1 - 9) (lwE B n ((tok B n (pGo B n P.2.2.2).1).1 - 9) P).2.2.2.2.1, gup P.2.2.1 (2 + ((tok B n (pGo B n P.2.2.2).1).1 - 9)), (lwE B n ((tok B n (pGo B n P.2.2.2).1).1 - 9) P).1)
def pLw (P : pS) : Prop := P.2.2.2.2.1 = 0 → P.1.1 7 ≤ 64 ∧ ∀ q, q < 3 → (P.2.1 q).1 ≤ 64 ∧ (P.2.2.1 (2 + q) = false → (P.2.1 q).1 = 0)
def cK (n : Nat) (B : Nat → Nat) (t : Nat) (P : pS) (x : aS) : Prop := cI n B t P.1 P.2.2.2 x ∧ x.1 bRd 2 = bI (P.2.2.1 0) ∧ x.1 bRd 3 = bI (P.2.2.1 1) ∧ (∀ q, q < 3 → x.1 (t + (130 + q)) 0 = bI (P.2.2.1 (2 + q)) ∧ rLw (P.2.1 q) x (t + (130 + q))) ∧ pLw P
section qAT
variable {l : Launch} {d : Nat} {D : Nat → Bool} {x y : aS} {n t a : Nat} {B : Nat → Nat} {P : pS} {T' : zT} {r' : zP}
theorem bRT (ht : aTdB t) {m : Nat} (hm : t ≤ m) : bTp < t ∧ bRd + 5 < t := by
  have e1 : bTp = 512 := by decide
  have e2 : bRd = 256 := by decide
  rcases ht with rfl | rfl <;> omega
theorem cK_ln (h : cK n B t P x) (hI : cI n B t T' r' y) (F : cLn t x y) (h7 : T'.1 7 = P.1.1 7) (hm : mon n P.2.2.2 r') : cK n B t (T', P.2.1, P.2.2.1, r') y := by
  obtain ⟨I, h2, h3, hL, hP⟩ := h
  have ht := I.1
  obtain ⟨b1, b2⟩ := bRT ht (Nat.le_refl t)
  have fr : ∀ m j, t + 130 ≤ m → y.1 m j = x.1 m j := fun m j hm => F.1 m j (by omega) (by omega) (by omega)
  refine ⟨hI, ?_, ?_, fun q hq => ?_, fun e => ?_⟩
  · rw [F.1 _ _ (fun e => absurd e.1 (by decide)) (by omega) (by omega)]; exact h2
  · rw [F.1 _ _ (fun e => absurd e.1 (by decide)) (by omega) (by omega)]; exact h3
  · obtain ⟨u, v, w⟩ := hL q hq
    exact ⟨by rw [fr _ _ (by omega)]; exact u, by rw [fr _ _ (by omega)]; exact v, fun i hi => by rw [fr _ _ (by omega), fr _ _ (by omega)]; exact w i hi⟩
  · have := hP (hm e).1
    exact ⟨by show T'.1 7 ≤ 64; rw [h7]; exact this.1, this.2⟩
theorem cI_w {T : zT} {r : zP} {m j : Nat} {v : Int32} (h : cI n B t T r x) (hm : t + 130 ≤ m) : cI n B t T r (aWr x m j v) := by
  have J := cJ_w (m := m) (j := j) (v := v) (cJ_i h) (by omega)
  exact ⟨J.1, J.2.1, J.2.2.1, J.2.2.2, rT_fr h.2.2.2.2.2 (fun p i h1 h2 => by rw [aWr_n _ _ _ (show p ≠ m by omega)]) h.2.2.2.2.1, h.2.2.2.2.2⟩
theorem aLw_q (hD : aDC D) (ht : aTdB t) : ∀ q, q < 3 → aLw D t (t + (130 + q)) := by
  intro q hq
  rcases (by omega : q = 0 ∨ q = 1 ∨ q = 2) with rfl | rfl | rfl
  · exact ⟨by omega, isW_0 hD ht, isW10_0 hD ht, isW20_0 hD ht⟩
  · exact ⟨by omega, isW_1 hD ht, isW10_1 hD ht, isW20_1 hD ht⟩
  · exact ⟨by omega, isW_2 hD ht, isW10_2 hD ht, isW20_2 hD ht⟩
theorem cLx_e (ha : t + 130 ≤ a) (ha2 : a ≤ t + 132) (F : cFe t a x y) : cLx t x y := ⟨fun m j e1 e2 e3 e4 => F.1 m j e1 (fun g => e2 ⟨g.1, by omega⟩) e3 (by omega) (by omega) (by omega) (by omega), F.2⟩
theorem cLx_u (F : cU x y) : cLx t x y := cLx_l (cLn_u F)
set_option maxHeartbeats 8000000 in
set_option maxRecDepth 100000 in
theorem c_X3_readLaw (hD : aDC D) (H : cK n B t P x) (h0 : P.2.2.2.2.1 = 0) : aCt l mX3_readLaw (d + 8) D [.ref bRd] x (fun v y => v = none ∧ cK n B t (lnLaw B n P) y ∧ cLx t x y) := by
  obtain ⟨T, W, g, r⟩ := P
  obtain ⟨I, h2, h3, hL, hP⟩ := id H
  obtain ⟨ht, hp, hk, hr, hT, bd⟩ := id I
  have h0 : r.2.1 = 0 := h0
  obtain ⟨b1, b2⟩ := bRT ht (Nat.le_refl t)
  obtain ⟨k7, kW⟩ := hP h0
  refine a_met (by decide) (Nat.le_of_ble_eq_true rfl) (fun v y q => Or.inr (Or.inr (Or.inr ⟨rfl, q.1⟩))) ?_
  obtain ⟨k, hkk⟩ : ∃ k, k = (tok B n (pGo B n r).1).1 := ⟨_, rfl⟩
  unfold lnLaw
  show aV _ _ _ _ _ _ _ _ _ (fun v y => v = none ∧ cK n B t (if ¬ (9 ≤ (tok B n (pGo B n r).1).1 ∧ (tok B n (pGo B n r).1).1 ≤ 11) then (T, W, g, pFl B n 1 (pGo B n r)) else if g (2 + ((tok B n (pGo B n r).1).1 - 9)) = true then (T, W, g, pFl B n 3 (pGo B n r)) else (tu1 T 7 (lwE B n ((tok B n (pGo B n r).1).1 - 9) (T, W, g, r)).2.2.2.2.2.2, wup W ((tok B n (pGo B n r).1).1 - 9) (lwE B n ((tok B n (pGo B n r).1).1 - 9) (T, W, g, r)).2.2.2.2.1, gup g (2 + ((tok B n (pGo B n r).1).1 - 9)), (lwE B n ((tok B n (pGo B n r).1).1 - 9) (T, W, g, r)).1)) y ∧ cLx t x y)
  rw [← hkk]
  have M : ∀ q a, q < 3 → a = t + (130 + q) → k = 9 + q → ∀ (y1 : aS) (w : Int32), cI n B t T (pGo B n r) y1 → cSt x y1 → aV l mX3_readLaw (d + 8) D none 79 [(0, .ref bRd), (1, .int w), (2, .ref a)] [] y1 (fun v y => v = none ∧ cK n B t (if g (2 + q) = true then (T, W, g, pFl B n 3 (pGo B n r)) else (tu1 T 7 (lwE B n q (T, W, g, r)).2.2.2.2.2.2, wup W q (lwE B n q (T, W, g, r)).2.2.2.2.1, gup g (2 + q), (lwE B n q (T, W, g, r)).1)) y ∧ cLx t x y) := by
    intro q a hq haa kq y1 w I1 F1
    obtain ⟨hLq1, hLq2⟩ := hL q hq
    have hA := aLw_q hD ht q hq
    have isa := hA.2.1
    rw [← haa] at hA isa hLq1 hLq2
    have fr1 : ∀ m j, t ≤ m → y1.1 m j = x.1 m j := fun m j hm => cU_T ht hm (cU_s F1)
    have it : y1.1 a 0 = bI (g (2 + q)) := by rw [fr1 _ _ (by omega)]; exact hLq1
    have H1 := cK_ln H I1 (cLn_u (cU_s F1)) rfl (mon_go h0)
    by_cases gq : g (2 + q) = true
    · rw [if_pos gq]
      have it1 : y1.1 a 0 = 1 := by rw [it, gq]; rfl
      have fl := cP_fl (c := 3) I1.2.2.2.1 rfl (by decide) (by decide)
      refine a_aload_n (i := 2) dX3_readLaw_79 rfl rfl ?_
      refine gX3_201 rfl dX3_readLaw_80 (isa) ?_
      rw [it1]
      refine a_if_eq (tg := 92) dX3_readLaw_83 (by decide) (fun c_83 => ?_) (fun c_83 => ?_)
      · exact absurd c_83 (by decide)
      · refine a_aload_n (i := 0) dX3_readLaw_86 rfl rfl ?_
        refine a_iconst (v := 3) dX3_readLaw_87 (by decide) ?_
        refine kX3_77 rfl dX3_readLaw_88 (Nat.le_of_ble_eq_true rfl) (isRd_0 hD) (c_X3_fail (c := 3) hD I1.2.2.2.1 rfl) ?_
        exact a_vret dX3_readLaw_91 (by exact ⟨rfl, cK_ln H1 (cI_u I1 fl.1 fl.2) (cLn_u fl.2) rfl (mon_fl (by decide)), cLx_t (cLx_u (cU_s F1)) (cLx_u fl.2)⟩)
    · rw [if_neg gq]
      have gf : g (2 + q) = false := by cases h : g (2 + q) <;> simp_all
      have it0 : y1.1 a 0 = 0 := by rw [it, gf]; rfl
      obtain ⟨z, hz⟩ : ∃ z, z = aWr y1 a 0 1 := ⟨_, rfl⟩
      have Iz : cI n B t T (pGo B n r) z := by rw [hz]; exact cI_w I1 (by omega)
      have K : ∀ y2 y3 : aS, cI n B t T (pGo B n (pGo B n r)) y2 → cSt z y2 → cE n B t a (lwE B n q (T, W, g, r)) y3 → cFe t a y2 y3 → cK n B t (tu1 T 7 (lwE B n q (T, W, g, r)).2.2.2.2.2.2, wup W q (lwE B n q (T, W, g, r)).2.2.2.2.1, gup g (2 + q), (lwE B n q (T, W, g, r)).1) y3 ∧ cLx t x y3 := by
        intro y2 y3 I2 F2 E3 F3
        have ok := (eGo_ok (B := B) (n := n) (f := T.1 7) (n + 1) (pGo B n (pGo B n r), true, 0, (fun _ => 0), W q, 0, T.1 7) (fun _ => ⟨(I2.2.2.2.1.2.2.1 rfl).1, by show T.1 7 + (W q).1 + 0 = T.1 7; rw [(kW q hq).2 gf]; rfl, k7, rfl, Nat.zero_le _, fun j hj => absurd hj (Nat.not_lt_zero j)⟩) (fun _ => by show n + 1 ≤ (pGo B n (pGo B n r)).1 + (n + 1); omega)).1
        have ok : eOk n (T.1 7) (lwE B n q (T, W, g, r)) := ok
        generalize lwE B n q (T, W, g, r) = R at E3 ok ⊢
        have f2 : ∀ m j, t ≤ m → y2.1 m j = z.1 m j := fun m j hm => cU_T ht hm (cU_s F2)
        have f3 : ∀ m j, t ≤ m → ¬ (m = t ∧ j = 18) → ¬ (m = a ∧ j = 1) → ¬ m = a + 10 → ¬ m = a + 20 → y3.1 m j = z.1 m j := fun m j hm e1 e2 e3 e4 => (F3.1 m j (by omega) (by omega) (by omega) e1 e2 e3 e4).trans (f2 m j hm)
        have f4 : ∀ m j, t ≤ m → ¬ (m = t ∧ j = 18) → ¬ m = a → ¬ m = a + 10 → ¬ m = a + 20 → y3.1 m j = x.1 m j := fun m j hm e1 e2 e3 e4 => by rw [f3 m j hm e1 (fun e => e2 e.1) e3 e4, hz, aWr_n _ _ _ e2, fr1 m j hm]
        have g2 : ∀ j, j = 2 ∨ j = 3 → y3.1 bRd j = x.1 bRd j := fun j hj => by rw [F3.1 _ _ (fun e => absurd e.1 (by decide)) (by omega) (by omega) (by omega) (by omega) (by omega) (by omega), F2.1 _ _ (fun e => absurd e.1 (by decide)), hz, aWr_n _ _ _ (show bRd ≠ a by omega), F1.1 _ _ (fun e => absurd e.1 (by decide))]
        have G : ∀ i, i < 2 → gup g (2 + q) i = g i := fun i hi => by unfold gup; rw [if_neg (by omega)]
        refine ⟨⟨⟨ht, E3.1.2.1, E3.1.2.2.1, E3.1.2.2.2, rT_knots (y := y3) (k := R.2.2.2.2.2.2) hT bd (fun m j h1 h2 e => f4 m j h1 e (by omega) (by omega) (by omega)) E3.2.2.2.2.2, bd⟩, ?_, ?_, fun p hp => ?_, fun e => ?_⟩, ?_⟩
        · rw [g2 2 (Or.inl rfl)]; show _ = bI (gup g (2 + q) 0); rw [G 0 (by decide)]; exact h2
        · rw [g2 3 (Or.inr rfl)]; show _ = bI (gup g (2 + q) 1); rw [G 1 (by decide)]; exact h3
        · show y3.1 (t + (130 + p)) 0 = bI (gup g (2 + q) (2 + p)) ∧ rLw (wup W q R.2.2.2.2.1 p) y3 (t + (130 + p))
          by_cases e : p = q
          · subst e
            rw [show gup g (2 + p) (2 + p) = true from by unfold gup; rw [if_pos rfl], show wup W p R.2.2.2.2.1 p = R.2.2.2.2.1 from by unfold wup; rw [if_pos rfl], ← haa]
            exact ⟨by rw [f3 _ _ (by omega) (by omega) (by omega) (by omega) (by omega), hz, aWr_s]; rfl, E3.2.2.2.1⟩
          · rw [show gup g (2 + q) (2 + p) = g (2 + p) from by unfold gup; rw [if_neg (by omega)], show wup W q R.2.2.2.2.1 p = W p from by unfold wup; rw [if_neg e]]
            obtain ⟨u, v, w⟩ := hL p hp
            exact ⟨by rw [f4 _ _ (by omega) (by omega) (by omega) (by omega) (by omega)]; exact u, by rw [f4 _ _ (by omega) (by omega) (by omega) (by omega) (by omega)]; exact v, fun i hi => by rw [f4 _ _ (by omega) (by omega) (by omega) (by omega) (by omega), f4 _ _ (by omega) (by omega) (by omega) (by omega) (by omega)]; exact w i hi⟩
        · obtain ⟨o1, o2, o3, -⟩ := ok e
          refine ⟨o3, fun p hp => ?_⟩
          show (wup W q R.2.2.2.2.1 p).1 ≤ 64 ∧ (gup g (2 + q) (2 + p) = false → (wup W q R.2.2.2.2.1 p).1 = 0)
          by_cases e : p = q
          · subst e
            rw [show gup g (2 + p) (2 + p) = true from by unfold gup; rw [if_pos rfl], show wup W p R.2.2.2.2.1 p = R.2.2.2.2.1 from by unfold wup; rw [if_pos rfl]]
            exact ⟨by omega, fun e => absurd e (by decide)⟩
          · rw [show gup g (2 + q) (2 + p) = g (2 + p) from by unfold gup; rw [if_neg (by omega)], show wup W q R.2.2.2.2.1 p = W p from by unfold wup; rw [if_neg e]]
            exact kW p hp
        · refine cLx_t (cLx_u (cU_s F1)) (cLx_t (y := z) ?_ (cLx_t (cLx_u (cU_s F2)) (cLx_e (by omega) (by omega) F3)))
          rw [hz]; exact ⟨fun m j _ _ _ e => by rw [aWr_n _ _ _ (show m ≠ a by omega)], rfl⟩
      refine a_aload_n (i := 2) dX3_readLaw_79 rfl rfl ?_
      refine gX3_201 rfl dX3_readLaw_80 (isa) ?_
      rw [it0]
      refine a_if_eq (tg := 92) dX3_readLaw_83 (by decide) (fun c_83 => ?_) (fun c_83 => ?_)
      · refine a_aload_n (i := 2) dX3_readLaw_92 rfl rfl ?_
        refine a_iconst (v := 1) dX3_readLaw_93 (by decide) ?_
        refine pX3_201 rfl dX3_readLaw_94 (isa) (by first | exact Or.inl rfl | exact Or.inr rfl | assumption) ?_
        rw [← hz]
        refine a_aload_n (i := 0) dX3_readLaw_97 rfl rfl ?_
        refine gX3_12 rfl dX3_readLaw_98 (isRd_0 hD) ?_
        refine kgX3_83 rfl dX3_readLaw_101 (Nat.le_of_ble_eq_true rfl) (isTp_0 hD) (c_X7_step hD Iz.2.2.1 (cP_n Iz.2.2.2.1 rfl).1 (cP_n Iz.2.2.2.1 rfl).2) ?_
        rintro v y2 ⟨rfl, u2, F2⟩
        have I2 := cI_go Iz rfl u2 F2
        have L2 : rLw (W q) y2 a := ⟨by rw [cU_T ht (by omega) (cU_s F2), hz, aWr_j _ _ _ (by decide), fr1 _ _ (by omega)]; exact hLq2.1, fun i hi => by rw [cU_T ht (by omega) (cU_s F2), cU_T ht (by omega) (cU_s F2), hz, aWr_n _ _ _ (show a + 10 ≠ a by omega), aWr_n _ _ _ (show a + 20 ≠ a by omega), fr1 _ _ (by omega), fr1 _ _ (by omega)]; exact hLq2.2 i hi⟩
        refine a_aload_n (i := 0) dX3_readLaw_104 rfl rfl ?_
        refine a_aload_n (i := 2) dX3_readLaw_105 rfl rfl ?_
        refine kgX3_206 rfl dX3_readLaw_106 (Nat.le_of_ble_eq_true rfl) (isRd_0 hD) (c_X3_readValue (L := W q) (kn := T.1 7) hD hA (cJ_i I2) rfl L2 ((kW q hq).2 gf) I2.2.2.2.2.1.2.2.2.2.2.2.2.1 k7) ?_
        rintro v y3 ⟨rfl, E3, F3⟩
        exact a_vret dX3_readLaw_109 (by exact ⟨rfl, K y2 y3 I2 F2 E3 F3⟩)
      · exact absurd rfl c_83
  have t1 : k < 39 := by
    have := (tok_ok (B := B) (hr.2.2.1 h0).1).2.2.2.1
    have := (tok_ok (B := B) (i := (pGo B n r).1) this).2.2.2.2.2.1
    omega
  have nk : ∀ c : Nat, c < 39 → ¬ k = c → ¬ nI k = nI c := fun c hc q e => q ((nI_eq (by omega) (by omega)).mp e)
  have Q9 : ¬ (9 ≤ k ∧ k ≤ 11) → aV l mX3_readLaw (d + 8) D none 0 [(0, .ref bRd)] [] x (fun v y => v = none ∧ cK n B t (T, W, g, pFl B n 1 (pGo B n r)) y ∧ cLx t x y) := by
    intro no
    have q9 : ¬ k = 9 := by omega
    have q10 : ¬ k = 10 := by omega
    have q11 : ¬ k = 11 := by omega
    refine a_aload_n (i := 0) dX3_readLaw_0 rfl rfl ?_
    refine gX3_12 rfl dX3_readLaw_1 (isRd_0 hD) ?_
    refine kgX3_83 rfl dX3_readLaw_4 (Nat.le_of_ble_eq_true rfl) (isTp_0 hD) (c_X7_step hD hk (cP_n hr h0).1 (cP_n hr h0).2) ?_
    rintro v y1 ⟨rfl, u1, F1⟩
    have C1 := cI_go I h0 u1 F1
    have kd : y1.1 bTp 4 = nI k := by rw [hkk]; exact (C1.2.2.2.1.2.2.1 rfl).2.1.2.1
    have fl := cP_fl (c := 1) C1.2.2.2.1 rfl (by decide) (by decide)
    refine a_aload_n (i := 0) dX3_readLaw_7 rfl rfl ?_
    refine gX3_12 rfl dX3_readLaw_8 (isRd_0 hD) ?_
    refine gX3_50 rfl dX3_readLaw_11 (isTp_0 hD) ?_
    rw [kd]
    refine a_istore_n (i := 1) dX3_readLaw_14 rfl (by decide) ?_
    refine a_iload_n (i := 1) dX3_readLaw_15 rfl rfl ?_
    refine a_bipush (v := 9) dX3_readLaw_16 (by decide) ?_
    refine a_icmp_eq (tg := 39) dX3_readLaw_18 (by decide) (fun c_18 => ?_) (fun c_18 => ?_)
    · exact absurd c_18 (nk 9 (by decide) q9)
    · refine a_iload_n (i := 1) dX3_readLaw_21 rfl rfl ?_
      refine a_bipush (v := 10) dX3_readLaw_22 (by decide) ?_
      refine a_icmp_eq (tg := 39) dX3_readLaw_24 (by decide) (fun c_24 => ?_) (fun c_24 => ?_)
      · exact absurd c_24 (nk 10 (by decide) q10)
      · refine a_iload_n (i := 1) dX3_readLaw_27 rfl rfl ?_
        refine a_bipush (v := 11) dX3_readLaw_28 (by decide) ?_
        refine a_icmp_eq (tg := 39) dX3_readLaw_30 (by decide) (fun c_30 => ?_) (fun c_30 => ?_)
        · exact absurd c_30 (nk 11 (by decide) q11)
        · refine a_aload_n (i := 0) dX3_readLaw_33 rfl rfl ?_
          refine a_iconst (v := 1) dX3_readLaw_34 (by decide) ?_
          refine kX3_77 rfl dX3_readLaw_35 (Nat.le_of_ble_eq_true rfl) (isRd_0 hD) (c_X3_fail (c := 1) hD C1.2.2.2.1 rfl) ?_
          exact a_vret dX3_readLaw_38 (by exact ⟨rfl, cK_ln H (cI_u C1 fl.1 fl.2) (cLn_u (cU_t (cU_s F1) fl.2)) rfl (mon_t (mon_go h0) (mon_fl (by decide))), cLx_u (cU_t (cU_s F1) fl.2)⟩)
  have Q1 : ∀ q, q < 3 → k = 9 + q → aV l mX3_readLaw (d + 8) D none 0 [(0, .ref bRd)] [] x (fun v y => v = none ∧ cK n B t (if g (2 + q) = true then (T, W, g, pFl B n 3 (pGo B n r)) else (tu1 T 7 (lwE B n q (T, W, g, r)).2.2.2.2.2.2, wup W q (lwE B n q (T, W, g, r)).2.2.2.2.1, gup g (2 + q), (lwE B n q (T, W, g, r)).1)) y ∧ cLx t x y) := by
    intro q hq kq
    rcases (by omega : q = 0 ∨ q = 1 ∨ q = 2) with rfl | rfl | rfl
    · have m := M 0 (t + 130) (by decide) (by omega) kq
      have ek : nI k = 9 := by rw [kq]; rfl
      refine a_aload_n (i := 0) dX3_readLaw_0 rfl rfl ?_
      refine gX3_12 rfl dX3_readLaw_1 (isRd_0 hD) ?_
      refine kgX3_83 rfl dX3_readLaw_4 (Nat.le_of_ble_eq_true rfl) (isTp_0 hD) (c_X7_step hD hk (cP_n hr h0).1 (cP_n hr h0).2) ?_
      rintro v y1 ⟨rfl, u1, F1⟩
      have C1 := cI_go I h0 u1 F1
      have kd : y1.1 bTp 4 = nI k := by rw [hkk]; exact (C1.2.2.2.1.2.2.1 rfl).2.1.2.1
      have m1 := m y1 9 C1 F1
      refine a_aload_n (i := 0) dX3_readLaw_7 rfl rfl ?_
      refine gX3_12 rfl dX3_readLaw_8 (isRd_0 hD) ?_
      refine gX3_50 rfl dX3_readLaw_11 (isTp_0 hD) ?_
      rw [kd, ek]
      refine a_istore_n (i := 1) dX3_readLaw_14 rfl (by decide) ?_
      refine a_iload_n (i := 1) dX3_readLaw_15 rfl rfl ?_
      refine a_bipush (v := 9) dX3_readLaw_16 (by decide) ?_
      refine a_icmp_eq (tg := 39) dX3_readLaw_18 (by decide) (fun c_18 => ?_) (fun c_18 => ?_)
      · refine a_iload_n (i := 1) dX3_readLaw_39 rfl rfl ?_
        refine a_bipush (v := 9) dX3_readLaw_40 (by decide) ?_
        refine a_icmp_ne (tg := 55) dX3_readLaw_42 (by decide) (fun c_42 => ?_) (fun c_42 => ?_)
        · exact absurd rfl c_42
        · refine a_aload_n (i := 0) dX3_readLaw_45 rfl rfl ?_
          refine gX3_21 rfl dX3_readLaw_46 (isRd_0 hD) ?_
          rw [C1.2.1]
          refine gX3_191 rfl dX3_readLaw_49 (isT_0 hD ht) ?_
          refine a_goto (tg := 78) dX3_readLaw_52 (by decide) ?_
          refine a_astore_n (i := 2) dX3_readLaw_78 rfl (by decide) ?_
          exact a_loc _ rfl m1
      · exact absurd rfl c_18
    · have m := M 1 (t + 131) (by decide) (by omega) kq
      have ek : nI k = 10 := by rw [kq]; rfl
      refine a_aload_n (i := 0) dX3_readLaw_0 rfl rfl ?_
      refine gX3_12 rfl dX3_readLaw_1 (isRd_0 hD) ?_
      refine kgX3_83 rfl dX3_readLaw_4 (Nat.le_of_ble_eq_true rfl) (isTp_0 hD) (c_X7_step hD hk (cP_n hr h0).1 (cP_n hr h0).2) ?_
      rintro v y1 ⟨rfl, u1, F1⟩
      have C1 := cI_go I h0 u1 F1
      have kd : y1.1 bTp 4 = nI k := by rw [hkk]; exact (C1.2.2.2.1.2.2.1 rfl).2.1.2.1
      have m1 := m y1 10 C1 F1
      refine a_aload_n (i := 0) dX3_readLaw_7 rfl rfl ?_
      refine gX3_12 rfl dX3_readLaw_8 (isRd_0 hD) ?_
      refine gX3_50 rfl dX3_readLaw_11 (isTp_0 hD) ?_
      rw [kd, ek]
      refine a_istore_n (i := 1) dX3_readLaw_14 rfl (by decide) ?_
      refine a_iload_n (i := 1) dX3_readLaw_15 rfl rfl ?_
      refine a_bipush (v := 9) dX3_readLaw_16 (by decide) ?_
      refine a_icmp_eq (tg := 39) dX3_readLaw_18 (by decide) (fun c_18 => ?_) (fun c_18 => ?_)
      · exact absurd c_18 (by decide)
      · refine a_iload_n (i := 1) dX3_readLaw_21 rfl rfl ?_
        refine a_bipush (v := 10) dX3_readLaw_22 (by decide) ?_
        refine a_icmp_eq (tg := 39) dX3_readLaw_24 (by decide) (fun c_24 => ?_) (fun c_24 => ?_)
        · refine a_iload_n (i := 1) dX3_readLaw_39 rfl rfl ?_
          refine a_bipush (v := 9) dX3_readLaw_40 (by decide) ?_
          refine a_icmp_ne (tg := 55) dX3_readLaw_42 (by decide) (fun c_42 => ?_) (fun c_42 => ?_)
          · refine a_iload_n (i := 1) dX3_readLaw_55 rfl rfl ?_
            refine a_bipush (v := 10) dX3_readLaw_56 (by decide) ?_
            refine a_icmp_ne (tg := 71) dX3_readLaw_58 (by decide) (fun c_58 => ?_) (fun c_58 => ?_)
            · exact absurd rfl c_58
            · refine a_aload_n (i := 0) dX3_readLaw_61 rfl rfl ?_
              refine gX3_21 rfl dX3_readLaw_62 (isRd_0 hD) ?_
              rw [C1.2.1]
              refine gX3_195 rfl dX3_readLaw_65 (isT_0 hD ht) ?_
              refine a_goto (tg := 78) dX3_readLaw_68 (by decide) ?_
              refine a_astore_n (i := 2) dX3_readLaw_78 rfl (by decide) ?_
              exact a_loc _ rfl m1
          · exact absurd c_42 (by decide)
        · exact absurd rfl c_24
    · have m := M 2 (t + 132) (by decide) (by omega) kq
      have ek : nI k = 11 := by rw [kq]; rfl
      refine a_aload_n (i := 0) dX3_readLaw_0 rfl rfl ?_
      refine gX3_12 rfl dX3_readLaw_1 (isRd_0 hD) ?_
      refine kgX3_83 rfl dX3_readLaw_4 (Nat.le_of_ble_eq_true rfl) (isTp_0 hD) (c_X7_step hD hk (cP_n hr h0).1 (cP_n hr h0).2) ?_
      rintro v y1 ⟨rfl, u1, F1⟩
      have C1 := cI_go I h0 u1 F1
      have kd : y1.1 bTp 4 = nI k := by rw [hkk]; exact (C1.2.2.2.1.2.2.1 rfl).2.1.2.1
      have m1 := m y1 11 C1 F1
      refine a_aload_n (i := 0) dX3_readLaw_7 rfl rfl ?_
      refine gX3_12 rfl dX3_readLaw_8 (isRd_0 hD) ?_
      refine gX3_50 rfl dX3_readLaw_11 (isTp_0 hD) ?_
      rw [kd, ek]
      refine a_istore_n (i := 1) dX3_readLaw_14 rfl (by decide) ?_
      refine a_iload_n (i := 1) dX3_readLaw_15 rfl rfl ?_
      refine a_bipush (v := 9) dX3_readLaw_16 (by decide) ?_
      refine a_icmp_eq (tg := 39) dX3_readLaw_18 (by decide) (fun c_18 => ?_) (fun c_18 => ?_)
      · exact absurd c_18 (by decide)
      · refine a_iload_n (i := 1) dX3_readLaw_21 rfl rfl ?_
        refine a_bipush (v := 10) dX3_readLaw_22 (by decide) ?_
        refine a_icmp_eq (tg := 39) dX3_readLaw_24 (by decide) (fun c_24 => ?_) (fun c_24 => ?_)
        · exact absurd c_24 (by decide)
        · refine a_iload_n (i := 1) dX3_readLaw_27 rfl rfl ?_
          refine a_bipush (v := 11) dX3_readLaw_28 (by decide) ?_
          refine a_icmp_eq (tg := 39) dX3_readLaw_30 (by decide) (fun c_30 => ?_) (fun c_30 => ?_)
          · refine a_iload_n (i := 1) dX3_readLaw_39 rfl rfl ?_
            refine a_bipush (v := 9) dX3_readLaw_40 (by decide) ?_
            refine a_icmp_ne (tg := 55) dX3_readLaw_42 (by decide) (fun c_42 => ?_) (fun c_42 => ?_)
            · refine a_iload_n (i := 1) dX3_readLaw_55 rfl rfl ?_
              refine a_bipush (v := 10) dX3_readLaw_56 (by decide) ?_
              refine a_icmp_ne (tg := 71) dX3_readLaw_58 (by decide) (fun c_58 => ?_) (fun c_58 => ?_)
              · refine a_aload_n (i := 0) dX3_readLaw_71 rfl rfl ?_
                refine gX3_21 rfl dX3_readLaw_72 (isRd_0 hD) ?_
                rw [C1.2.1]
                refine gX3_198 rfl dX3_readLaw_75 (isT_0 hD ht) ?_
                refine a_astore_n (i := 2) dX3_readLaw_78 rfl (by decide) ?_
                exact a_loc _ rfl m1
              · exact absurd c_58 (by decide)
            · exact absurd c_42 (by decide)
          · exact absurd rfl c_30
  by_cases q9 : 9 ≤ k ∧ k ≤ 11
  · rw [if_neg (fun e => e q9)]
    exact a_loc _ rfl (Q1 (k - 9) (by omega) (by omega))
  · rw [if_pos q9]
    exact a_loc _ rfl (Q9 q9)
/-- the tape starts -/
theorem jmin_700 {n : Nat} (h : n ≤ 700) : (if (700 : Int32) < nI n then 700 else nI n) = nI n := by rw [if_neg (show ¬ (700 : Int32) < nI n from nI_nlt (a := 700) h (by decide))]
set_option maxHeartbeats 4000000 in
set_option maxRecDepth 100000 in
theorem c_X7_start (hD : aDC D) (hn : n ≤ 700) (hB : ∀ i, i < n → B i < 256 ∧ x.1 (bTp + 2) i = sB (B i)) : aCt l mX7_start (d + 7) D [.ref bTp, .int (nI n)] x (fun v y => v = none ∧ cTk n B y ∧ rK (tok B n 0) y ∧ (∀ m j, ¬ (m = bTp ∧ 2 ≤ j ∧ j ≤ 6) → y.1 m j = x.1 m j) ∧ y.2 = x.2) := by
  refine a_met (by decide) (Nat.le_of_ble_eq_true rfl) (fun v y q => Or.inr (Or.inr (Or.inr ⟨rfl, q.1⟩))) ?_
  have k : cTk n B (aWr (aWr x bTp 2 (nI n)) bTp 3 0) := ⟨by rw [aWr_j _ _ _ (by decide), aWr_s], hn, fun i hi => ⟨(hB i hi).1, by rw [aWr_n _ _ _ (by decide), aWr_n _ _ _ (by decide)]; exact (hB i hi).2⟩⟩
  have k3 : (aWr (aWr x bTp 2 (nI n)) bTp 3 0).1 bTp 3 = nI 0 := aWr_s _ _ _ _
  refine a_aload_n (i := 0) dX7_start_0 rfl rfl ?_
  refine a_iload_n (i := 1) dX7_start_1 rfl rfl ?_
  refine a_sipush (v := 700) dX7_start_2 (by decide) ?_
  refine kX7_22 rfl dX7_start_5 (Nat.le_of_ble_eq_true rfl) ?_
  rw [jmin_700 hn]
  refine pX7_28 rfl dX7_start_8 (isTp_0 hD) ?_
  refine a_aload_n (i := 0) dX7_start_11 rfl rfl ?_
  refine a_iconst (v := 0) dX7_start_12 (by decide) ?_
  refine pX7_31 rfl dX7_start_13 (isTp_0 hD) ?_
  refine a_aload_n (i := 0) dX7_start_16 rfl rfl ?_
  refine kgX7_34 rfl dX7_start_17 (Nat.le_of_ble_eq_true rfl) (isTp_0 hD) (c_X7_step (i := 0) hD k k3 (Nat.zero_le n)) ?_
  rintro v y ⟨rfl, u, F⟩
  exact a_vret dX7_start_20 (by exact ⟨rfl, cTk_s k F, u, fun m j e => by rw [F.1 m j (by omega), aWr_o _ _ (by omega), aWr_o _ _ (by omega)], F.2⟩)
end qAT
