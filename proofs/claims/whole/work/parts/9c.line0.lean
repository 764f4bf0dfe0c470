/-! READING, the class: what holds between lines -/
def tBd (T : zT) : Prop := T.1 0 ≤ 6 ∧ T.1 1 ≤ 8 ∧ T.1 2 ≤ 14 ∧ T.1 3 ≤ 6 ∧ T.1 4 ≤ 4
theorem rT_fr {T : zT} {x y : aS} {t : Nat} (b : tBd T) (h : ∀ m j, t ≤ m → m < t + 130 → y.1 m j = x.1 m j) (hT : rT T x t) : rT T y t := by
  obtain ⟨b0, b1, b2, b3, b4⟩ := b
  obtain ⟨h1, h2, h3, h4, h5, h6, h7, h8, h9, h10, h11, h12, h13, h14⟩ := hT
  refine ⟨by rw [h _ _ (by omega) (by omega)]; exact h1, by rw [h _ _ (by omega) (by omega)]; exact h2, by rw [h _ _ (by omega) (by omega)]; exact h3, by rw [h _ _ (by omega) (by omega)]; exact h4, by rw [h _ _ (by omega) (by omega)]; exact h5, by rw [h _ _ (by omega) (by omega)]; exact h6, by rw [h _ _ (by omega) (by omega)]; exact h7, by rw [h _ _ (by omega) (by omega)]; exact h8, by rw [h _ _ (by omega) (by omega)]; exact h9, fun i hi => ?_, fun i hi => ?_, fun i hi => ?_, fun i hi => ?_, fun i hi => ?_⟩
  · rw [h _ _ (by omega) (by omega), h _ _ (by omega) (by omega)]; exact h10 i hi
  · rw [h _ _ (by omega) (by omega), h _ _ (by omega) (by omega), h _ _ (by omega) (by omega), h _ _ (by omega) (by omega), h _ _ (by omega) (by omega)]; exact h11 i hi
  · rw [h _ _ (by omega) (by omega), h _ _ (by omega) (by omega), h _ _ (by omega) (by omega), h _ _ (by omega) (by omega), h _ _ (by omega) (by omega)]; exact h12 i hi
  · rw [h _ _ (by omega) (by omega), h _ _ (by omega) (by omega), h _ _ (by omega) (by omega)]; exact h13 i hi
  · rw [h _ _ (by omega) (by omega)]; exact h14 i hi
def cI (n : Nat) (B : Nat → Nat) (t : Nat) (T : zT) (r : zP) (x : aS) : Prop := aTdB t ∧ (x.1 bRd 1).toNatClampNeg * 256 = t ∧ cTk n B x ∧ cP n B r x ∧ rT T x t ∧ tBd T
/-- frame of a line -/
def cLn (t : Nat) (x y : aS) : Prop := (∀ m j, ¬ (m = bTp ∧ 3 ≤ j ∧ j ≤ 6) → ¬ (m = bRd ∧ (j = 7 ∨ j = 8)) → ¬ (t ≤ m ∧ m < t + 130) → y.1 m j = x.1 m j) ∧ y.2 = x.2
theorem cLn_t {t : Nat} {x y z : aS} (h : cLn t x y) (g : cLn t y z) : cLn t x z := ⟨fun m j e f k => (g.1 m j e f k).trans (h.1 m j e f k), g.2.trans h.2⟩
theorem cLn_u {t : Nat} {x y : aS} (h : cU x y) : cLn t x y := ⟨fun m j e f _ => h.1 m j e f, h.2⟩
theorem cLn_w {t c j : Nat} {v : Int32} {x : aS} (h1 : t ≤ c) (h : c < t + 130) : cLn t x (aWr x c j v) := ⟨fun m k _ _ e => by rw [aWr_n _ _ _ (show m ≠ c by omega)], rfl⟩
section qAJ
variable {l : Launch} {d : Nat} {D : Nat → Bool} {x y : aS} {n t : Nat} {B : Nat → Nat} {r r' : zP} {T : zT}
theorem cI_u (h : cI n B t T r x) (hp : cP n B r' y) (F : cU x y) : cI n B t T r' y := by
  obtain ⟨ht, h1, h2, h3, h4, h5⟩ := h
  refine ⟨ht, by rw [F.1 _ _ (fun e => absurd e.1 (by decide)) (by omega)]; exact h1, cTk_u h2 F, hp, rT_fr h5 (fun m j a b => F.1 m j (fun e => by have := e.1; rcases ht with rfl | rfl <;> (rw [this] at a; exact absurd a (by decide))) (fun e => by have := e.1; rcases ht with rfl | rfl <;> (rw [this] at a; exact absurd a (by decide)))) h4, h5⟩
theorem cI_go (h : cI n B t T r x) (h0 : r.2.1 = 0) (u : rK (tok B n (tok B n r.1).2.2.2.2) y) (F : cSt x y) : cI n B t T (pGo B n r) y := cI_u h (cP_go h.2.2.2.1 h0 u F) (cU_s F)
/-- the told's cells may be written -/
def cJ (n : Nat) (B : Nat → Nat) (t : Nat) (r : zP) (x : aS) : Prop := aTdB t ∧ (x.1 bRd 1).toNatClampNeg * 256 = t ∧ cTk n B x ∧ cP n B r x
theorem cJ_i (h : cI n B t T r x) : cJ n B t r x := ⟨h.1, h.2.1, h.2.2.1, h.2.2.2.1⟩
theorem cJ_u (h : cJ n B t r x) (hp : cP n B r' y) (F : cU x y) : cJ n B t r' y := by
  obtain ⟨ht, h1, h2, h3⟩ := h
  exact ⟨ht, by rw [F.1 _ _ (fun e => absurd e.1 (by decide)) (by omega)]; exact h1, cTk_u h2 F, hp⟩
theorem cJ_go (h : cJ n B t r x) (h0 : r.2.1 = 0) (u : rK (tok B n (tok B n r.1).2.2.2.2) y) (F : cSt x y) : cJ n B t (pGo B n r) y := cJ_u h (cP_go h.2.2.2 h0 u F) (cU_s F)
theorem tr_ne {m : Nat} (ht : aTdB t) (hm : t ≤ m) : bTp ≠ m ∧ bRd ≠ m ∧ bTp + 2 ≠ m := by
  have e1 : bTp = 512 := by decide
  have e2 : bRd = 256 := by decide
  rcases ht with rfl | rfl <;> omega
theorem cJ_w {m j : Nat} {v : Int32} (h : cJ n B t r x) (hm : t ≤ m) : cJ n B t r (aWr x m j v) := by
  obtain ⟨ht, h1, h2, h3⟩ := h
  obtain ⟨e1, e2, e3⟩ := tr_ne ht hm
  refine ⟨ht, by rw [aWr_n _ _ _ e2]; exact h1, ⟨by rw [aWr_n _ _ _ e1]; exact h2.1, h2.2.1, fun i hi => ⟨(h2.2.2 i hi).1, by rw [aWr_n _ _ _ e3]; exact (h2.2.2 i hi).2⟩⟩, ?_⟩
  obtain ⟨p1, p2, p3, p4⟩ := h3
  refine ⟨by rw [aWr_n _ _ _ e2]; exact p1, p2, fun e => ?_, fun e => by rw [aWr_n _ _ _ e2]; exact p4 e⟩
  obtain ⟨a, ⟨k1, k2, k3, k4⟩, b⟩ := p3 e
  exact ⟨a, ⟨by rw [aWr_n _ _ _ e1]; exact k1, by rw [aWr_n _ _ _ e1]; exact k2, by rw [aWr_n _ _ _ e1]; exact k3, by rw [aWr_n _ _ _ e1]; exact k4⟩, by rw [aWr_n _ _ _ e2]; exact b⟩
theorem cU_T {m j : Nat} (ht : aTdB t) (hm : t ≤ m) (F : cU x y) : y.1 m j = x.1 m j := F.1 _ _ (fun e => (tr_ne ht hm).1 e.1.symm) (fun e => (tr_ne ht hm).2.1 e.1.symm)
theorem newP_0 {f : Nat → Int32} {N : Nat} (h : (newP B n f N r).2.1 = 0) : newP B n f N r = r ∧ (tok B n r.1).1 = 22 := by
  unfold newP at h ⊢
  by_cases q : (tok B n r.1).1 = 22
  · rw [if_neg (fun e => e q)] at h ⊢
    by_cases w : zFind f (nI (tok B n r.1).2.1) 0 N = -1
    · rw [if_neg (fun e => e w)]; exact ⟨rfl, q⟩
    · rw [if_pos w] at h; exact absurd h (by show ¬ 3 = 0; decide)
  · rw [if_pos q] at h; exact absurd h (by show ¬ 1 = 0; decide)
theorem rT_house {k : Nat} {a b : Int32} (h : rT T x t) (bd : tBd T) (hk : k = T.1 0) (fr : ∀ m j, t ≤ m → m < t + 130 → ¬ (m = t + 3 ∧ j = k) → ¬ (m = t + 4 ∧ j = k) → ¬ (m = t ∧ j = 1) → y.1 m j = x.1 m j) (ha : y.1 (t + 3) k = a) (hb : y.1 (t + 4) k = b) (hc : y.1 t 1 = nI (k + 1)) : rT (tu1 (tui (tui T 0 k a) 1 k b) 0 (k + 1)) y t := by
  obtain ⟨b0, b1, b2, b3, b4⟩ := bd
  obtain ⟨h1, h2, h3, h4, h5, h6, h7, h8, h9, h10, h11, h12, h13, h14⟩ := h
  have F : ∀ m j, t ≤ m → m < t + 130 → ¬ m = t + 3 → ¬ m = t + 4 → ¬ (m = t ∧ j = 1) → y.1 m j = x.1 m j := fun m j a b c d e => fr m j a b (fun g => c g.1) (fun g => d g.1) e
  refine ⟨hc, by rw [F _ _ (by omega) (by omega) (by omega) (by omega) (by omega)]; exact h2, by rw [F _ _ (by omega) (by omega) (by omega) (by omega) (by omega)]; exact h3, by rw [F _ _ (by omega) (by omega) (by omega) (by omega) (by omega)]; exact h4, by rw [F _ _ (by omega) (by omega) (by omega) (by omega) (by omega)]; exact h5, by rw [F _ _ (by omega) (by omega) (by omega) (by omega) (by omega)]; exact h6, by rw [F _ _ (by omega) (by omega) (by omega) (by omega) (by omega)]; exact h7, by rw [F _ _ (by omega) (by omega) (by omega) (by omega) (by omega)]; exact h8, by rw [F _ _ (by omega) (by omega) (by omega) (by omega) (by omega)]; exact h9, fun i hi => ?_, fun i hi => ?_, fun i hi => ?_, fun i hi => ?_, fun i hi => ?_⟩
  · have hi : i < k + 1 := hi
    show y.1 (t + 3) i = (if 0 = 1 ∧ i = k then b else if 0 = 0 ∧ i = k then a else T.2.1 0 i) ∧ y.1 (t + 4) i = (if 1 = 1 ∧ i = k then b else if 1 = 0 ∧ i = k then a else T.2.1 1 i)
    by_cases e : i = k
    · subst e; simp [ha, hb]
    · have := h10 i (by omega)
      rw [if_neg (fun g => e g.2), if_neg (fun g => e g.2), if_neg (fun g => e g.2), if_neg (fun g => e g.2), fr _ _ (by omega) (by omega) (by omega) (by omega) (by omega), fr _ _ (by omega) (by omega) (by omega) (by omega) (by omega)]
      exact this
  · rw [F _ _ (by omega) (by omega) (by omega) (by omega) (by omega), F _ _ (by omega) (by omega) (by omega) (by omega) (by omega), F _ _ (by omega) (by omega) (by omega) (by omega) (by omega), F _ _ (by omega) (by omega) (by omega) (by omega) (by omega), F _ _ (by omega) (by omega) (by omega) (by omega) (by omega)]; exact h11 i hi
  · have hi : i < T.1 2 := hi
    rw [F _ _ (by omega) (by omega) (by omega) (by omega) (by omega), F _ _ (by omega) (by omega) (by omega) (by omega) (by omega), F _ _ (by omega) (by omega) (by omega) (by omega) (by omega), F _ _ (by omega) (by omega) (by omega) (by omega) (by omega), F _ _ (by omega) (by omega) (by omega) (by omega) (by omega)]; exact h12 i hi
  · have hi : i < T.1 3 := hi
    rw [F _ _ (by omega) (by omega) (by omega) (by omega) (by omega), F _ _ (by omega) (by omega) (by omega) (by omega) (by omega), F _ _ (by omega) (by omega) (by omega) (by omega) (by omega)]; exact h13 i hi
  · rw [F _ _ (by omega) (by omega) (by omega) (by omega) (by omega)]; exact h14 i hi
set_option maxHeartbeats 4000000 in
set_option maxRecDepth 100000 in
theorem c_X3_readHouse (hD : aDC D) (I : cI n B t T r x) (h0 : r.2.1 = 0) : aCt l mX3_readHouse (d + 8) D [.ref bRd] x (fun v y => v = none ∧ cI n B t (lnHouse B n T r).1 (lnHouse B n T r).2 y ∧ cLn t x y) := by
  obtain ⟨ht, hp, hk, hr, hT, bd⟩ := id I
  have e1 : x.1 t 1 = nI (T.1 0) := hT.1
  refine a_met (by decide) (Nat.le_of_ble_eq_true rfl) (fun v y q => Or.inr (Or.inr (Or.inr ⟨rfl, q.1⟩))) ?_
  unfold lnHouse
  by_cases g : 6 ≤ T.1 0
  · rw [if_pos g]
    have e6 : T.1 0 = 6 := by have := bd.1; omega
    rw [e6] at e1
    have fl := cP_fl (c := 2) hr h0 (by decide) (by decide)
    refine a_aload_n (i := 0) dX3_readHouse_0 rfl rfl ?_
    refine gX3_21 rfl dX3_readHouse_1 (isRd_0 hD) ?_
    rw [hp]
    refine gX3_92 rfl dX3_readHouse_4 (isT_0 hD ht) ?_
    rw [e1]
    refine a_istore_n (i := 1) dX3_readHouse_7 rfl (by decide) ?_
    refine a_iload_n (i := 1) dX3_readHouse_8 rfl rfl ?_
    refine a_bipush (v := 6) dX3_readHouse_9 (by decide) ?_
    refine a_icmp_lt (tg := 20) dX3_readHouse_11 (by decide) (fun c_11 => ?_) (fun c_11 => ?_)
    · exact absurd c_11 (by decide)
    · refine a_aload_n (i := 0) dX3_readHouse_14 rfl rfl ?_
      refine a_iconst (v := 2) dX3_readHouse_15 (by decide) ?_
      refine kX3_77 rfl dX3_readHouse_16 (Nat.le_of_ble_eq_true rfl) (isRd_0 hD) (c_X3_fail (c := 2) hD hr h0) ?_
      exact a_vret dX3_readHouse_19 (by exact ⟨rfl, cI_u I fl.1 fl.2, cLn_u fl.2⟩)
  · rw [if_neg g]
    have lt6 : nI (T.1 0) < 6 := nI_lt (b := 6) (by omega) (by decide)
    by_cases w : (newP B n (T.2.1 0) (T.1 0) (pGo B n r)).2.1 = 0
    · rw [if_neg (fun e => e w)]
      obtain ⟨w1, w2⟩ := newP_0 w
      have K : ∀ y2 z y3 y4 Y : aS, cI n B t T (pGo B n r) y2 → cLn t x y2 → z = aWr y2 (t + 3) (T.1 0) (nI (tok B n (pGo B n r).1).2.1) → cU z y3 → cU y3 y4 → cJ n B t (numP B n 0 99 (pGo B n (pGo B n r))).1 y4 → Y = aWr (aWr y4 (t + 4) (T.1 0) (nI (numP B n 0 99 (pGo B n (pGo B n r))).2)) t 1 (nI (T.1 0 + 1)) → cI n B t (tu1 (tui (tui T 0 (T.1 0) (nI (tok B n (pGo B n r).1).2.1)) 1 (T.1 0) (nI (numP B n 0 99 (pGo B n (pGo B n r))).2)) 0 (T.1 0 + 1)) (numP B n 0 99 (pGo B n (pGo B n r))).1 Y ∧ cLn t x Y := by
        intro y2 z y3 y4 Y I2 G hz F3 F4 C4 hY
        have J := cJ_w (m := t) (j := 1) (v := nI (T.1 0 + 1)) (cJ_w (m := t + 4) (j := T.1 0) (v := nI (numP B n 0 99 (pGo B n (pGo B n r))).2) C4 (by omega)) (Nat.le_refl t)
        rw [← hY] at J
        have T4 : ∀ m j, t ≤ m → y4.1 m j = z.1 m j := fun m j hm => (cU_T ht hm F4).trans (cU_T ht hm F3)
        have R := rT_house (y := Y) (k := T.1 0) (a := nI (tok B n (pGo B n r).1).2.1) (b := nI (numP B n 0 99 (pGo B n (pGo B n r))).2) I2.2.2.2.2.1 bd rfl (fun m j h1 h2 e3 e4 e1 => by rw [hY, aWr_o _ _ e1, aWr_o _ _ e4, T4 m j h1, hz, aWr_o _ _ e3]) (by rw [hY, aWr_n _ _ _ (show t + 3 ≠ t by omega), aWr_n _ _ _ (show t + 3 ≠ t + 4 by omega), T4 _ _ (by omega), hz, aWr_s]) (by rw [hY, aWr_n _ _ _ (show t + 4 ≠ t by omega), aWr_s]) (by rw [hY, aWr_s])
        refine ⟨⟨ht, J.2.1, J.2.2.1, J.2.2.2, R, by show T.1 0 + 1 ≤ 6; omega, bd.2⟩, ?_⟩
        rw [hY]
        refine cLn_t (cLn_t (cLn_t (cLn_t G (y := y2) (z := z) ?_) (cLn_u (cU_t F3 F4))) (cLn_w (by omega) (by omega))) (cLn_w (Nat.le_refl t) (by omega))
        rw [hz]; exact cLn_w (by omega) (by omega)
      refine a_aload_n (i := 0) dX3_readHouse_0 rfl rfl ?_
      refine gX3_21 rfl dX3_readHouse_1 (isRd_0 hD) ?_
      rw [hp]
      refine gX3_92 rfl dX3_readHouse_4 (isT_0 hD ht) ?_
      rw [e1]
      refine a_istore_n (i := 1) dX3_readHouse_7 rfl (by decide) ?_
      refine a_iload_n (i := 1) dX3_readHouse_8 rfl rfl ?_
      refine a_bipush (v := 6) dX3_readHouse_9 (by decide) ?_
      refine a_icmp_lt (tg := 20) dX3_readHouse_11 (by decide) (fun c_11 => ?_) (fun c_11 => ?_)
      · refine a_aload_n (i := 0) dX3_readHouse_20 rfl rfl ?_
        refine gX3_12 rfl dX3_readHouse_21 (isRd_0 hD) ?_
        refine kgX3_83 rfl dX3_readHouse_24 (Nat.le_of_ble_eq_true rfl) (isTp_0 hD) (c_X7_step hD hk (cP_n hr h0).1 (cP_n hr h0).2) ?_
        rintro v y1 ⟨rfl, u1, F1⟩
        have C1 := cI_go I h0 u1 F1
        refine a_aload_n (i := 0) dX3_readHouse_27 rfl rfl ?_
        refine a_aload_n (i := 0) dX3_readHouse_28 rfl rfl ?_
        refine gX3_21 rfl dX3_readHouse_29 (isRd_0 hD) ?_
        rw [C1.2.1]
        refine gX3_95 rfl dX3_readHouse_32 (isT_0 hD ht) ?_
        refine a_iload_n (i := 1) dX3_readHouse_35 rfl rfl ?_
        refine kgX3_98 rfl dX3_readHouse_36 (Nat.le_of_ble_eq_true rfl) (isRd_0 hD) (c_X3_isNewName (f := T.2.1 0) hD C1.2.2.2.1 rfl (isT_3 hD ht) (by omega) (by decide) (fun k hk => (C1.2.2.2.2.1.2.2.2.2.2.2.2.2.2.1 k hk).1)) ?_
        rintro v y2 ⟨rfl, u2, F2⟩
        have C2 := cI_u C1 u2 F2
        rw [w1] at C2
        have v2 := (C2.2.2.2.1.2.2.1 rfl).2.1.2.2.2
        rw [bI_t w]
        refine a_if_ne (tg := 43) dX3_readHouse_39 (by decide) (fun c_39 => ?_) (fun c_39 => ?_)
        · refine a_aload_n (i := 0) dX3_readHouse_43 rfl rfl ?_
          refine gX3_21 rfl dX3_readHouse_44 (isRd_0 hD) ?_
          rw [C2.2.1]
          refine gX3_95 rfl dX3_readHouse_47 (isT_0 hD ht) ?_
          refine a_iload_n (i := 1) dX3_readHouse_50 rfl rfl ?_
          refine a_aload_n (i := 0) dX3_readHouse_51 rfl rfl ?_
          refine gX3_12 rfl dX3_readHouse_52 (isRd_0 hD) ?_
          refine gX3_102 rfl dX3_readHouse_55 (isTp_0 hD) ?_
          rw [v2]
          refine a_iastN dX3_readHouse_58 (isT_3 hD ht) (by first | with_reducible exact rfl | with_reducible exact ix8 _ _ | with_reducible exact ix12 _ _ | exact rfl) (by omega) (by decide) ?_
          have Z := cJ_w (m := t + 3) (j := T.1 0) (v := nI (tok B n (pGo B n r).1).2.1) (cJ_i C2) (by omega)
          obtain ⟨z, hz⟩ : ∃ z, z = aWr y2 (t + 3) (T.1 0) (nI (tok B n (pGo B n r).1).2.1) := ⟨_, rfl⟩
          rw [← hz] at Z ⊢
          refine a_aload_n (i := 0) dX3_readHouse_59 rfl rfl ?_
          refine gX3_12 rfl dX3_readHouse_60 (isRd_0 hD) ?_
          refine kgX3_83 rfl dX3_readHouse_63 (Nat.le_of_ble_eq_true rfl) (isTp_0 hD) (c_X7_step hD Z.2.2.1 (cP_n Z.2.2.2 rfl).1 (cP_n Z.2.2.2 rfl).2) ?_
          rintro v y3 ⟨rfl, u3, F3⟩
          have C3 := cJ_go Z rfl u3 F3
          refine a_aload_n (i := 0) dX3_readHouse_66 rfl rfl ?_
          refine gX3_21 rfl dX3_readHouse_67 (isRd_0 hD) ?_
          rw [C3.2.1]
          refine gX3_105 rfl dX3_readHouse_70 (isT_0 hD ht) ?_
          refine a_iload_n (i := 1) dX3_readHouse_73 rfl rfl ?_
          refine a_aload_n (i := 0) dX3_readHouse_74 rfl rfl ?_
          refine a_iconst (v := 0) dX3_readHouse_75 (by decide) ?_
          refine a_bipush (v := 99) dX3_readHouse_76 (by decide) ?_
          refine kgX3_108 rfl dX3_readHouse_78 (Nat.le_of_ble_eq_true rfl) (isRd_0 hD) (c_X3_takeNumber (lo := 0) (hi := 99) hD C3.2.2.1 C3.2.2.2 (by decide) (by decide)) ?_
          rintro v y4 ⟨rfl, u4, F4⟩
          have C4 := cJ_u C3 u4 F4
          refine a_iastN dX3_readHouse_81 (isT_4 hD ht) (by first | with_reducible exact rfl | with_reducible exact ix8 _ _ | with_reducible exact ix12 _ _ | exact rfl) (by omega) (by decide) ?_
          have C5 := cJ_w (m := t + 4) (j := T.1 0) (v := nI (numP B n 0 99 (pGo B n (pGo B n r))).2) C4 (by omega)
          refine a_aload_n (i := 0) dX3_readHouse_82 rfl rfl ?_
          refine gX3_21 rfl dX3_readHouse_83 (isRd_0 hD) ?_
          rw [C5.2.1]
          refine a_dup dX3_readHouse_86 rfl ?_
          refine gX3_92 rfl dX3_readHouse_87 (isT_0 hD ht) ?_
          rw [aWr_n _ _ _ (show t ≠ t + 4 by omega), cU_T ht (Nat.le_refl t) F4, cU_T ht (Nat.le_refl t) (cU_s F3), hz, aWr_n _ _ _ (show t ≠ t + 3 by omega), C2.2.2.2.2.1.1]
          refine a_iconst (v := 1) dX3_readHouse_90 (by decide) ?_
          refine a_iadd dX3_readHouse_91 ?_
          rw [nI_1]
          refine pX3_92 rfl dX3_readHouse_92 (isT_0 hD ht) ?_
          exact a_vret dX3_readHouse_95 (by exact ⟨rfl, K y2 z y3 y4 _ C2 (cLn_u (cU_t (cU_s F1) F2)) hz (cU_s F3) F4 C4 rfl⟩)
        · exact absurd c_39 (by decide)
      · exact absurd lt6 c_11
    · rw [if_pos w]
      refine a_aload_n (i := 0) dX3_readHouse_0 rfl rfl ?_
      refine gX3_21 rfl dX3_readHouse_1 (isRd_0 hD) ?_
      rw [hp]
      refine gX3_92 rfl dX3_readHouse_4 (isT_0 hD ht) ?_
      rw [e1]
      refine a_istore_n (i := 1) dX3_readHouse_7 rfl (by decide) ?_
      refine a_iload_n (i := 1) dX3_readHouse_8 rfl rfl ?_
      refine a_bipush (v := 6) dX3_readHouse_9 (by decide) ?_
      refine a_icmp_lt (tg := 20) dX3_readHouse_11 (by decide) (fun c_11 => ?_) (fun c_11 => ?_)
      · refine a_aload_n (i := 0) dX3_readHouse_20 rfl rfl ?_
        refine gX3_12 rfl dX3_readHouse_21 (isRd_0 hD) ?_
        refine kgX3_83 rfl dX3_readHouse_24 (Nat.le_of_ble_eq_true rfl) (isTp_0 hD) (c_X7_step hD hk (cP_n hr h0).1 (cP_n hr h0).2) ?_
        rintro v y1 ⟨rfl, u1, F1⟩
        have C1 := cI_go I h0 u1 F1
        refine a_aload_n (i := 0) dX3_readHouse_27 rfl rfl ?_
        refine a_aload_n (i := 0) dX3_readHouse_28 rfl rfl ?_
        refine gX3_21 rfl dX3_readHouse_29 (isRd_0 hD) ?_
        rw [C1.2.1]
        refine gX3_95 rfl dX3_readHouse_32 (isT_0 hD ht) ?_
        refine a_iload_n (i := 1) dX3_readHouse_35 rfl rfl ?_
        refine kgX3_98 rfl dX3_readHouse_36 (Nat.le_of_ble_eq_true rfl) (isRd_0 hD) (c_X3_isNewName (f := T.2.1 0) hD C1.2.2.2.1 rfl (isT_3 hD ht) (by omega) (by decide) (fun k hk => (C1.2.2.2.2.1.2.2.2.2.2.2.2.2.2.1 k hk).1)) ?_
        rintro v y2 ⟨rfl, u2, F2⟩
        have C2 := cI_u C1 u2 F2
        rw [bI_f w]
        refine a_if_ne (tg := 43) dX3_readHouse_39 (by decide) (fun c_39 => ?_) (fun c_39 => ?_)
        · exact absurd rfl c_39
        · exact a_vret dX3_readHouse_42 (by exact ⟨rfl, C2, cLn_u (cU_t (cU_s F1) F2)⟩)
      · exact absurd lt6 c_11
end qAJ
