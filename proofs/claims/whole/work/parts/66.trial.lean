/-! trials: the class's copy, the model's; years that go by in them -/
theorem sCpy1_n {b o k len n : Nat} {x : aS} (h : n ≠ b + k) : (sCpy1 b o k len x).1 n = x.1 n := if_neg h
theorem sCpy1_s {b o k len j : Nat} {x : aS} (h : j < len) : (sCpy1 b o k len x).1 (b + k) j = x.1 (o + k) j := by
  show (if b + k = b + k then va_cpy (x.1 (o + k)) (x.1 (b + k)) 0 0 len else x.1 (b + k)) j = _
  rw [if_pos rfl]
  exact sb_cpy0 h
theorem ob_ne {b o k q : Nat} (hb : aStB b) (ho : aStB o) (hne : o ≠ b) (hk : k < 256) (hq : q < 256) : o + k ≠ b + q := by
  rcases hb with rfl | rfl | rfl <;> rcases ho with rfl | rfl | rfl <;> omega
theorem sCopy_at {b o : Nat} {x : aS} (hb : aStB b) (ho : aStB o) (hne : o ≠ b) : (∀ i, i < 4 → (sCopy x b o).1 b i = x.1 o i) ∧ (∀ j, j < 48 → (sCopy x b o).1 (b + 5) j = x.1 (o + 5) j ∧ (sCopy x b o).1 (b + 6) j = x.1 (o + 6) j) ∧ (∀ j, j < 6 → (sCopy x b o).1 (b + 7) j = x.1 (o + 7) j) ∧ (∀ j, j < 72 → (sCopy x b o).1 (b + 8) j = x.1 (o + 8) j ∧ (sCopy x b o).1 (b + 9) j = x.1 (o + 9) j) ∧ (∀ j, j < 8 → (sCopy x b o).1 (b + 10) j = x.1 (o + 10) j ∧ (sCopy x b o).1 (b + 11) j = x.1 (o + 11) j ∧ (sCopy x b o).1 (b + 12) j = x.1 (o + 12) j) ∧ (∀ n, n < b ∨ b + 256 ≤ n → (sCopy x b o).1 n = x.1 n) ∧ (sCopy x b o).2 = x.2 := by
  obtain ⟨x4, h4⟩ : ∃ y, y = aWr (aWr (aWr (aWr x b 0 (x.1 o 0)) b 1 (x.1 o 1)) b 2 (x.1 o 2)) b 3 (x.1 o 3) := ⟨_, rfl⟩
  have n4 : ∀ n, n ≠ b → x4.1 n = x.1 n := fun n hn => by rw [h4, aWr_n _ _ _ hn, aWr_n _ _ _ hn, aWr_n _ _ _ hn, aWr_n _ _ _ hn]
  have f4 : ∀ i, i < 4 → x4.1 b i = x.1 o i := by
    intro i hi
    rw [h4]
    have : i = 0 ∨ i = 1 ∨ i = 2 ∨ i = 3 := by omega
    rcases this with rfl | rfl | rfl | rfl
    · rw [aWr_j _ _ _ (by decide), aWr_j _ _ _ (by decide), aWr_j _ _ _ (by decide), aWr_s]
    · rw [aWr_j _ _ _ (by decide), aWr_j _ _ _ (by decide), aWr_s]
    · rw [aWr_j _ _ _ (by decide), aWr_s]
    · rw [aWr_s]
  obtain ⟨x5, h5⟩ : ∃ y, y = sCpy1 b o 5 48 x4 := ⟨_, rfl⟩
  have n5 : ∀ n, n ≠ b + 5 → x5.1 n = x4.1 n := fun n hn => by rw [h5]; exact sCpy1_n hn
  obtain ⟨x6, h6⟩ : ∃ y, y = sCpy1 b o 6 48 x5 := ⟨_, rfl⟩
  have n6 : ∀ n, n ≠ b + 6 → x6.1 n = x5.1 n := fun n hn => by rw [h6]; exact sCpy1_n hn
  obtain ⟨x7, h7⟩ : ∃ y, y = sCpy1 b o 7 6 x6 := ⟨_, rfl⟩
  have n7 : ∀ n, n ≠ b + 7 → x7.1 n = x6.1 n := fun n hn => by rw [h7]; exact sCpy1_n hn
  obtain ⟨x8, h8⟩ : ∃ y, y = sCpy1 b o 8 72 x7 := ⟨_, rfl⟩
  have n8 : ∀ n, n ≠ b + 8 → x8.1 n = x7.1 n := fun n hn => by rw [h8]; exact sCpy1_n hn
  obtain ⟨x9, h9⟩ : ∃ y, y = sCpy1 b o 9 72 x8 := ⟨_, rfl⟩
  have n9 : ∀ n, n ≠ b + 9 → x9.1 n = x8.1 n := fun n hn => by rw [h9]; exact sCpy1_n hn
  obtain ⟨x10, h10⟩ : ∃ y, y = sCpy1 b o 10 8 x9 := ⟨_, rfl⟩
  have n10 : ∀ n, n ≠ b + 10 → x10.1 n = x9.1 n := fun n hn => by rw [h10]; exact sCpy1_n hn
  obtain ⟨x11, h11⟩ : ∃ y, y = sCpy1 b o 11 8 x10 := ⟨_, rfl⟩
  have n11 : ∀ n, n ≠ b + 11 → x11.1 n = x10.1 n := fun n hn => by rw [h11]; exact sCpy1_n hn
  obtain ⟨x12, h12⟩ : ∃ y, y = sCpy1 b o 12 8 x11 := ⟨_, rfl⟩
  have n12 : ∀ n, n ≠ b + 12 → x12.1 n = x11.1 n := fun n hn => by rw [h12]; exact sCpy1_n hn
  have e : sCopy x b o = x12 := by rw [h12, h11, h10, h9, h8, h7, h6, h5, h4]; rfl
  have on : ∀ q, q < 256 → x4.1 (o + q) = x.1 (o + q) ∧ x5.1 (o + q) = x.1 (o + q) ∧ x6.1 (o + q) = x.1 (o + q) ∧ x7.1 (o + q) = x.1 (o + q) ∧ x8.1 (o + q) = x.1 (o + q) ∧ x9.1 (o + q) = x.1 (o + q) ∧ x10.1 (o + q) = x.1 (o + q) ∧ x11.1 (o + q) = x.1 (o + q) := by
    intro q hq
    have m4 := n4 (o + q) (by have := ob_ne (q := 0) hb ho hne hq (by decide); rwa [Nat.add_zero] at this)
    have m5 := (n5 (o + q) (ob_ne hb ho hne hq (by decide))).trans m4
    have m6 := (n6 (o + q) (ob_ne hb ho hne hq (by decide))).trans m5
    have m7 := (n7 (o + q) (ob_ne hb ho hne hq (by decide))).trans m6
    have m8 := (n8 (o + q) (ob_ne hb ho hne hq (by decide))).trans m7
    have m9 := (n9 (o + q) (ob_ne hb ho hne hq (by decide))).trans m8
    have m10 := (n10 (o + q) (ob_ne hb ho hne hq (by decide))).trans m9
    have m11 := (n11 (o + q) (ob_ne hb ho hne hq (by decide))).trans m10
    exact ⟨m4, m5, m6, m7, m8, m9, m10, m11⟩
  have s5 : ∀ j, j < 48 → x5.1 (b + 5) j = x.1 (o + 5) j := fun j hj => by rw [h5, sCpy1_s hj, (on 5 (by decide)).1]
  have s6 : ∀ j, j < 48 → x6.1 (b + 6) j = x.1 (o + 6) j := fun j hj => by rw [h6, sCpy1_s hj, (on 6 (by decide)).2.1]
  have s7 : ∀ j, j < 6 → x7.1 (b + 7) j = x.1 (o + 7) j := fun j hj => by rw [h7, sCpy1_s hj, (on 7 (by decide)).2.2.1]
  have s8 : ∀ j, j < 72 → x8.1 (b + 8) j = x.1 (o + 8) j := fun j hj => by rw [h8, sCpy1_s hj, (on 8 (by decide)).2.2.2.1]
  have s9 : ∀ j, j < 72 → x9.1 (b + 9) j = x.1 (o + 9) j := fun j hj => by rw [h9, sCpy1_s hj, (on 9 (by decide)).2.2.2.2.1]
  have s10 : ∀ j, j < 8 → x10.1 (b + 10) j = x.1 (o + 10) j := fun j hj => by rw [h10, sCpy1_s hj, (on 10 (by decide)).2.2.2.2.2.1]
  have s11 : ∀ j, j < 8 → x11.1 (b + 11) j = x.1 (o + 11) j := fun j hj => by rw [h11, sCpy1_s hj, (on 11 (by decide)).2.2.2.2.2.2.1]
  have s12 : ∀ j, j < 8 → x12.1 (b + 12) j = x.1 (o + 12) j := fun j hj => by rw [h12, sCpy1_s hj, (on 12 (by decide)).2.2.2.2.2.2.2]
  have t5 : ∀ j, j < 48 → x12.1 (b + 5) j = x.1 (o + 5) j := fun j hj => by rw [n12 _ (by omega), n11 _ (by omega), n10 _ (by omega), n9 _ (by omega), n8 _ (by omega), n7 _ (by omega), n6 _ (by omega)]; exact s5 j hj
  have t6 : ∀ j, j < 48 → x12.1 (b + 6) j = x.1 (o + 6) j := fun j hj => by rw [n12 _ (by omega), n11 _ (by omega), n10 _ (by omega), n9 _ (by omega), n8 _ (by omega), n7 _ (by omega)]; exact s6 j hj
  have t7 : ∀ j, j < 6 → x12.1 (b + 7) j = x.1 (o + 7) j := fun j hj => by rw [n12 _ (by omega), n11 _ (by omega), n10 _ (by omega), n9 _ (by omega), n8 _ (by omega)]; exact s7 j hj
  have t8 : ∀ j, j < 72 → x12.1 (b + 8) j = x.1 (o + 8) j := fun j hj => by rw [n12 _ (by omega), n11 _ (by omega), n10 _ (by omega), n9 _ (by omega)]; exact s8 j hj
  have t9 : ∀ j, j < 72 → x12.1 (b + 9) j = x.1 (o + 9) j := fun j hj => by rw [n12 _ (by omega), n11 _ (by omega), n10 _ (by omega)]; exact s9 j hj
  have t10 : ∀ j, j < 8 → x12.1 (b + 10) j = x.1 (o + 10) j := fun j hj => by rw [n12 _ (by omega), n11 _ (by omega)]; exact s10 j hj
  have t11 : ∀ j, j < 8 → x12.1 (b + 11) j = x.1 (o + 11) j := fun j hj => by rw [n12 _ (by omega)]; exact s11 j hj
  have t12 : ∀ j, j < 8 → x12.1 (b + 12) j = x.1 (o + 12) j := fun j hj => by exact s12 j hj
  rw [e]
  refine ⟨fun i hi => ?_, fun j hj => ⟨t5 j hj, t6 j hj⟩, t7, fun j hj => ⟨t8 j hj, t9 j hj⟩, fun j hj => ⟨t10 j hj, t11 j hj, t12 j hj⟩, fun n hn => ?_, ?_⟩
  · rw [n12 _ (by omega), n11 _ (by omega), n10 _ (by omega), n9 _ (by omega), n8 _ (by omega), n7 _ (by omega), n6 _ (by omega), n5 _ (by omega), f4 i hi]
  · rw [n12 _ (by omega), n11 _ (by omega), n10 _ (by omega), n9 _ (by omega), n8 _ (by omega), n7 _ (by omega), n6 _ (by omega), n5 _ (by omega), n4 _ (by omega)]
  · rw [h12, h11, h10, h9, h8, h7, h6, h5, h4]; rfl
theorem rS_copy {T : zT} {Z : zS} {b o : Nat} {x : aS} (hb : aStB b) (ho : aStB o) (hne : o ≠ b) (ok : zTok T) (hZ : zOk T Z) (h : rS T Z x o) : rS T Z (sCopy x b o) b := by
  obtain ⟨c1, c2, c3, c4, c5, _, _⟩ := sCopy_at (x := x) hb ho hne
  obtain ⟨q1, q2, q3, q4⟩ := h
  have h6 := ok.1
  have h8 := ok.2.1
  refine ⟨fun i hi => by rw [c1 i (by omega)]; exact q1 i hi, by rw [c1 3 (by decide)]; exact q2, fun g hg => ⟨fun z hz => ?_, ?_, fun k hk => ?_⟩, fun m hm => ?_⟩
  · rw [(c2 (g * 8 + z) (by omega)).1, (c2 (g * 8 + z) (by omega)).2]; exact (q3 g hg).1 z hz
  · rw [c3 g (by omega)]; exact (q3 g hg).2.1
  · have := (hZ.2.1 g hg).1
    rw [(c4 (g * 12 + k) (by omega)).1, (c4 (g * 12 + k) (by omega)).2]; exact (q3 g hg).2.2 k hk
  · rw [(c5 m (by omega)).1, (c5 m (by omega)).2.1, (c5 m (by omega)).2.2]; exact q4 m hm
theorem aFy_copy {b o : Nat} {x : aS} (hb : aStB b) (ho : aStB o) (hne : o ≠ b) : aFy b x (sCopy x b o) := by
  obtain ⟨_, _, _, _, _, c6, c7⟩ := sCopy_at (x := x) hb ho hne
  intro n h1 _
  refine ⟨c6 n ?_, by rw [c7]⟩
  rcases hb with rfl | rfl | rfl <;> omega
def zYears (T : zT) (W : Nat → zL) (way n : Nat) (Z : zS) : zS := lp (fun _ Z => zYear T W way Z) 0 n Z
theorem zYears_ok {T : zT} {W : Nat → zL} {way n : Nat} {Z : zS} (P : zS → Prop) (h : ∀ Z, P Z → P (zYear T W way Z)) (hZ : P Z) : P (zYears T W way n Z) := lp_ind (N := n) (fun _ a _ => h a) n 0 Z (Nat.zero_add _) hZ
section trials
variable {l : Launch} {d : Nat} {D : Nat → Bool} {T : zT} {W : Nat → zL} {Z : zS} {t : Nat} {x : aS}
/-- the class's text and laws -/
def cT (T : zT) (W : Nat → zL) (x : aS) (t : Nat) : Prop := aTdB t ∧ (x.1 bLH 1).toNatClampNeg * 256 = t ∧ zTok T ∧ rT T x t ∧ rW W x t
theorem cT_y {b : Nat} {y : aS} (hb : aStB b) (hF : aFy b x y) (h : cT T W x t) : cT T W y t := by
  obtain ⟨ht, hp, ok, hT, hW⟩ := h
  exact ⟨ht, by rw [(hF bLH (by rcases hb with rfl | rfl | rfl <;> decide) (by decide)).1]; exact hp, ok, rT_same (aFy_T hb ht hF) ok hT, rW_same (aFy_T hb ht hF) hW⟩
theorem cR_T (h : cR T W Z x t) : cT T W x t := ⟨h.1, h.2.1, h.2.2.1, h.2.2.2.2.1, h.2.2.2.2.2.1⟩
set_option maxHeartbeats 4000000 in
set_option maxRecDepth 100000 in
theorem c_X11_runTrial {n way : Nat} (hD : aDC D) (h : cT T W x t) (hZ : zOk T Z) (hS : rS T Z x bTr) (hw : way < 7) (hn : n < 1000) : aCt l mX11_runTrial (d + 5) D [.ref bLH, .int (nI n), .int (nI way)] x (fun v y => v = none ∧ rS T (zYears T W way n Z) y bTr ∧ zOk T (zYears T W way n Z) ∧ aFy bTr x y) := by
  have L : ∀ (k i : Nat), i + k = n → ∀ (Z : zS) (y : aS), zOk T Z → rS T Z y bTr → aFy bTr x y → aV l mX11_runTrial (d + 5) D none 2 [(0, .ref bLH), (1, .int (nI n)), (2, .int (nI way)), (3, .int (nI i))] [] y (fun v y => v = none ∧ rS T (lp (fun _ Z => zYear T W way Z) i k Z) y bTr ∧ zOk T (lp (fun _ Z => zYear T W way Z) i k Z) ∧ aFy bTr x y) := by
    intro k
    induction k with
    | zero =>
      intro i hi Z y hZ hS hF
      rw [Nat.add_zero] at hi
      subst hi
      refine a_iload_n (i := 3) dX11_runTrial_2 rfl rfl ?_
      refine a_iload_n (i := 1) dX11_runTrial_3 rfl rfl ?_
      refine a_icmp_ge (tg := 29) dX11_runTrial_4 (by decide) (fun c_4 => ?_) (fun c_4 => ?_)
      · exact a_vret dX11_runTrial_29 (by exact ⟨rfl, hS, hZ, hF⟩)
      · exact absurd (Int32.le_refl _) c_4
    | succ k ih =>
      intro i hi Z y hZ hS hF
      obtain ⟨ht, hp, ok, hT, hW⟩ := cT_y hbTr hF h
      refine a_iload_n (i := 3) dX11_runTrial_2 rfl rfl ?_
      refine a_iload_n (i := 1) dX11_runTrial_3 rfl rfl ?_
      refine a_icmp_ge (tg := 29) dX11_runTrial_4 (by decide) (fun c_4 => ?_) (fun c_4 => ?_)
      · exact absurd c_4 (nI_ge (show i < n by omega) (by omega))
      · refine a_aload_n (i := 0) dX11_runTrial_7 rfl rfl ?_
        refine gX11_43 rfl dX11_runTrial_8 (isLH_0 hD) ?_
        refine a_aload_n (i := 0) dX11_runTrial_11 rfl rfl ?_
        refine gX11_23 rfl dX11_runTrial_12 (isLH_0 hD) ?_
        rw [hp]
        refine a_aload_n (i := 0) dX11_runTrial_15 rfl rfl ?_
        refine gX11_37 rfl dX11_runTrial_16 (isLH_0 hD) ?_
        refine a_iload_n (i := 2) dX11_runTrial_19 rfl rfl ?_
        refine kgX11_272 rfl dX11_runTrial_20 (Nat.le_of_ble_eq_true rfl) (isYr_0 hD) (c_X10_pass hD hbTr ht ok hZ hT hW hS hw) ?_
        rintro v y1 ⟨rfl, hS1, hZ1, hF1⟩
        refine a_iincK (i := 3) (u := 1) dX11_runTrial_23 rfl (by decide) (by decide) ?_
        refine a_goto (tg := 2) dX11_runTrial_26 (by decide) ?_
        rw [nI_1]; exact a_loc _ rfl (ih (i + 1) (by omega) _ _ hZ1 hS1 (aFy_t hF hF1))
  refine a_met (by decide) (Nat.le_of_ble_eq_true rfl) (fun v y q => Or.inr (Or.inr (Or.inr ⟨rfl, q.1⟩))) ?_
  refine a_iconst (v := 0) dX11_runTrial_0 (by decide) ?_
  refine a_istore_n (i := 3) dX11_runTrial_1 rfl (by decide) ?_
  exact a_loc _ rfl (L n 0 (Nat.zero_add _) Z x hZ hS aFy_r)
theorem yJ_self {way i : Nat} {y : aS} (h : yJ T way i x Z y) : yJ T way i y Z y := ⟨h.1, h.2.1, h.2.2.1, aFi_r, h.2.2.2.2.1, fun _ => rfl⟩
theorem yJ_trans {way i : Nat} {y z : aS} {Y : zS} (h : yJ T way i x Z y) (g : yJ T way i y Y z) : yJ T way i x Y z := ⟨g.1, g.2.1, g.2.2.1, aFi_t h.2.2.2.1 g.2.2.2.1, g.2.2.2.2.1, fun w => (g.2.2.2.2.2 w).trans (h.2.2.2.2.2 w)⟩
/-- all that a year of the model needs -/
def mY (T : zT) (W : Nat → zL) (way i : Nat) (Z : zS) (x : aS) : Prop := zTok T ∧ rTM T x ∧ rWM W x ∧ rFl way x ∧ yJ T way i x Z x
theorem mY_n {way i : Nat} {y : aS} {Y : zS} (h : mY T W way i Z x) (g : yJ T way i x Y y) : mY T W way i Y y := ⟨h.1, rTM_i g.2.2.2.1 h.2.1, rWM_i g.2.2.2.1 h.2.2.1, rFl_i g.2.2.2.1 h.2.2.2.1, yJ_self g⟩
theorem mz_year {way i : Nat} (hM : D 12 = true) (hi : i < 2) (h : mY T W way i Z x) : aCt l mX12_yearGoes (d + 6) D [.ref bM, .int (nI i)] x (fun v y => v = none ∧ yJ T way i x (zYear T W way Z) y) := c_X12_yearGoes hM hi h.1 h.2.1 h.2.2.1 h.2.2.2.1 h.2.2.2.2
set_option maxHeartbeats 4000000 in
set_option maxRecDepth 100000 in
theorem c_X12_goMany {n way : Nat} (hM : D 12 = true) (h : mY T W way 1 Z x) (hn : n < 1000) : aCt l mX12_goMany (d + 7) D [.ref bM, .int (nI n)] x (fun v y => v = none ∧ yJ T way 1 x (zYears T W way n Z) y) := by
  have L : ∀ (k i : Nat), i + k = n → ∀ (Y : zS) (y : aS), yJ T way 1 x Y y → aV l mX12_goMany (d + 7) D none 2 [(0, .ref bM), (1, .int (nI n)), (2, .int (nI i))] [] y (fun v y => v = none ∧ yJ T way 1 x (lp (fun _ Z => zYear T W way Z) i k Y) y) := by
    intro k
    induction k with
    | zero =>
      intro i hi Y y hJ
      rw [Nat.add_zero] at hi
      subst hi
      refine a_iload_n (i := 2) dX12_goMany_2 rfl rfl ?_
      refine a_iload_n (i := 1) dX12_goMany_3 rfl rfl ?_
      refine a_icmp_ge (tg := 18) dX12_goMany_4 (by decide) (fun c_4 => ?_) (fun c_4 => ?_)
      · exact a_vret dX12_goMany_18 (by exact ⟨rfl, hJ⟩)
      · exact absurd (Int32.le_refl _) c_4
    | succ k ih =>
      intro i hi Y y hJ
      refine a_iload_n (i := 2) dX12_goMany_2 rfl rfl ?_
      refine a_iload_n (i := 1) dX12_goMany_3 rfl rfl ?_
      refine a_icmp_ge (tg := 18) dX12_goMany_4 (by decide) (fun c_4 => ?_) (fun c_4 => ?_)
      · exact absurd c_4 (nI_ge (show i < n by omega) (by omega))
      · refine a_aload_n (i := 0) dX12_goMany_7 rfl rfl ?_
        refine a_iconst (v := 1) dX12_goMany_8 (by decide) ?_
        refine kgX12_489 rfl dX12_goMany_9 (Nat.le_of_ble_eq_true rfl) (isM_0 hM) (mz_year (i := 1) hM (by decide) (mY_n h hJ)) ?_
        rintro v y1 ⟨rfl, hJ1⟩
        refine a_iincK (i := 2) (u := 1) dX12_goMany_12 rfl (by decide) (by decide) ?_
        refine a_goto (tg := 2) dX12_goMany_15 (by decide) ?_
        rw [nI_1]; exact a_loc _ rfl (ih (i + 1) (by omega) _ _ (yJ_trans hJ hJ1))
  refine a_met (by decide) (Nat.le_of_ble_eq_true rfl) (fun v y q => Or.inr (Or.inr (Or.inr ⟨rfl, q.1⟩))) ?_
  refine a_iconst (v := 0) dX12_goMany_0 (by decide) ?_
  refine a_istore_n (i := 2) dX12_goMany_1 rfl (by decide) ?_
  exact a_loc _ rfl (L n 0 (Nat.zero_add _) Z x h.2.2.2.2)
/-! layTried -/
/-- what a row of booleans takes -/
def nb (v : Int32) : Int32 := vp_nar .boolean v
theorem a_zastR {m : aM} {scr : Option aSc} {pc : Nat} {lv : List (Nat × Value)} {st : List Value} {Q : Option Value → aS → Prop} {n len k : Nat} {i v : Int32} (hd : decode m.2.1 pc = .ok (.bastore, 1)) (hn : aIs D n 16 len) (hk : i = nI k) (hlt : k < len) (hle : len < 2147483648) (kk : aV l m d D scr (pc + 1) lv st (aWr x n k (nb v)) Q) : aV l m d D scr pc lv (.int v :: .int i :: .ref n :: st) x Q := by
  subst hk; refine a_zast hd hn (vp_in_nI hlt hle) ?_; rw [nI_clamp (Nat.lt_trans hlt hle)]; exact kk
def mNb (n : Nat) (v : Int32) : Int32 := if n = bM + 67 then nb v else v
def mLen (n : Nat) : Nat := if n = bM + 60 then 48 else if n = bM + 61 ∨ n = bM + 62 then 72 else if n = bM + 63 then 6 else if n = bM + 64 ∨ n = bM + 65 ∨ n = bM + 66 ∨ n = bM + 67 then 8 else if n = bM + 68 ∨ n = bM + 69 then 1 else 0
/-- of a row n, f n places are copied -/
def mCp (f : Nat → Nat) (x y : aS) : Prop := y.2 = x.2 ∧ ∀ n j, y.1 n j = if mLen n ≤ j ∧ j < mLen n + f n then mNb n (x.1 n (j - mLen n)) else x.1 n j
theorem mCp_w {f g : Nat → Nat} {y : aS} {n k c : Nat} (h : mCp f x y) (hc : mLen n = c) (hk : f n = k) (hlt : k < c) (h1 : ∀ m, m ≠ n → g m = f m) (h2 : g n = k + 1) : mCp g x (aWr y n (c + k) (mNb n (y.1 n k))) := by
  obtain ⟨a, b⟩ := h
  refine ⟨a, fun m j => ?_⟩
  by_cases e : m = n
  · subst e
    rw [h2, hc]
    by_cases ej : j = c + k
    · subst ej
      rw [aWr_s, b, hc, if_neg (by omega), if_pos (by omega), show c + k - c = k by omega]
    · rw [aWr_j _ _ _ ej, b, hc, hk]
      by_cases q : c ≤ j ∧ j < c + k
      · rw [if_pos q, if_pos (by omega)]
      · rw [if_neg q, if_neg (by omega)]
  · rw [aWr_n _ _ _ e, b, h1 m e]
theorem mCp_r {f : Nat → Nat} (h : ∀ n, f n = 0) : mCp f x x := ⟨rfl, fun n j => by rw [h n, if_neg (by omega)]⟩
def mFl0 (x : aS) : aS := aWr (aWr (aWr (aWr (aWr x bM 70 0) bM 71 0) bM 72 0) bM 73 0) bM 74 0
set_option maxHeartbeats 4000000 in
set_option maxRecDepth 100000 in
theorem c_X12_plainTried (hM : D 12 = true) : aDV l mX12_plainTried d D [.ref bM] x (mFl0 x) := by
  refine a_metV (by decide) (Nat.le_of_ble_eq_true rfl) rfl ?_
  refine a_aload_n (i := 0) dX12_plainTried_0 rfl rfl ?_
  refine a_iconst (v := 0) dX12_plainTried_1 (by decide) ?_
  refine pX12_411 rfl dX12_plainTried_2 (isM_0 hM) (by first | exact Or.inl rfl | exact Or.inr rfl | assumption) ?_
  refine a_aload_n (i := 0) dX12_plainTried_5 rfl rfl ?_
  refine a_iconst (v := 0) dX12_plainTried_6 (by decide) ?_
  refine pX12_414 rfl dX12_plainTried_7 (isM_0 hM) (by first | exact Or.inl rfl | exact Or.inr rfl | assumption) ?_
  refine a_aload_n (i := 0) dX12_plainTried_10 rfl rfl ?_
  refine a_iconst (v := 0) dX12_plainTried_11 (by decide) ?_
  refine pX12_417 rfl dX12_plainTried_12 (isM_0 hM) (by first | exact Or.inl rfl | exact Or.inr rfl | assumption) ?_
  refine a_aload_n (i := 0) dX12_plainTried_15 rfl rfl ?_
  refine a_iconst (v := 0) dX12_plainTried_16 (by decide) ?_
  refine pX12_420 rfl dX12_plainTried_17 (isM_0 hM) (by first | exact Or.inl rfl | exact Or.inr rfl | assumption) ?_
  refine a_aload_n (i := 0) dX12_plainTried_20 rfl rfl ?_
  refine a_iconst (v := 0) dX12_plainTried_21 (by decide) ?_
  refine pX12_423 rfl dX12_plainTried_22 (isM_0 hM) (by first | exact Or.inl rfl | exact Or.inr rfl | assumption) ?_
  exact a_vret dX12_plainTried_25 (by exact ⟨rfl, rfl⟩)
def mf1 (k : Nat) : Nat → Nat := fun n => if n = bM + 60 then k else 0
def mf2 (k : Nat) : Nat → Nat := fun n => if n = bM + 60 then 48 else if n = bM + 61 then k else if n = bM + 62 then k else 0
def mf2' (k : Nat) : Nat → Nat := fun n => if n = bM + 60 then 48 else if n = bM + 61 then k + 1 else if n = bM + 62 then k else 0
def mf3 (k : Nat) : Nat → Nat := fun n => if n = bM + 60 then 48 else if n = bM + 61 then 72 else if n = bM + 62 then 72 else if n = bM + 63 then k else 0
def mf4 (a b c e : Nat) : Nat → Nat := fun n => if n = bM + 60 then 48 else if n = bM + 61 then 72 else if n = bM + 62 then 72 else if n = bM + 63 then 6 else if n = bM + 64 then a else if n = bM + 65 then b else if n = bM + 66 then c else if n = bM + 67 then e else 0
def mf5 (a b : Nat) : Nat → Nat := fun n => if n = bM + 60 then 48 else if n = bM + 61 then 72 else if n = bM + 62 then 72 else if n = bM + 63 then 6 else if n = bM + 64 then 8 else if n = bM + 65 then 8 else if n = bM + 66 then 8 else if n = bM + 67 then 8 else if n = bM + 68 then a else if n = bM + 69 then b else 0
theorem mCp_e {f g : Nat → Nat} {y : aS} (h : mCp f x y) (e : f = g) : mCp g x y := e ▸ h
set_option maxHeartbeats 4000000 in
set_option maxRecDepth 100000 in
theorem c_X12_layTried (hM : D 12 = true) : aCt l mX12_layTried (d + 1) D [.ref bM] x (fun v y => v = none ∧ ∃ w, mCp (mf5 1 1) x w ∧ y = mFl0 w) := by
  have P176 : ∀ y, mCp (mf5 0 0) x y → aV l mX12_layTried (d + 1) D none 176 [(0, .ref bM)] [] y (fun v y => v = none ∧ ∃ w, mCp (mf5 1 1) x w ∧ y = mFl0 w) := by
    intro y h
    have h1 : mCp (mf5 1 0) x (aWr y (bM + 68) (1 + 0) (y.1 (bM + 68) 0)) := mCp_w h rfl rfl (by decide) (fun m hm => by simp only [mf5, if_neg hm]) rfl
    have h2 := mCp_w (g := mf5 1 1) (n := bM + 69) (k := 0) (c := 1) h1 rfl rfl (by decide) (fun m hm => by simp only [mf5, if_neg hm]) rfl
    refine a_aload_n (i := 0) dX12_layTried_176 rfl rfl ?_
    refine gX12_130 rfl dX12_layTried_177 (isM_0 hM) ?_
    refine a_iconst (v := 1) dX12_layTried_180 (by decide) ?_
    refine a_aload_n (i := 0) dX12_layTried_181 rfl rfl ?_
    refine gX12_130 rfl dX12_layTried_182 (isM_0 hM) ?_
    refine a_iconst (v := 0) dX12_layTried_185 (by decide) ?_
    refine a_ialdN dX12_layTried_186 (isM_68 hM) (by first | exact (show (0 : Int32) = nI 0 from rfl) | with_reducible exact rfl | with_reducible exact ix8 _ _ | with_reducible exact ix12 _ _ | exact rfl) (by omega) (by decide) ?_
    refine a_iastN dX12_layTried_187 (isM_68 hM) (by first | exact (show (1 : Int32) = nI 1 from rfl) | with_reducible exact rfl | with_reducible exact ix8 _ _ | with_reducible exact ix12 _ _ | exact rfl) (by omega) (by decide) ?_
    refine a_aload_n (i := 0) dX12_layTried_188 rfl rfl ?_
    refine gX12_133 rfl dX12_layTried_189 (isM_0 hM) ?_
    refine a_iconst (v := 1) dX12_layTried_192 (by decide) ?_
    refine a_aload_n (i := 0) dX12_layTried_193 rfl rfl ?_
    refine gX12_133 rfl dX12_layTried_194 (isM_0 hM) ?_
    refine a_iconst (v := 0) dX12_layTried_197 (by decide) ?_
    refine a_ialdN dX12_layTried_198 (isM_69 hM) (by first | exact (show (0 : Int32) = nI 0 from rfl) | with_reducible exact rfl | with_reducible exact ix8 _ _ | with_reducible exact ix12 _ _ | exact rfl) (by omega) (by decide) ?_
    refine a_iastN dX12_layTried_199 (isM_69 hM) (by first | exact (show (1 : Int32) = nI 1 from rfl) | with_reducible exact rfl | with_reducible exact ix8 _ _ | with_reducible exact ix12 _ _ | exact rfl) (by omega) (by decide) ?_
    refine a_aload_n (i := 0) dX12_layTried_200 rfl rfl ?_
    refine kX12_395 rfl dX12_layTried_201 (Nat.le_of_ble_eq_true rfl) (isM_0 hM) (c_X12_plainTried hM) ?_
    exact a_vret dX12_layTried_204 (by exact ⟨rfl, _, h2, rfl⟩)
  have P104 : ∀ (n m : Nat), m + n = 8 → ∀ y, mCp (mf4 m m m m) x y → aV l mX12_layTried (d + 1) D none 104 [(0, .ref bM), (1, .int (nI m))] [] y (fun v y => v = none ∧ ∃ w, mCp (mf5 1 1) x w ∧ y = mFl0 w) := by
    refine dn_rule (P := fun m => ∀ y, mCp (mf4 m m m m) x y → aV l mX12_layTried (d + 1) D none 104 [(0, .ref bM), (1, .int (nI m))] [] y (fun v y => v = none ∧ ∃ w, mCp (mf5 1 1) x w ∧ y = mFl0 w)) ?_ ?_
    · intro y h
      refine a_iload_n (i := 1) dX12_layTried_104 rfl rfl ?_
      refine a_bipush (v := 8) dX12_layTried_105 (by decide) ?_
      refine a_icmp_ge (tg := 176) dX12_layTried_107 (by decide) (fun c_107 => ?_) (fun c_107 => ?_)
      · exact a_loc _ rfl (P176 y (mCp_e h (by funext n; simp [mf4, mf5])))
      · exact absurd (Int32.le_refl _) c_107
    · intro m hm ih y h
      have h1 : mCp (mf4 (m + 1) m m m) x (aWr y (bM + 64) (8 + m) (y.1 (bM + 64) m)) := mCp_w h rfl rfl hm (fun q hq => by simp only [mf4, if_neg hq]) rfl
      have h2 := mCp_w (g := mf4 (m + 1) (m + 1) m m) (n := bM + 65) (k := m) (c := 8) h1 rfl rfl hm (fun q hq => by simp only [mf4, if_neg hq]) rfl
      have h3 := mCp_w (g := mf4 (m + 1) (m + 1) (m + 1) m) (n := bM + 66) (k := m) (c := 8) h2 rfl rfl hm (fun q hq => by simp only [mf4, if_neg hq]) rfl
      have h4 := mCp_w (g := mf4 (m + 1) (m + 1) (m + 1) (m + 1)) (n := bM + 67) (k := m) (c := 8) h3 rfl rfl hm (fun q hq => by simp only [mf4, if_neg hq]) rfl
      refine a_iload_n (i := 1) dX12_layTried_104 rfl rfl ?_
      refine a_bipush (v := 8) dX12_layTried_105 (by decide) ?_
      refine a_icmp_ge (tg := 176) dX12_layTried_107 (by decide) (fun c_107 => ?_) (fun c_107 => ?_)
      · exact absurd c_107 (nI_ge hm (by decide))
      · refine a_aload_n (i := 0) dX12_layTried_110 rfl rfl ?_
        refine gX12_118 rfl dX12_layTried_111 (isM_0 hM) ?_
        refine a_bipush (v := 8) dX12_layTried_114 (by decide) ?_
        refine a_iload_n (i := 1) dX12_layTried_116 rfl rfl ?_
        refine a_iadd dX12_layTried_117 ?_
        refine a_aload_n (i := 0) dX12_layTried_118 rfl rfl ?_
        refine gX12_118 rfl dX12_layTried_119 (isM_0 hM) ?_
        refine a_iload_n (i := 1) dX12_layTried_122 rfl rfl ?_
        refine a_ialdN dX12_layTried_123 (isM_64 hM) (by first | exact rfl | with_reducible exact rfl | with_reducible exact ix8 _ _ | with_reducible exact ix12 _ _ | exact rfl) (by omega) (by decide) ?_
        refine a_iastN dX12_layTried_124 (isM_64 hM) (by first | exact nI_add 8 _ | with_reducible exact rfl | with_reducible exact ix8 _ _ | with_reducible exact ix12 _ _ | exact rfl) (by omega) (by decide) ?_
        refine a_aload_n (i := 0) dX12_layTried_125 rfl rfl ?_
        refine gX12_121 rfl dX12_layTried_126 (isM_0 hM) ?_
        refine a_bipush (v := 8) dX12_layTried_129 (by decide) ?_
        refine a_iload_n (i := 1) dX12_layTried_131 rfl rfl ?_
        refine a_iadd dX12_layTried_132 ?_
        refine a_aload_n (i := 0) dX12_layTried_133 rfl rfl ?_
        refine gX12_121 rfl dX12_layTried_134 (isM_0 hM) ?_
        refine a_iload_n (i := 1) dX12_layTried_137 rfl rfl ?_
        refine a_ialdN dX12_layTried_138 (isM_65 hM) (by first | exact rfl | with_reducible exact rfl | with_reducible exact ix8 _ _ | with_reducible exact ix12 _ _ | exact rfl) (by omega) (by decide) ?_
        refine a_iastN dX12_layTried_139 (isM_65 hM) (by first | exact nI_add 8 _ | with_reducible exact rfl | with_reducible exact ix8 _ _ | with_reducible exact ix12 _ _ | exact rfl) (by omega) (by decide) ?_
        refine a_aload_n (i := 0) dX12_layTried_140 rfl rfl ?_
        refine gX12_124 rfl dX12_layTried_141 (isM_0 hM) ?_
        refine a_bipush (v := 8) dX12_layTried_144 (by decide) ?_
        refine a_iload_n (i := 1) dX12_layTried_146 rfl rfl ?_
        refine a_iadd dX12_layTried_147 ?_
        refine a_aload_n (i := 0) dX12_layTried_148 rfl rfl ?_
        refine gX12_124 rfl dX12_layTried_149 (isM_0 hM) ?_
        refine a_iload_n (i := 1) dX12_layTried_152 rfl rfl ?_
        refine a_ialdN dX12_layTried_153 (isM_66 hM) (by first | exact rfl | with_reducible exact rfl | with_reducible exact ix8 _ _ | with_reducible exact ix12 _ _ | exact rfl) (by omega) (by decide) ?_
        refine a_iastN dX12_layTried_154 (isM_66 hM) (by first | exact nI_add 8 _ | with_reducible exact rfl | with_reducible exact ix8 _ _ | with_reducible exact ix12 _ _ | exact rfl) (by omega) (by decide) ?_
        refine a_aload_n (i := 0) dX12_layTried_155 rfl rfl ?_
        refine gX12_127 rfl dX12_layTried_156 (isM_0 hM) ?_
        refine a_bipush (v := 8) dX12_layTried_159 (by decide) ?_
        refine a_iload_n (i := 1) dX12_layTried_161 rfl rfl ?_
        refine a_iadd dX12_layTried_162 ?_
        refine a_aload_n (i := 0) dX12_layTried_163 rfl rfl ?_
        refine gX12_127 rfl dX12_layTried_164 (isM_0 hM) ?_
        refine a_iload_n (i := 1) dX12_layTried_167 rfl rfl ?_
        refine a_zaldN dX12_layTried_168 (isM_67 hM) (by first | exact rfl | with_reducible exact rfl | with_reducible exact ix8 _ _ | with_reducible exact ix12 _ _ | exact rfl) (by omega) (by decide) ?_
        refine a_zastR dX12_layTried_169 (isM_67 hM) (by first | exact nI_add 8 _ | with_reducible exact rfl | with_reducible exact ix8 _ _ | with_reducible exact ix12 _ _ | exact rfl) (by omega) (by decide) ?_
        refine a_iincK (i := 1) (u := 1) dX12_layTried_170 rfl (by decide) (by decide) ?_
        refine a_goto (tg := 104) dX12_layTried_173 (by decide) ?_
        rw [nI_1]; exact a_loc _ rfl (ih _ h4)
  have P75 : ∀ (n m : Nat), m + n = 6 → ∀ y, mCp (mf3 m) x y → aV l mX12_layTried (d + 1) D none 75 [(0, .ref bM), (1, .int (nI m))] [] y (fun v y => v = none ∧ ∃ w, mCp (mf5 1 1) x w ∧ y = mFl0 w) := by
    refine dn_rule (P := fun m => ∀ y, mCp (mf3 m) x y → aV l mX12_layTried (d + 1) D none 75 [(0, .ref bM), (1, .int (nI m))] [] y (fun v y => v = none ∧ ∃ w, mCp (mf5 1 1) x w ∧ y = mFl0 w)) ?_ ?_
    · intro y h
      refine a_iload_n (i := 1) dX12_layTried_75 rfl rfl ?_
      refine a_bipush (v := 6) dX12_layTried_76 (by decide) ?_
      refine a_icmp_ge (tg := 102) dX12_layTried_78 (by decide) (fun c_78 => ?_) (fun c_78 => ?_)
      · refine a_iconst (v := 0) dX12_layTried_102 (by decide) ?_
        refine a_istore_n (i := 1) dX12_layTried_103 rfl (by decide) ?_
        exact a_loc _ rfl (P104 8 0 rfl y (mCp_e h (by funext n; simp [mf3, mf4])))
      · exact absurd (Int32.le_refl _) c_78
    · intro m hm ih y h
      have h1 : mCp (mf3 (m + 1)) x (aWr y (bM + 63) (6 + m) (y.1 (bM + 63) m)) := mCp_w h rfl rfl hm (fun q hq => by simp only [mf3, if_neg hq]) rfl
      refine a_iload_n (i := 1) dX12_layTried_75 rfl rfl ?_
      refine a_bipush (v := 6) dX12_layTried_76 (by decide) ?_
      refine a_icmp_ge (tg := 102) dX12_layTried_78 (by decide) (fun c_78 => ?_) (fun c_78 => ?_)
      · exact absurd c_78 (nI_ge hm (by decide))
      · refine a_aload_n (i := 0) dX12_layTried_81 rfl rfl ?_
        refine gX12_115 rfl dX12_layTried_82 (isM_0 hM) ?_
        refine a_bipush (v := 6) dX12_layTried_85 (by decide) ?_
        refine a_iload_n (i := 1) dX12_layTried_87 rfl rfl ?_
        refine a_iadd dX12_layTried_88 ?_
        refine a_aload_n (i := 0) dX12_layTried_89 rfl rfl ?_
        refine gX12_115 rfl dX12_layTried_90 (isM_0 hM) ?_
        refine a_iload_n (i := 1) dX12_layTried_93 rfl rfl ?_
        refine a_ialdN dX12_layTried_94 (isM_63 hM) (by first | with_reducible exact rfl | with_reducible exact ix8 _ _ | with_reducible exact ix12 _ _ | exact rfl) (by omega) (by decide) ?_
        refine a_iastN dX12_layTried_95 (isM_63 hM) (by first | exact nI_add 6 _ | with_reducible exact rfl | with_reducible exact ix8 _ _ | with_reducible exact ix12 _ _ | exact rfl) (by omega) (by decide) ?_
        refine a_iincK (i := 1) (u := 1) dX12_layTried_96 rfl (by decide) (by decide) ?_
        refine a_goto (tg := 75) dX12_layTried_99 (by decide) ?_
        rw [nI_1]; exact a_loc _ rfl (ih _ h1)
  have P31 : ∀ (n m : Nat), m + n = 72 → ∀ y, mCp (mf2 m) x y → aV l mX12_layTried (d + 1) D none 31 [(0, .ref bM), (1, .int (nI m))] [] y (fun v y => v = none ∧ ∃ w, mCp (mf5 1 1) x w ∧ y = mFl0 w) := by
    refine dn_rule (P := fun m => ∀ y, mCp (mf2 m) x y → aV l mX12_layTried (d + 1) D none 31 [(0, .ref bM), (1, .int (nI m))] [] y (fun v y => v = none ∧ ∃ w, mCp (mf5 1 1) x w ∧ y = mFl0 w)) ?_ ?_
    · intro y h
      refine a_iload_n (i := 1) dX12_layTried_31 rfl rfl ?_
      refine a_bipush (v := 72) dX12_layTried_32 (by decide) ?_
      refine a_icmp_ge (tg := 73) dX12_layTried_34 (by decide) (fun c_34 => ?_) (fun c_34 => ?_)
      · refine a_iconst (v := 0) dX12_layTried_73 (by decide) ?_
        refine a_istore_n (i := 1) dX12_layTried_74 rfl (by decide) ?_
        exact a_loc _ rfl (P75 6 0 rfl y (mCp_e h (by funext n; simp [mf2, mf3])))
      · exact absurd (Int32.le_refl _) c_34
    · intro m hm ih y h
      have h1 : mCp (mf2' m) x (aWr y (bM + 61) (72 + m) (y.1 (bM + 61) m)) := mCp_w h rfl rfl hm (fun q hq => by simp only [mf2, mf2', if_neg hq]) rfl
      have h2 := mCp_w (g := mf2 (m + 1)) (n := bM + 62) (k := m) (c := 72) h1 rfl rfl hm (fun q hq => by simp only [mf2, mf2', if_neg hq]) rfl
      refine a_iload_n (i := 1) dX12_layTried_31 rfl rfl ?_
      refine a_bipush (v := 72) dX12_layTried_32 (by decide) ?_
      refine a_icmp_ge (tg := 73) dX12_layTried_34 (by decide) (fun c_34 => ?_) (fun c_34 => ?_)
      · exact absurd c_34 (nI_ge hm (by decide))
      · refine a_aload_n (i := 0) dX12_layTried_37 rfl rfl ?_
        refine gX12_109 rfl dX12_layTried_38 (isM_0 hM) ?_
        refine a_bipush (v := 72) dX12_layTried_41 (by decide) ?_
        refine a_iload_n (i := 1) dX12_layTried_43 rfl rfl ?_
        refine a_iadd dX12_layTried_44 ?_
        refine a_aload_n (i := 0) dX12_layTried_45 rfl rfl ?_
        refine gX12_109 rfl dX12_layTried_46 (isM_0 hM) ?_
        refine a_iload_n (i := 1) dX12_layTried_49 rfl rfl ?_
        refine a_ialdN dX12_layTried_50 (isM_61 hM) (by first | with_reducible exact rfl | with_reducible exact ix8 _ _ | with_reducible exact ix12 _ _ | exact rfl) (by omega) (by decide) ?_
        refine a_iastN dX12_layTried_51 (isM_61 hM) (by first | exact nI_add 72 _ | with_reducible exact rfl | with_reducible exact ix8 _ _ | with_reducible exact ix12 _ _ | exact rfl) (by omega) (by decide) ?_
        refine a_aload_n (i := 0) dX12_layTried_52 rfl rfl ?_
        refine gX12_112 rfl dX12_layTried_53 (isM_0 hM) ?_
        refine a_bipush (v := 72) dX12_layTried_56 (by decide) ?_
        refine a_iload_n (i := 1) dX12_layTried_58 rfl rfl ?_
        refine a_iadd dX12_layTried_59 ?_
        refine a_aload_n (i := 0) dX12_layTried_60 rfl rfl ?_
        refine gX12_112 rfl dX12_layTried_61 (isM_0 hM) ?_
        refine a_iload_n (i := 1) dX12_layTried_64 rfl rfl ?_
        refine a_ialdN dX12_layTried_65 (isM_62 hM) (by first | with_reducible exact rfl | with_reducible exact ix8 _ _ | with_reducible exact ix12 _ _ | exact rfl) (by omega) (by decide) ?_
        refine a_iastN dX12_layTried_66 (isM_62 hM) (by first | exact nI_add 72 _ | with_reducible exact rfl | with_reducible exact ix8 _ _ | with_reducible exact ix12 _ _ | exact rfl) (by omega) (by decide) ?_
        refine a_iincK (i := 1) (u := 1) dX12_layTried_67 rfl (by decide) (by decide) ?_
        refine a_goto (tg := 31) dX12_layTried_70 (by decide) ?_
        rw [nI_1]; exact a_loc _ rfl (ih _ h2)
  have P2 : ∀ (n m : Nat), m + n = 48 → ∀ y, mCp (mf1 m) x y → aV l mX12_layTried (d + 1) D none 2 [(0, .ref bM), (1, .int (nI m))] [] y (fun v y => v = none ∧ ∃ w, mCp (mf5 1 1) x w ∧ y = mFl0 w) := by
    refine dn_rule (P := fun m => ∀ y, mCp (mf1 m) x y → aV l mX12_layTried (d + 1) D none 2 [(0, .ref bM), (1, .int (nI m))] [] y (fun v y => v = none ∧ ∃ w, mCp (mf5 1 1) x w ∧ y = mFl0 w)) ?_ ?_
    · intro y h
      refine a_iload_n (i := 1) dX12_layTried_2 rfl rfl ?_
      refine a_bipush (v := 48) dX12_layTried_3 (by decide) ?_
      refine a_icmp_ge (tg := 29) dX12_layTried_5 (by decide) (fun c_5 => ?_) (fun c_5 => ?_)
      · refine a_iconst (v := 0) dX12_layTried_29 (by decide) ?_
        refine a_istore_n (i := 1) dX12_layTried_30 rfl (by decide) ?_
        exact a_loc _ rfl (P31 72 0 rfl y (mCp_e h (by funext n; simp [mf1, mf2])))
      · exact absurd (Int32.le_refl _) c_5
    · intro m hm ih y h
      have h1 : mCp (mf1 (m + 1)) x (aWr y (bM + 60) (48 + m) (y.1 (bM + 60) m)) := mCp_w h rfl rfl hm (fun q hq => by simp only [mf1, if_neg hq]) rfl
      refine a_iload_n (i := 1) dX12_layTried_2 rfl rfl ?_
      refine a_bipush (v := 48) dX12_layTried_3 (by decide) ?_
      refine a_icmp_ge (tg := 29) dX12_layTried_5 (by decide) (fun c_5 => ?_) (fun c_5 => ?_)
      · exact absurd c_5 (nI_ge hm (by decide))
      · refine a_aload_n (i := 0) dX12_layTried_8 rfl rfl ?_
        refine gX12_106 rfl dX12_layTried_9 (isM_0 hM) ?_
        refine a_bipush (v := 48) dX12_layTried_12 (by decide) ?_
        refine a_iload_n (i := 1) dX12_layTried_14 rfl rfl ?_
        refine a_iadd dX12_layTried_15 ?_
        refine a_aload_n (i := 0) dX12_layTried_16 rfl rfl ?_
        refine gX12_106 rfl dX12_layTried_17 (isM_0 hM) ?_
        refine a_iload_n (i := 1) dX12_layTried_20 rfl rfl ?_
        refine a_ialdN dX12_layTried_21 (isM_60 hM) (by first | with_reducible exact rfl | with_reducible exact ix8 _ _ | with_reducible exact ix12 _ _ | exact rfl) (by omega) (by decide) ?_
        refine a_iastN dX12_layTried_22 (isM_60 hM) (by first | exact nI_add 48 _ | with_reducible exact rfl | with_reducible exact ix8 _ _ | with_reducible exact ix12 _ _ | exact rfl) (by omega) (by decide) ?_
        refine a_iincK (i := 1) (u := 1) dX12_layTried_23 rfl (by decide) (by decide) ?_
        refine a_goto (tg := 2) dX12_layTried_26 (by decide) ?_
        rw [nI_1]; exact a_loc _ rfl (ih _ h1)
  refine a_met (by decide) (Nat.le_of_ble_eq_true rfl) (fun v y q => Or.inr (Or.inr (Or.inr ⟨rfl, q.1⟩))) ?_
  refine a_iconst (v := 0) dX12_layTried_0 (by decide) ?_
  refine a_istore_n (i := 1) dX12_layTried_1 rfl (by decide) ?_
  exact a_loc _ rfl (P2 48 0 rfl x (mCp_r (fun n => by simp [mf1])))
end trials
