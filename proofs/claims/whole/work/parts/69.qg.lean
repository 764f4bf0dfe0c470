/-! firstCorn, tried, chance -/
section qG
variable {l : Launch} {d : Nat} {D : Nat → Bool} {T : zT} {W : Nat → zL} {Z : zS} {t : Nat} {x : aS}
theorem rFl_w {way j : Nat} {v : Int32} (hj : j < 70 ∨ 75 ≤ j) (h : rFl way x) : rFl way (aWr x bM j v) := by
  obtain ⟨f0, f1, f2, f3, f4⟩ := h
  exact ⟨by rw [aWr_j _ _ _ (by omega)]; exact f0, by rw [aWr_j _ _ _ (by omega)]; exact f1, by rw [aWr_j _ _ _ (by omega)]; exact f2, by rw [aWr_j _ _ _ (by omega)]; exact f3, by rw [aWr_j _ _ _ (by omega)]; exact f4⟩
theorem mQ_0 (h : mQ T W Z x) : mQ T W Z (aWr x bM 2 0) := ⟨mR_0 h.1, h.2.1, h.2.2.1, rFl_w (by decide) h.2.2.2⟩
theorem mQ_F {y : aS} (hF : mF x y) (h : mQ T W Z x) : mQ T W Z y := by
  obtain ⟨h1, h2, ⟨a, a1, a2, a3⟩, f0, f1, f2, f3, f4⟩ := h
  have e : ∀ j, 70 ≤ j → y.1 bM j = x.1 bM j := fun j hj => hF.1 bM j (by unfold mScr mIn; omega)
  exact ⟨mR_F hF h1, h2, ⟨a, a1, a2, by rw [hF.2 bM (by omega) (by omega)]; exact a3⟩, by rw [e _ (by decide)]; exact f0, by rw [e _ (by decide)]; exact f1, by rw [e _ (by decide)]; exact f2, by rw [e _ (by decide)]; exact f3, by rw [e _ (by decide)]; exact f4⟩
/-- the first one with more corns in Y than in Z, -1: none -/
def zMc (T : zT) (Z Y : zS) (i n : Nat) : Int32 := zFind (fun m => if Z.1 4 m < Y.1 4 m then 1 else 0) 1 i n
def zFc (T : zT) (W : Nat → zL) (Z : zS) (a : Int32) : Nat → Nat → zS → Int32
  | _, 0, _ => -2
  | i, k + 1, Y => if zMc T Z (zYear T W 5 Y) 0 (T.1 1) = -1 then zFc T W Z a (i + 1) k (zYear T W 5 Y) else if a = 0 then nI i else zMc T Z (zYear T W 5 Y) 0 (T.1 1)
def qFc (T : zT) (W : Nat → zL) (Z : zS) (a : Int32) : Int32 := if a = 0 ∨ a = 1 then zFc T W Z a 1 199 Z else -1
theorem one0 : ¬ ((0 : Int32) = 1) := by decide
theorem zMc_n {Y : zS} : ∀ (n i : Nat), i + n < 100 → zMc T Z Y i n = -1 ∨ (∃ m, zMc T Z Y i n = nI m ∧ m < 100) := by
  intro n
  induction n with
  | zero => intro i _; exact Or.inl rfl
  | succ n ih =>
    intro i hi
    show (if _ = (1 : Int32) then nI i else zMc T Z Y (i + 1) n) = -1 ∨ _
    by_cases q : (if Z.1 4 i < Y.1 4 i then (1 : Int32) else 0) = 1
    · refine Or.inr ⟨i, ?_, by omega⟩
      show (if (if Z.1 4 i < Y.1 4 i then (1 : Int32) else 0) = 1 then nI i else _) = nI i
      rw [if_pos q]
    · rw [if_neg q]
      have : zMc T Z Y i (n + 1) = zMc T Z Y (i + 1) n := by
        show (if (if Z.1 4 i < Y.1 4 i then (1 : Int32) else 0) = 1 then nI i else _) = _
        rw [if_neg q]
        rfl
      rw [this]
      exact ih (i + 1) (by omega)
set_option maxHeartbeats 4000000 in
set_option maxRecDepth 100000 in
theorem c_X11_firstWithMoreCorns {Y : zS} (hD : aDC D) (h : cR T W Z x t) (hS : rS T Y x bTr) : aDI l mX11_firstWithMoreCorns d D [.ref bLH] x (zMc T Z Y 0 (T.1 1)) x := by
  obtain ⟨ht, hp, ok, hZ, hT, hW, hN⟩ := h
  have h8 := ok.2.1
  have e0 : x.1 t 4 = nI (T.1 1) := hT.2.1
  have L : ∀ (k i : Nat), i + k = T.1 1 → aV l mX11_firstWithMoreCorns d D none 2 [(0, .ref bLH), (1, .int (nI i))] [] x (fun v y => v = some (.int (zMc T Z Y i k)) ∧ y = x) := by
    intro k
    induction k with
    | zero =>
      intro i hi
      rw [Nat.add_zero] at hi
      rw [← hi] at e0
      refine a_iload_n (i := 1) dX11_firstWithMoreCorns_2 rfl rfl ?_
      refine a_aload_n (i := 0) dX11_firstWithMoreCorns_3 rfl rfl ?_
      refine gX11_23 rfl dX11_firstWithMoreCorns_4 (isLH_0 hD) ?_
      rw [hp]
      refine gX11_122 rfl dX11_firstWithMoreCorns_7 (isT_0 hD ht) ?_
      rw [e0]
      refine a_icmp_ge (tg := 42) dX11_firstWithMoreCorns_10 (by decide) (fun c_10 => ?_) (fun c_10 => ?_)
      · refine a_iconst (v := (-1)) dX11_firstWithMoreCorns_42 (by decide) ?_
        exact a_iret dX11_firstWithMoreCorns_43 (by exact ⟨rfl, rfl⟩)
      · exact absurd (Int32.le_refl _) c_10
    | succ k ih =>
      intro i hi
      have hi2 : i < T.1 1 := by omega
      have f1 := (hS.2.2.2 i hi2).2.2
      have f2 := (hN.2.2.2 i hi2).2.2
      show aV l mX11_firstWithMoreCorns d D none 2 _ [] x (fun v y => v = some (.int (if (if Z.1 4 i < Y.1 4 i then (1 : Int32) else 0) = 1 then nI i else zMc T Z Y (i + 1) k)) ∧ y = x)
      refine a_iload_n (i := 1) dX11_firstWithMoreCorns_2 rfl rfl ?_
      refine a_aload_n (i := 0) dX11_firstWithMoreCorns_3 rfl rfl ?_
      refine gX11_23 rfl dX11_firstWithMoreCorns_4 (isLH_0 hD) ?_
      rw [hp]
      refine gX11_122 rfl dX11_firstWithMoreCorns_7 (isT_0 hD ht) ?_
      rw [e0]
      refine a_icmp_ge (tg := 42) dX11_firstWithMoreCorns_10 (by decide) (fun c_10 => ?_) (fun c_10 => ?_)
      · exact absurd c_10 (nI_ge hi2 (by omega))
      · refine a_aload_n (i := 0) dX11_firstWithMoreCorns_13 rfl rfl ?_
        refine gX11_37 rfl dX11_firstWithMoreCorns_14 (isLH_0 hD) ?_
        refine gX11_147 rfl dX11_firstWithMoreCorns_17 (isS_0 hD hbTr) ?_
        refine a_iload_n (i := 1) dX11_firstWithMoreCorns_20 rfl rfl ?_
        refine a_ialdN dX11_firstWithMoreCorns_21 (isS_12 hD hbTr) (by first | with_reducible exact rfl | with_reducible exact ix8 _ _ | with_reducible exact ix12 _ _ | exact rfl) (by omega) (by decide) ?_
        rw [f1]
        refine a_aload_n (i := 0) dX11_firstWithMoreCorns_22 rfl rfl ?_
        refine gX11_30 rfl dX11_firstWithMoreCorns_23 (isLH_0 hD) ?_
        refine gX11_147 rfl dX11_firstWithMoreCorns_26 (isS_0 hD hbNow) ?_
        refine a_iload_n (i := 1) dX11_firstWithMoreCorns_29 rfl rfl ?_
        refine a_ialdN dX11_firstWithMoreCorns_30 (isS_12 hD hbNow) (by first | with_reducible exact rfl | with_reducible exact ix8 _ _ | with_reducible exact ix12 _ _ | exact rfl) (by omega) (by decide) ?_
        rw [f2]
        refine a_icmp_le (tg := 36) dX11_firstWithMoreCorns_31 (by decide) (fun c_31 => ?_) (fun c_31 => ?_)
        · rw [if_neg (Int32.not_lt.mpr c_31), if_neg one0]
          refine a_iincK (i := 1) (u := 1) dX11_firstWithMoreCorns_36 rfl (by decide) (by decide) ?_
          refine a_goto (tg := 2) dX11_firstWithMoreCorns_39 (by decide) ?_
          rw [nI_1]; exact a_loc _ rfl (ih (i + 1) (by omega))
        · rw [if_pos (Int32.not_le.mp c_31), if_pos rfl]
          refine a_iload_n (i := 1) dX11_firstWithMoreCorns_34 rfl rfl ?_
          exact a_iret dX11_firstWithMoreCorns_35 (by exact ⟨rfl, rfl⟩)
  refine a_metI (by decide) (Nat.le_of_ble_eq_true rfl) rfl ?_
  refine a_iconst (v := 0) dX11_firstWithMoreCorns_0 (by decide) ?_
  refine a_istore_n (i := 1) dX11_firstWithMoreCorns_1 rfl (by decide) ?_
  exact a_loc _ rfl (L _ 0 (Nat.zero_add _))
set_option maxHeartbeats 4000000 in
set_option maxRecDepth 100000 in
theorem c_X11_firstCorn {a : Int32} (hD : aDC D) (h : cR T W Z x t) : aCt l mX11_firstCorn (d + 5) D [.ref bLH, .int a] x (fun v y => v = some (.int (qFc T W Z a)) ∧ cF x y) := by
  have hh := h
  obtain ⟨ht, hp, ok, hZ, hT, hW, hS⟩ := h
  refine a_met (by decide) (Nat.le_of_ble_eq_true rfl) (fun v y q => Or.inl ⟨rfl, _, q.1⟩) ?_
  unfold qFc
  by_cases q : a = 0 ∨ a = 1
  · rw [if_pos q]
    have L : ∀ (k i : Nat), i + k = 200 → ∀ (Y : zS) (y : aS), zOk T Y → rS T Y y bTr → aFy bTr x y → aV l mX11_firstCorn (d + 5) D none 24 [(0, .ref bLH), (1, .int a), (2, .int (nI i))] [] y (fun v y => v = some (.int (zFc T W Z a i k Y)) ∧ cF x y) := by
      intro k
      induction k with
      | zero =>
        intro i hi Y y hZy hSy hFy
        rw [Nat.add_zero] at hi
        subst hi
        refine a_iload_n (i := 2) dX11_firstCorn_24 rfl rfl ?_
        refine a_sipush (v := 200) dX11_firstCorn_25 (by decide) ?_
        refine a_icmp_ge (tg := 73) dX11_firstCorn_28 (by decide) (fun c_28 => ?_) (fun c_28 => ?_)
        · refine a_bipush (v := (-2)) dX11_firstCorn_73 (by decide) ?_
          exact a_iret dX11_firstCorn_75 (by exact ⟨rfl, cF_y hFy⟩)
        · exact absurd (Int32.le_refl _) c_28
      | succ k ih =>
        intro i hi Y y hZy hSy hFy
        obtain ⟨_, hpy, _, _, hTy, hWy, hNy⟩ := cR_y hFy hh
        show aV l mX11_firstCorn (d + 5) D none 24 _ [] y (fun v y => v = some (.int (if zMc T Z (zYear T W 5 Y) 0 (T.1 1) = -1 then zFc T W Z a (i + 1) k (zYear T W 5 Y) else if a = 0 then nI i else zMc T Z (zYear T W 5 Y) 0 (T.1 1))) ∧ cF x y)
        refine a_iload_n (i := 2) dX11_firstCorn_24 rfl rfl ?_
        refine a_sipush (v := 200) dX11_firstCorn_25 (by decide) ?_
        refine a_icmp_ge (tg := 73) dX11_firstCorn_28 (by decide) (fun c_28 => ?_) (fun c_28 => ?_)
        · exact absurd c_28 (nI_ge (show i < 200 by omega) (by decide))
        · refine a_aload_n (i := 0) dX11_firstCorn_31 rfl rfl ?_
          refine gX11_43 rfl dX11_firstCorn_32 (isLH_0 hD) ?_
          refine a_aload_n (i := 0) dX11_firstCorn_35 rfl rfl ?_
          refine gX11_23 rfl dX11_firstCorn_36 (isLH_0 hD) ?_
          rw [hpy]
          refine a_aload_n (i := 0) dX11_firstCorn_39 rfl rfl ?_
          refine gX11_37 rfl dX11_firstCorn_40 (isLH_0 hD) ?_
          refine a_iconst (v := 5) dX11_firstCorn_43 (by decide) ?_
          refine kgX11_272 rfl dX11_firstCorn_44 (Nat.le_of_ble_eq_true rfl) (isYr_0 hD) (c_X10_pass (way := 5) hD hbTr ht ok hZy hTy hWy hSy (by decide)) ?_
          rintro v y1 ⟨rfl, hS1, hZ1, hF1⟩
          have hFx := aFy_t hFy hF1
          refine a_aload_n (i := 0) dX11_firstCorn_47 rfl rfl ?_
          refine kX11_280 rfl dX11_firstCorn_48 (Nat.le_of_ble_eq_true rfl) (isLH_0 hD) (c_X11_firstWithMoreCorns hD (cR_y hFx hh) hS1) ?_
          refine a_istore_n (i := 3) dX11_firstCorn_51 rfl (by decide) ?_
          refine a_iload_n (i := 3) dX11_firstCorn_52 rfl rfl ?_
          refine a_iconst (v := (-1)) dX11_firstCorn_53 (by decide) ?_
          refine a_icmp_eq (tg := 67) dX11_firstCorn_54 (by decide) (fun c_54 => ?_) (fun c_54 => ?_)
          · rw [if_pos c_54]
            refine a_iincK (i := 2) (u := 1) dX11_firstCorn_67 rfl (by decide) (by decide) ?_
            refine a_goto (tg := 24) dX11_firstCorn_70 (by decide) ?_
            rw [nI_1]; exact a_loc _ rfl (ih (i + 1) (by omega) _ _ hZ1 hS1 hFx)
          · rw [if_neg c_54]
            refine a_iload_n (i := 1) dX11_firstCorn_57 rfl rfl ?_
            refine a_if_ne (tg := 65) dX11_firstCorn_58 (by decide) (fun c_58 => ?_) (fun c_58 => ?_)
            · rw [if_neg c_58]
              refine a_iload_n (i := 3) dX11_firstCorn_65 rfl rfl ?_
              exact a_iret dX11_firstCorn_66 (by exact ⟨rfl, cF_y hFx⟩)
            · rw [if_pos c_58]
              refine a_iload_n (i := 2) dX11_firstCorn_61 rfl rfl ?_
              refine a_goto (tg := 66) dX11_firstCorn_62 (by decide) ?_
              exact a_iret dX11_firstCorn_66 (by exact ⟨rfl, cF_y hFx⟩)
    have P11 : aV l mX11_firstCorn (d + 5) D none 11 [(0, .ref bLH), (1, .int a)] [] x (fun v y => v = some (.int (zFc T W Z a 1 199 Z)) ∧ cF x y) := by
      refine a_aload_n (i := 0) dX11_firstCorn_11 rfl rfl ?_
      refine gX11_37 rfl dX11_firstCorn_12 (isLH_0 hD) ?_
      refine a_aload_n (i := 0) dX11_firstCorn_15 rfl rfl ?_
      refine gX11_30 rfl dX11_firstCorn_16 (isLH_0 hD) ?_
      refine kX11_268 rfl dX11_firstCorn_19 (Nat.le_of_ble_eq_true rfl) (isS_0 hD hbTr) (c_X6_copyFrom hD hbTr hbNow (by decide)) ?_
      refine a_iconst (v := 1) dX11_firstCorn_22 (by decide) ?_
      refine a_istore_n (i := 2) dX11_firstCorn_23 rfl (by decide) ?_
      exact a_loc _ rfl (L 199 1 rfl Z _ hZ (rS_copy hbTr hbNow (by decide) ok hZ hS) (aFy_copy hbTr hbNow (by decide)))
    refine a_iload_n (i := 1) dX11_firstCorn_0 rfl rfl ?_
    refine a_if_eq (tg := 11) dX11_firstCorn_1 (by decide) (fun c_1 => ?_) (fun c_1 => ?_)
    · exact a_loc _ rfl P11
    · refine a_iload_n (i := 1) dX11_firstCorn_4 rfl rfl ?_
      refine a_iconst (v := 1) dX11_firstCorn_5 (by decide) ?_
      refine a_icmp_eq (tg := 11) dX11_firstCorn_6 (by decide) (fun c_6 => ?_) (fun c_6 => ?_)
      · exact a_loc _ rfl P11
      · exact absurd q (fun g => g.elim c_1 c_6)
  · rw [if_neg q]
    refine a_iload_n (i := 1) dX11_firstCorn_0 rfl rfl ?_
    refine a_if_eq (tg := 11) dX11_firstCorn_1 (by decide) (fun c_1 => ?_) (fun c_1 => ?_)
    · exact absurd (Or.inl c_1) q
    · refine a_iload_n (i := 1) dX11_firstCorn_4 rfl rfl ?_
      refine a_iconst (v := 1) dX11_firstCorn_5 (by decide) ?_
      refine a_icmp_eq (tg := 11) dX11_firstCorn_6 (by decide) (fun c_6 => ?_) (fun c_6 => ?_)
      · exact absurd (Or.inr c_6) q
      · refine a_iconst (v := (-1)) dX11_firstCorn_9 (by decide) ?_
        exact a_iret dX11_firstCorn_10 (by exact ⟨rfl, cF_r⟩)
theorem zIn2 {a : Int32} : (0 ≤ a ∧ a ≤ 1) ↔ (a = 0 ∨ a = 1) := by
  constructor
  · intro h
    obtain ⟨k, hk, rfl⟩ := zIn_of (n := 2) (by decide) ((zIn_le (n := 1) rfl (by decide)).mp h)
    have : k = 0 ∨ k = 1 := by omega
    rcases this with rfl | rfl
    · exact Or.inl rfl
    · exact Or.inr rfl
  · rintro (rfl | rfl) <;> decide
set_option maxHeartbeats 4000000 in
set_option maxRecDepth 100000 in
theorem c_X12_firstCorn {a : Int32} (hM : D 12 = true) (h : mQ T W Z x) : aCt l mX12_firstCorn (d + 7) D [.ref bM, .int a] x (fun v y => v = some (.int (qFc T W Z a)) ∧ mF x y) := by
  have hF0 : mF x (aWr x bM 2 0) := mF_0
  have hq := mQ_0 h
  refine a_met (by decide) (Nat.le_of_ble_eq_true rfl) (fun v y q => Or.inl ⟨rfl, _, q.1⟩) ?_
  refine a_aload_n (i := 0) dX12_firstCorn_0 rfl rfl ?_
  refine a_iconst (v := 0) dX12_firstCorn_1 (by decide) ?_
  refine pX12_175 rfl dX12_firstCorn_2 (isM_0 hM) ?_
  refine a_loc [(0, .ref bM), (1, .int a)] rfl ?_
  generalize aWr x bM 2 0 = y at *
  have hqq := hq
  obtain ⟨⟨ok, hZ, hT, hW, hS⟩, hB, hN, hf⟩ := hq
  have h8 := ok.2.1
  unfold qFc
  by_cases q : a = 0 ∨ a = 1
  · rw [if_pos q]
    have L : ∀ (k i : Nat), i + k = 200 → ∀ (Y : zS) (z : aS), mY T W 5 1 Y z → mR T W Z z → mF x z → aV l mX12_firstCorn (d + 7) D none 22 [(0, .ref bM), (1, .int a), (2, .int (nI i))] [] z (fun v y => v = some (.int (zFc T W Z a i k Y)) ∧ mF x y) := by
      intro k
      induction k with
      | zero =>
        intro i hi Y z hY hR hFz
        rw [Nat.add_zero] at hi
        subst hi
        refine a_iload_n (i := 2) dX12_firstCorn_22 rfl rfl ?_
        refine a_sipush (v := 200) dX12_firstCorn_23 (by decide) ?_
        refine a_icmp_ge (tg := 84) dX12_firstCorn_26 (by decide) (fun c_26 => ?_) (fun c_26 => ?_)
        · refine a_bipush (v := (-2)) dX12_firstCorn_84 (by decide) ?_
          exact a_iret dX12_firstCorn_86 (by exact ⟨rfl, hFz⟩)
        · exact absurd (Int32.le_refl _) c_26
      | succ k ih =>
        intro i hi Y z hY hR hFz
        show aV l mX12_firstCorn (d + 7) D none 22 _ [] z (fun v y => v = some (.int (if zMc T Z (zYear T W 5 Y) 0 (T.1 1) = -1 then zFc T W Z a (i + 1) k (zYear T W 5 Y) else if a = 0 then nI i else zMc T Z (zYear T W 5 Y) 0 (T.1 1))) ∧ mF x y)
        have I : ∀ (z1 : aS), mY T W 5 1 (zYear T W 5 Y) z1 → mR T W Z z1 → mF x z1 → ∀ (n m : Nat), m + n = T.1 1 → aV l mX12_firstCorn (d + 7) D none 36 [(0, .ref bM), (1, .int a), (2, .int (nI i)), (3, .int (nI m))] [] z1 (fun v y => v = some (.int (if zMc T Z (zYear T W 5 Y) m n = -1 then zFc T W Z a (i + 1) k (zYear T W 5 Y) else if a = 0 then nI i else zMc T Z (zYear T W 5 Y) m n)) ∧ mF x y) := by
          intro z1 hY1 hR1 hF1 n
          have hT1 := hR1.2.2.1
          have hS1 := hR1.2.2.2.2
          have hS2 := hY1.2.2.2.2.2.1
          have e0 : z1.1 bM 13 = nI (T.1 1) := hT1.2.1
          induction n with
          | zero =>
            intro m hm
            rw [Nat.add_zero] at hm
            rw [← hm] at e0
            rw [show zMc T Z (zYear T W 5 Y) m 0 = -1 from rfl, if_pos rfl]
            refine a_iload_n (i := 3) dX12_firstCorn_36 rfl rfl ?_
            refine a_aload_n (i := 0) dX12_firstCorn_37 rfl rfl ?_
            refine gX12_261 rfl dX12_firstCorn_38 (isM_0 hM) ?_
            rw [e0]
            refine a_icmp_ge (tg := 78) dX12_firstCorn_41 (by decide) (fun c_41 => ?_) (fun c_41 => ?_)
            · refine a_iincK (i := 2) (u := 1) dX12_firstCorn_78 rfl (by decide) (by decide) ?_
              refine a_goto (tg := 22) dX12_firstCorn_81 (by decide) ?_
              rw [nI_1]; exact a_loc _ rfl (ih (i + 1) (by omega) _ z1 hY1 hR1 hF1)
            · exact absurd (Int32.le_refl _) c_41
          | succ n ihn =>
            intro m hm
            have hm2 : m < T.1 1 := by omega
            have f1 := (hS2.2.2.2 m hm2).2.2.1
            rw [Nat.mul_one] at f1
            have f2 := (hS1.2.2.2 m hm2).2.2.1
            rw [Nat.mul_zero, Nat.zero_add] at f2
            have g0 : zMc T Z (zYear T W 5 Y) m (n + 1) = (if (if Z.1 4 m < (zYear T W 5 Y).1 4 m then (1 : Int32) else 0) = 1 then nI m else zMc T Z (zYear T W 5 Y) (m + 1) n) := rfl
            have nm : ¬ nI m = -1 := fun g => absurd (show nI m < 0 by rw [g]; decide) (nI_pos (by omega))
            refine a_iload_n (i := 3) dX12_firstCorn_36 rfl rfl ?_
            refine a_aload_n (i := 0) dX12_firstCorn_37 rfl rfl ?_
            refine gX12_261 rfl dX12_firstCorn_38 (isM_0 hM) ?_
            rw [e0]
            refine a_icmp_ge (tg := 78) dX12_firstCorn_41 (by decide) (fun c_41 => ?_) (fun c_41 => ?_)
            · exact absurd c_41 (nI_ge hm2 (by omega))
            · refine a_aload_n (i := 0) dX12_firstCorn_44 rfl rfl ?_
              refine gX12_124 rfl dX12_firstCorn_45 (isM_0 hM) ?_
              refine a_bipush (v := 8) dX12_firstCorn_48 (by decide) ?_
              refine a_iload_n (i := 3) dX12_firstCorn_50 rfl rfl ?_
              refine a_iadd dX12_firstCorn_51 ?_
              refine a_ialdN dX12_firstCorn_52 (isM_66 hM) (by first | exact nI_add 8 _ | with_reducible exact rfl | with_reducible exact ix8 _ _ | with_reducible exact ix12 _ _ | exact rfl) (by omega) (by decide) ?_
              rw [f1]
              refine a_aload_n (i := 0) dX12_firstCorn_53 rfl rfl ?_
              refine gX12_124 rfl dX12_firstCorn_54 (isM_0 hM) ?_
              refine a_iload_n (i := 3) dX12_firstCorn_57 rfl rfl ?_
              refine a_ialdN dX12_firstCorn_58 (isM_66 hM) (by first | with_reducible exact rfl | with_reducible exact ix8 _ _ | with_reducible exact ix12 _ _ | exact rfl) (by omega) (by decide) ?_
              rw [f2]
              refine a_icmp_le (tg := 72) dX12_firstCorn_59 (by decide) (fun c_59 => ?_) (fun c_59 => ?_)
              · rw [g0, if_neg (Int32.not_lt.mpr c_59), if_neg one0]
                refine a_iincK (i := 3) (u := 1) dX12_firstCorn_72 rfl (by decide) (by decide) ?_
                refine a_goto (tg := 36) dX12_firstCorn_75 (by decide) ?_
                rw [nI_1]; exact a_loc _ rfl (ihn (m + 1) (by omega))
              · rw [g0, if_pos (Int32.not_le.mp c_59), if_pos rfl, if_neg nm]
                refine a_iload_n (i := 1) dX12_firstCorn_62 rfl rfl ?_
                refine a_if_ne (tg := 70) dX12_firstCorn_63 (by decide) (fun c_63 => ?_) (fun c_63 => ?_)
                · rw [if_neg c_63]
                  refine a_iload_n (i := 3) dX12_firstCorn_70 rfl rfl ?_
                  exact a_iret dX12_firstCorn_71 (by exact ⟨rfl, hF1⟩)
                · rw [if_pos c_63]
                  refine a_iload_n (i := 2) dX12_firstCorn_66 rfl rfl ?_
                  refine a_goto (tg := 71) dX12_firstCorn_67 (by decide) ?_
                  exact a_iret dX12_firstCorn_71 (by exact ⟨rfl, hF1⟩)
        refine a_iload_n (i := 2) dX12_firstCorn_22 rfl rfl ?_
        refine a_sipush (v := 200) dX12_firstCorn_23 (by decide) ?_
        refine a_icmp_ge (tg := 84) dX12_firstCorn_26 (by decide) (fun c_26 => ?_) (fun c_26 => ?_)
        · exact absurd c_26 (nI_ge (show i < 200 by omega) (by decide))
        · refine a_aload_n (i := 0) dX12_firstCorn_29 rfl rfl ?_
          refine a_iconst (v := 1) dX12_firstCorn_30 (by decide) ?_
          refine kgX12_489 rfl dX12_firstCorn_31 (Nat.le_of_ble_eq_true rfl) (isM_0 hM) (mz_year (i := 1) hM (by decide) hY) ?_
          rintro v z1 ⟨rfl, hJ1⟩
          have hF2 := mF_i hJ1.2.2.2.1 (hJ1.2.2.2.2.2 (by decide))
          refine a_iconst (v := 0) dX12_firstCorn_34 (by decide) ?_
          refine a_istore_n (i := 3) dX12_firstCorn_35 rfl (by decide) ?_
          exact a_loc _ rfl (I z1 (mY_n hY hJ1) (mR_F hF2 hR) (mF_t hFz hF2) _ 0 (Nat.zero_add _))
    have P16 : aV l mX12_firstCorn (d + 7) D none 16 [(0, .ref bM), (1, .int a)] [] y (fun v y => v = some (.int (zFc T W Z a 1 199 Z)) ∧ mF x y) := by
      refine a_aload_n (i := 0) dX12_firstCorn_16 rfl rfl ?_
      refine kgX12_510 rfl dX12_firstCorn_17 (Nat.le_of_ble_eq_true rfl) (isM_0 hM) (c_X12_layTried hM) ?_
      rintro v y1 ⟨rfl, w1, hw1, rfl⟩
      obtain ⟨hY, hF1, hs1⟩ := mz_tr hqq hw1
      refine a_iconst (v := 1) dX12_firstCorn_20 (by decide) ?_
      refine a_istore_n (i := 2) dX12_firstCorn_21 rfl (by decide) ?_
      exact a_loc _ rfl (L 199 1 rfl Z _ hY (mR_F hF1 hqq.1) (mF_t hF0 hF1))
    refine a_iload_n (i := 1) dX12_firstCorn_5 rfl rfl ?_
    refine a_iconst (v := 0) dX12_firstCorn_6 (by decide) ?_
    refine a_iconst (v := 1) dX12_firstCorn_7 (by decide) ?_
    refine kX12_220 rfl dX12_firstCorn_8 (Nat.le_of_ble_eq_true rfl) (c_X12_isIn) ?_
    refine a_if_ne (tg := 16) dX12_firstCorn_11 (by decide) (fun c_11 => ?_) (fun c_11 => ?_)
    · exact a_loc _ rfl P16
    · exact absurd c_11 (bI_p.mpr (zIn2.mpr q))
  · rw [if_neg q]
    refine a_iload_n (i := 1) dX12_firstCorn_5 rfl rfl ?_
    refine a_iconst (v := 0) dX12_firstCorn_6 (by decide) ?_
    refine a_iconst (v := 1) dX12_firstCorn_7 (by decide) ?_
    refine kX12_220 rfl dX12_firstCorn_8 (Nat.le_of_ble_eq_true rfl) (c_X12_isIn) ?_
    refine a_if_ne (tg := 16) dX12_firstCorn_11 (by decide) (fun c_11 => ?_) (fun c_11 => ?_)
    · exact absurd (zIn2.mp (bI_p.mp c_11)) q
    · refine a_iconst (v := (-1)) dX12_firstCorn_14 (by decide) ?_
      exact a_iret dX12_firstCorn_15 (by exact ⟨rfl, hF0⟩)
abbrev zTr (T : zT) (w i n : Int32) : Prop := zIn 5 w ∧ zIn 201 n ∧ (w = 2 → zIn (T.1 0) i) ∧ (¬ w = 2 → i = 0)
def zTr0 (T : zT) (Z : zS) (w i : Int32) : zS := if w = 2 then zSet Z i.toNatClampNeg (fun _ => T.2.1 1 i.toNatClampNeg) else Z
def qTried (T : zT) (W : Nat → zL) (Z : zS) (w i n : Int32) : Int32 := if zTr T w i n then zCorns T (zYears T W w.toNatClampNeg n.toNatClampNeg (zTr0 T Z w i)) - zCorns T Z else -1
set_option maxHeartbeats 4000000 in
set_option maxRecDepth 100000 in
theorem c_X11_tried {w i n : Int32} (hD : aDC D) (h : cR T W Z x t) : aCt l mX11_tried (d + 6) D [.ref bLH, .int w, .int i, .int n] x (fun v y => v = some (.int (qTried T W Z w i n)) ∧ cF x y) := by
  have hh := h
  obtain ⟨ht, hp, ok, hZ, hT, hW, hS⟩ := h
  have h6 := ok.1
  refine a_met (by decide) (Nat.le_of_ble_eq_true rfl) (fun v y q => Or.inl ⟨rfl, _, q.1⟩) ?_
  unfold qTried
  by_cases q : zTr T w i n
  · rw [if_pos q]
    obtain ⟨q1, q2, q3, q4⟩ := q
    obtain ⟨k, hk, rfl⟩ := zIn_of (by decide) q1
    obtain ⟨N, hN, rfl⟩ := zIn_of (by decide) q2
    rw [nI_clamp (by omega), nI_clamp (by omega)]
    have P72 : ∀ y, zOk T (zTr0 T Z (nI k) i) → rS T (zTr0 T Z (nI k) i) y bTr → aFy bTr x y → aV l mX11_tried (d + 6) D none 72 [(0, .ref bLH), (1, .int (nI k)), (3, .int (nI N))] [] y (fun v y => v = some (.int (zCorns T (zYears T W k N (zTr0 T Z (nI k) i)) - zCorns T Z)) ∧ cF x y) := by
      intro y hZy hSy hFy
      have hc := c_X11_runTrial (l := l) (d := d) (D := D) (n := N) (way := k) (x := y) hD (cT_y hbTr hFy (cR_T hh)) hZy hSy (by omega) (by omega)
      have P78 : ∀ z, rS T (zYears T W k N (zTr0 T Z (nI k) i)) z bTr → aFy bTr x z → aV l mX11_tried (d + 6) D none 78 [(0, .ref bLH), (1, .int (nI k)), (3, .int (nI N))] [] z (fun v y => v = some (.int (zCorns T (zYears T W k N (zTr0 T Z (nI k) i)) - zCorns T Z)) ∧ cF x y) := by
        intro z hSz hFz
        obtain ⟨_, hpz, _, _, hTz, hWz, hNz⟩ := cR_y hFz hh
        refine a_aload_n (i := 0) dX11_tried_78 rfl rfl ?_
        refine gX11_37 rfl dX11_tried_79 (isLH_0 hD) ?_
        refine a_aload_n (i := 0) dX11_tried_82 rfl rfl ?_
        refine gX11_23 rfl dX11_tried_83 (isLH_0 hD) ?_
        rw [hpz]
        refine kX11_224 rfl dX11_tried_86 (Nat.le_of_ble_eq_true rfl) (isS_0 hD hbTr) (cz_cornsOfAll hD hbTr ht ok hTz hSz) ?_
        refine a_aload_n (i := 0) dX11_tried_89 rfl rfl ?_
        refine gX11_30 rfl dX11_tried_90 (isLH_0 hD) ?_
        refine a_aload_n (i := 0) dX11_tried_93 rfl rfl ?_
        refine gX11_23 rfl dX11_tried_94 (isLH_0 hD) ?_
        rw [hpz]
        refine kX11_224 rfl dX11_tried_97 (Nat.le_of_ble_eq_true rfl) (isS_0 hD hbNow) (cz_cornsOfAll hD hbNow ht ok hTz hNz) ?_
        refine a_isub dX11_tried_100 ?_
        exact a_iret dX11_tried_101 (by exact ⟨rfl, cF_y hFz⟩)
      refine a_aload_n (i := 0) dX11_tried_72 rfl rfl ?_
      refine a_iload_n (i := 3) dX11_tried_73 rfl rfl ?_
      refine a_iload_n (i := 1) dX11_tried_74 rfl rfl ?_
      refine kgX11_276 rfl dX11_tried_75 (Nat.le_of_ble_eq_true rfl) (isLH_0 hD) (hc) ?_
      rintro v z ⟨rfl, hSz, hZz, hFz⟩
      exact a_loc _ rfl (P78 z hSz (aFy_t hFy hFz))
    have P44 : aV l mX11_tried (d + 6) D none 44 [(0, .ref bLH), (1, .int (nI k)), (2, .int i), (3, .int (nI N))] [] x (fun v y => v = some (.int (zCorns T (zYears T W k N (zTr0 T Z (nI k) i)) - zCorns T Z)) ∧ cF x y) := by
      have F1 := aFy_copy (x := x) hbTr hbNow (show bNow ≠ bTr by decide)
      have S1 : rS T Z (sCopy x bTr bNow) bTr := rS_copy hbTr hbNow (by decide) ok hZ hS
      obtain ⟨_, hpy, _, _, hTy, hWy, hNy⟩ := cR_y F1 hh
      by_cases w2 : nI k = 2
      · obtain ⟨m, hm, rfl⟩ := zIn_of (by omega) (q3 w2)
        have ez : zTr0 T Z (nI k) (nI m) = zSet Z m (fun _ => T.2.1 1 m) := by rw [zTr0, if_pos w2, nI_clamp (by omega)]
        have p := P72 (sBare (sCopy x bTr bNow) t bTr m) (by rw [ez]; exact zOk_set hZ) (by rw [ez]; exact rS_bare ht hbTr hTy S1 hm) (aFy_t F1 (aFy_bare hbTr))
        refine a_aload_n (i := 0) dX11_tried_44 rfl rfl ?_
        refine gX11_37 rfl dX11_tried_45 (isLH_0 hD) ?_
        refine a_aload_n (i := 0) dX11_tried_48 rfl rfl ?_
        refine gX11_30 rfl dX11_tried_49 (isLH_0 hD) ?_
        refine kX11_268 rfl dX11_tried_52 (Nat.le_of_ble_eq_true rfl) (isS_0 hD hbTr) (c_X6_copyFrom hD hbTr hbNow (by decide)) ?_
        refine a_iload_n (i := 1) dX11_tried_55 rfl rfl ?_
        refine a_iconst (v := 2) dX11_tried_56 (by decide) ?_
        refine a_icmp_ne (tg := 72) dX11_tried_57 (by decide) (fun c_57 => ?_) (fun c_57 => ?_)
        · exact absurd w2 c_57
        · refine a_aload_n (i := 0) dX11_tried_60 rfl rfl ?_
          refine gX11_37 rfl dX11_tried_61 (isLH_0 hD) ?_
          refine a_aload_n (i := 0) dX11_tried_64 rfl rfl ?_
          refine gX11_23 rfl dX11_tried_65 (isLH_0 hD) ?_
          rw [hpy]
          refine a_iload_n (i := 2) dX11_tried_68 rfl rfl ?_
          refine kX11_283 rfl dX11_tried_69 (Nat.le_of_ble_eq_true rfl) (isS_0 hD hbTr) (c_X6_bare hD hbTr ht (show m < 6 by omega)) ?_
          exact a_loc _ rfl p
      · have ez : zTr0 T Z (nI k) i = Z := by rw [zTr0, if_neg w2]
        have p := P72 (sCopy x bTr bNow) (by rw [ez]; exact hZ) (by rw [ez]; exact S1) F1
        refine a_aload_n (i := 0) dX11_tried_44 rfl rfl ?_
        refine gX11_37 rfl dX11_tried_45 (isLH_0 hD) ?_
        refine a_aload_n (i := 0) dX11_tried_48 rfl rfl ?_
        refine gX11_30 rfl dX11_tried_49 (isLH_0 hD) ?_
        refine kX11_268 rfl dX11_tried_52 (Nat.le_of_ble_eq_true rfl) (isS_0 hD hbTr) (c_X6_copyFrom hD hbTr hbNow (by decide)) ?_
        refine a_iload_n (i := 1) dX11_tried_55 rfl rfl ?_
        refine a_iconst (v := 2) dX11_tried_56 (by decide) ?_
        refine a_icmp_ne (tg := 72) dX11_tried_57 (by decide) (fun c_57 => ?_) (fun c_57 => ?_)
        · exact a_loc _ rfl p
        · exact absurd c_57 w2
    refine a_iload_n (i := 1) dX11_tried_0 rfl rfl ?_
    refine a_if_lt (tg := 20) dX11_tried_1 (by decide) (fun c_1 => ?_) (fun c_1 => ?_)
    · exact absurd q1.1 (Int32.not_le.mpr c_1)
    · refine a_iload_n (i := 1) dX11_tried_4 rfl rfl ?_
      refine a_iconst (v := 4) dX11_tried_5 (by decide) ?_
      refine a_icmp_gt (tg := 20) dX11_tried_6 (by decide) (fun c_6 => ?_) (fun c_6 => ?_)
      · exact absurd (zIn5.mpr q1).2 (Int32.not_le.mpr c_6)
      · refine a_iload_n (i := 3) dX11_tried_9 rfl rfl ?_
        refine a_if_lt (tg := 20) dX11_tried_10 (by decide) (fun c_10 => ?_) (fun c_10 => ?_)
        · exact absurd q2.1 (Int32.not_le.mpr c_10)
        · refine a_iload_n (i := 3) dX11_tried_13 rfl rfl ?_
          refine a_sipush (v := 200) dX11_tried_14 (by decide) ?_
          refine a_icmp_le (tg := 22) dX11_tried_17 (by decide) (fun c_17 => ?_) (fun c_17 => ?_)
          · refine a_iload_n (i := 1) dX11_tried_22 rfl rfl ?_
            refine a_iconst (v := 2) dX11_tried_23 (by decide) ?_
            refine a_icmp_ne (tg := 38) dX11_tried_24 (by decide) (fun c_24 => ?_) (fun c_24 => ?_)
            · refine a_iload_n (i := 2) dX11_tried_38 rfl rfl ?_
              refine a_if_eq (tg := 44) dX11_tried_39 (by decide) (fun c_39 => ?_) (fun c_39 => ?_)
              · exact a_loc _ rfl P44
              · exact absurd (q4 c_24) c_39
            · refine a_aload_n (i := 0) dX11_tried_27 rfl rfl ?_
              refine a_iload_n (i := 2) dX11_tried_28 rfl rfl ?_
              refine kX11_162 rfl dX11_tried_29 (Nat.le_of_ble_eq_true rfl) (isLH_0 hD) (c_X11_isHouse hD ht hp hT) ?_
              refine a_if_ne (tg := 44) dX11_tried_32 (by decide) (fun c_32 => ?_) (fun c_32 => ?_)
              · exact a_loc _ rfl P44
              · exact absurd c_32 (bI_p.mpr (q3 c_24))
          · exact absurd (zIn201.mpr q2).2 c_17
  · rw [if_neg q]
    refine a_iload_n (i := 1) dX11_tried_0 rfl rfl ?_
    refine a_if_lt (tg := 20) dX11_tried_1 (by decide) (fun c_1 => ?_) (fun c_1 => ?_)
    · refine a_iconst (v := (-1)) dX11_tried_20 (by decide) ?_
      exact a_iret dX11_tried_21 (by exact ⟨rfl, cF_r⟩)
    · refine a_iload_n (i := 1) dX11_tried_4 rfl rfl ?_
      refine a_iconst (v := 4) dX11_tried_5 (by decide) ?_
      refine a_icmp_gt (tg := 20) dX11_tried_6 (by decide) (fun c_6 => ?_) (fun c_6 => ?_)
      · refine a_iconst (v := (-1)) dX11_tried_20 (by decide) ?_
        exact a_iret dX11_tried_21 (by exact ⟨rfl, cF_r⟩)
      · refine a_iload_n (i := 3) dX11_tried_9 rfl rfl ?_
        refine a_if_lt (tg := 20) dX11_tried_10 (by decide) (fun c_10 => ?_) (fun c_10 => ?_)
        · refine a_iconst (v := (-1)) dX11_tried_20 (by decide) ?_
          exact a_iret dX11_tried_21 (by exact ⟨rfl, cF_r⟩)
        · refine a_iload_n (i := 3) dX11_tried_13 rfl rfl ?_
          refine a_sipush (v := 200) dX11_tried_14 (by decide) ?_
          refine a_icmp_le (tg := 22) dX11_tried_17 (by decide) (fun c_17 => ?_) (fun c_17 => ?_)
          · refine a_iload_n (i := 1) dX11_tried_22 rfl rfl ?_
            refine a_iconst (v := 2) dX11_tried_23 (by decide) ?_
            refine a_icmp_ne (tg := 38) dX11_tried_24 (by decide) (fun c_24 => ?_) (fun c_24 => ?_)
            · refine a_iload_n (i := 2) dX11_tried_38 rfl rfl ?_
              refine a_if_eq (tg := 44) dX11_tried_39 (by decide) (fun c_39 => ?_) (fun c_39 => ?_)
              · exact absurd ⟨zIn5.mp ⟨Int32.not_lt.mp c_1, Int32.not_lt.mp c_6⟩, zIn201.mp ⟨Int32.not_lt.mp c_10, c_17⟩, fun g => by first | exact bI_p.mp c_32 | exact absurd g c_24, fun g => by first | exact c_39 | exact absurd c_24 g⟩ q
              · refine a_iconst (v := (-1)) dX11_tried_42 (by decide) ?_
                exact a_iret dX11_tried_43 (by exact ⟨rfl, cF_r⟩)
            · refine a_aload_n (i := 0) dX11_tried_27 rfl rfl ?_
              refine a_iload_n (i := 2) dX11_tried_28 rfl rfl ?_
              refine kX11_162 rfl dX11_tried_29 (Nat.le_of_ble_eq_true rfl) (isLH_0 hD) (c_X11_isHouse hD ht hp hT) ?_
              refine a_if_ne (tg := 44) dX11_tried_32 (by decide) (fun c_32 => ?_) (fun c_32 => ?_)
              · exact absurd ⟨zIn5.mp ⟨Int32.not_lt.mp c_1, Int32.not_lt.mp c_6⟩, zIn201.mp ⟨Int32.not_lt.mp c_10, c_17⟩, fun g => by first | exact bI_p.mp c_32 | exact absurd g c_24, fun g => by first | exact c_39 | exact absurd c_24 g⟩ q
              · refine a_goto (tg := 42) dX11_tried_35 (by decide) ?_
                refine a_iconst (v := (-1)) dX11_tried_42 (by decide) ?_
                exact a_iret dX11_tried_43 (by exact ⟨rfl, cF_r⟩)
          · refine a_iconst (v := (-1)) dX11_tried_20 (by decide) ?_
            exact a_iret dX11_tried_21 (by exact ⟨rfl, cF_r⟩)
theorem mF_fl {y z : aS} (hf : rFl 5 x) (hF : mF x y) (h : ∀ n j, ¬ (n = bM ∧ 70 ≤ j ∧ j ≤ 74) → z.1 n j = y.1 n j) (hz : rFl 5 z) (h2 : z.2 = y.2) : mF x z := by
  refine ⟨fun n j hs => ?_, fun n a b => by rw [h2]; exact hF.2 n a b⟩
  by_cases q : n = bM ∧ 70 ≤ j ∧ j ≤ 74
  · obtain ⟨rfl, q1, q2⟩ := q
    obtain ⟨a0, a1, a2, a3, a4⟩ := hz
    obtain ⟨b0, b1, b2, b3, b4⟩ := hf
    have : j = 70 ∨ j = 71 ∨ j = 72 ∨ j = 73 ∨ j = 74 := by omega
    rcases this with rfl | rfl | rfl | rfl | rfl
    · rw [a0, b0]
    · rw [a1, b1]
    · rw [a2, b2]
    · rw [a3, b3]
    · rw [a4, b4]
  · rw [h n j q]; exact hF.1 n j hs
theorem mFl0_fr {n j : Nat} (h : ¬ (n = bM ∧ 70 ≤ j ∧ j ≤ 74)) : (mFl0 x).1 n j = x.1 n j := by
  by_cases e : n = bM
  · subst e; exact mFl0_j (by omega)
  · rw [mFl0_n e]
/-- places written apart from flags, as a weaker frame -/
def mG (x y : aS) : Prop := (∀ n j, ¬ mScr n j → ¬ (n = bM ∧ 70 ≤ j ∧ j ≤ 74) → y.1 n j = x.1 n j) ∧ (∀ n, n ≠ bM + 57 → n ≠ bM + 58 → n ≠ bM → y.2 n = x.2 n) ∧ (∀ j, j ≠ 69 → y.2 bM j = x.2 bM j)
theorem mG_F {y : aS} (h : mF x y) : mG x y := ⟨fun n j a _ => h.1 n j a, fun n a b _ => h.2 n a b, fun j _ => by rw [h.2 bM (by omega) (by omega)]⟩
theorem mG_t {y z : aS} (h1 : mG x y) (h2 : mG y z) : mG x z := ⟨fun n j a b => (h2.1 n j a b).trans (h1.1 n j a b), fun n a b c => (h2.2.1 n a b c).trans (h1.2.1 n a b c), fun j a => (h2.2.2 j a).trans (h1.2.2 j a)⟩
theorem mG_i {y : aS} (h : aFi 1 x y) : mG x y := ⟨fun n j h1 _ => h.1 n j (fun g => h1 (Or.inr (Or.inl g))) (fun g => h1 (Or.inl ⟨g.1, Or.inr g.2⟩)), fun n a b c => by funext j; exact h.2 n j a b (fun g => c g.1), fun j a => h.2 bM j (by omega) (by omega) (fun g => a g.2)⟩
theorem mG_w {j : Nat} {v : Int32} (h : 70 ≤ j ∧ j ≤ 74) : mG x (aWr x bM j v) := by
  refine ⟨fun n k _ h2 => ?_, fun _ _ _ _ => rfl, fun _ _ => rfl⟩
  by_cases e : n = bM
  · subst e; exact aWr_j _ _ _ (fun g => h2 (by subst g; exact ⟨rfl, h⟩))
  · rw [aWr_n _ _ _ e]
theorem mF_G {y z : aS} (hf : rFl 5 x) (h : mG x y) (h1 : ∀ n j, ¬ (n = bM ∧ 70 ≤ j ∧ j ≤ 74) → z.1 n j = y.1 n j) (hz : rFl 5 z) (h2 : ∀ n, n ≠ bM → z.2 n = y.2 n) (h3 : ∀ j, j ≠ 69 → z.2 bM j = y.2 bM j) (h4 : z.2 bM 69 = x.2 bM 69) : mF x z := by
  refine ⟨fun n j hs => ?_, fun n a b => ?_⟩
  · by_cases q : n = bM ∧ 70 ≤ j ∧ j ≤ 74
    · obtain ⟨rfl, q1, q2⟩ := q
      obtain ⟨a0, a1, a2, a3, a4⟩ := hz
      obtain ⟨b0, b1, b2, b3, b4⟩ := hf
      have : j = 70 ∨ j = 71 ∨ j = 72 ∨ j = 73 ∨ j = 74 := by omega
      rcases this with rfl | rfl | rfl | rfl | rfl
      · rw [a0, b0]
      · rw [a1, b1]
      · rw [a2, b2]
      · rw [a3, b3]
      · rw [a4, b4]
    · rw [h1 n j q]; exact h.1 n j hs q
  · by_cases e : n = bM
    · subst e
      funext j
      by_cases e2 : j = 69
      · subst e2; exact h4
      · rw [h3 j e2]; exact h.2.2 j e2
    · rw [h2 n e]; exact h.2.1 n a b e
theorem rTM_G {y : aS} (hF : mG x y) (h : rTM T x) : rTM T y := by
  have e : ∀ n j, n ≤ bM + 56 → ¬ (n = bM ∧ (j = 2 ∨ 58 ≤ j)) → y.1 n j = x.1 n j := fun n j hn hj => hF.1 n j (by unfold mScr mIn; omega) (by omega)
  obtain ⟨a1, a2, a3, a4, a5, a6, a7, a8, b1, b2, b3, b4, b5⟩ := h
  refine ⟨?_, ?_, ?_, ?_, ?_, ?_, ?_, ?_, fun h hh => ?_, fun m hm => ?_, fun k hk => ?_, fun k hk => ?_, fun k hk => ?_⟩
  · rw [e _ _ (by omega) (by omega)]; exact a1
  · rw [e _ _ (by omega) (by omega)]; exact a2
  · rw [e _ _ (by omega) (by omega)]; exact a3
  · rw [e _ _ (by omega) (by omega)]; exact a4
  · rw [e _ _ (by omega) (by omega)]; exact a5
  · rw [e _ _ (by omega) (by omega)]; exact a6
  · rw [e _ _ (by omega) (by omega)]; exact a7
  · rw [e _ _ (by omega) (by omega)]; exact a8
  · rw [e _ _ (by omega) (by omega), e _ _ (by omega) (by omega)]; exact b1 h hh
  · rw [e _ _ (by omega) (by omega), e _ _ (by omega) (by omega), e _ _ (by omega) (by omega), e _ _ (by omega) (by omega), e _ _ (by omega) (by omega)]; exact b2 m hm
  · rw [e _ _ (by omega) (by omega), e _ _ (by omega) (by omega), e _ _ (by omega) (by omega), e _ _ (by omega) (by omega), e _ _ (by omega) (by omega)]; exact b3 k hk
  · rw [e _ _ (by omega) (by omega), e _ _ (by omega) (by omega), e _ _ (by omega) (by omega)]; exact b4 k hk
  · rw [e _ _ (by omega) (by omega)]; exact b5 k hk
theorem mR_G {y : aS} (hF : mG x y) (h : mR T W Z x) : mR T W Z y := by
  obtain ⟨a1, a2, a3, a4, a5⟩ := h
  refine ⟨a1, a2, rTM_G hF a3, rWM_same (fun n h1 h2 => ?_) a4, rM_same a1 a2 (fun n k hk => hF.1 n k (by unfold mScr; unfold mIn at *; omega) (by unfold mIn at hk; omega)) a5⟩
  funext j
  exact hF.1 n j (by unfold mScr mIn; omega) (by omega)
set_option maxHeartbeats 4000000 in
set_option maxRecDepth 100000 in
theorem c_X12_tried {w i n : Int32} (hM : D 12 = true) (h : mQ T W Z x) : aCt l mX12_tried (d + 8) D [.ref bM, .int w, .int i, .int n] x (fun v y => v = some (.int (qTried T W Z w i n)) ∧ mF x y) := by
  have hF0 : mF x (aWr x bM 2 0) := mF_0
  have hq := mQ_0 h
  have hy2 : (aWr x bM 2 0).2 = x.2 := rfl
  refine a_met (by decide) (Nat.le_of_ble_eq_true rfl) (fun v y q => Or.inl ⟨rfl, _, q.1⟩) ?_
  refine a_aload_n (i := 0) dX12_tried_0 rfl rfl ?_
  refine a_iconst (v := 0) dX12_tried_1 (by decide) ?_
  refine pX12_175 rfl dX12_tried_2 (isM_0 hM) ?_
  refine a_loc [(0, .ref bM), (1, .int w), (2, .int i), (3, .int n)] rfl ?_
  generalize aWr x bM 2 0 = y at *
  have hqq := hq
  obtain ⟨⟨ok, hZ, hT, hW, hS⟩, hB, hN, hf⟩ := hq
  have h6 := ok.1
  have hfx : rFl 5 x := h.2.2.2
  unfold qTried
  by_cases q : zTr T w i n
  · rw [if_pos q]
    obtain ⟨q1, q2, q3, q4⟩ := q
    obtain ⟨k, hk, rfl⟩ := zIn_of (by decide) q1
    obtain ⟨N, hN2, rfl⟩ := zIn_of (by decide) q2
    rw [nI_clamp (by omega), nI_clamp (by omega)]
    generalize hQ : (fun (v : Option Value) (y : aS) => v = some (.int (zCorns T (zYears T W k N (zTr0 T Z (nI k) i)) - zCorns T Z)) ∧ mF x y) = Q
    have nk : ∀ c, c < 5 → (nI k = nI c ↔ k = c) := fun c hc => nI_eq (by omega) (by omega)
    have P117 : ∀ z, mY T W k 1 (zTr0 T Z (nI k) i) z → mR T W Z z → mG x z → z.2 = x.2 → aV l mX12_tried (d + 8) D none 117 [(0, .ref bM), (1, .int (nI k)), (2, .int i), (3, .int (nI N))] [] z Q := by
      intro z hY hR hG h2
      have P126 : ∀ u, rM T (zYears T W k N (zTr0 T Z (nI k) i)) u 1 → mR T W Z u → mF x u → aV l mX12_tried (d + 8) D none 126 [(0, .ref bM)] [] u Q := by
        intro u hS1 hR1 hF1
        refine a_aload_n (i := 0) dX12_tried_126 rfl rfl ?_
        refine a_iconst (v := 1) dX12_tried_127 (by decide) ?_
        refine kX12_516 rfl dX12_tried_128 (Nat.le_of_ble_eq_true rfl) (isM_0 hM) (mz_cornsAll (i := 1) hM (by decide) ok hR1.2.2.1 hS1) ?_
        refine a_aload_n (i := 0) dX12_tried_131 rfl rfl ?_
        refine a_iconst (v := 0) dX12_tried_132 (by decide) ?_
        refine kX12_516 rfl dX12_tried_133 (Nat.le_of_ble_eq_true rfl) (isM_0 hM) (mz_cornsAll (i := 0) hM (by decide) ok hR1.2.2.1 hR1.2.2.2.2) ?_
        refine a_isub dX12_tried_136 ?_
        exact a_iret dX12_tried_137 (by rw [← hQ]; exact ⟨rfl, hF1⟩)
      refine a_aload_n (i := 0) dX12_tried_117 rfl rfl ?_
      refine a_iload_n (i := 3) dX12_tried_118 rfl rfl ?_
      refine kgX12_513 rfl dX12_tried_119 (Nat.le_of_ble_eq_true rfl) (isM_0 hM) (c_X12_goMany hM hY (show N < 1000 by omega)) ?_
      rintro v u ⟨rfl, hJ⟩
      have hG2 := mG_t hG (mG_i hJ.2.2.2.1)
      have hF3 : mF x (mFl0 u) := mF_G hfx hG2 (fun n j g => mFl0_fr g) (mFl0_f (Or.inl rfl)) (fun _ _ => rfl) (fun _ _ => rfl) (((hJ.2.2.2.2.2 (by omega))).trans (by rw [h2]))
      refine a_aload_n (i := 0) dX12_tried_122 rfl rfl ?_
      refine kX12_395 rfl dX12_tried_123 (Nat.le_of_ble_eq_true rfl) (isM_0 hM) (c_X12_plainTried hM) ?_
      exact a_loc _ rfl (P126 _ (rM_same ok hJ.1 (fun n j hj => by rw [mFl0_n (by unfold mIn at hj; omega)]) hJ.2.1) (mR_F hF3 h.1) hF3)
    have tr : ∀ {z : aS} {j : Nat} {v : Int32}, 70 ≤ j ∧ j ≤ 74 → mR T W Z z → mR T W Z (aWr z bM j v) := fun hj hR => mR_w (by omega) hR
    -- the state of the trial, by way of the rows that are written
    have P114 : ∀ z u, u = bI (decide (k = 4)) → zOk T (zTr0 T Z (nI k) i) → rM T (zTr0 T Z (nI k) i) z 1 → mR T W Z z → mG x z → z.2 = x.2 → z.1 bM 70 = bI (decide (k = 6)) → z.1 bM 71 = bI (decide (k = 0)) → z.1 bM 72 = bI (decide (k = 1)) → z.1 bM 73 = bI (decide (k = 3)) → aV l mX12_tried (d + 8) D none 114 [(0, .ref bM), (1, .int (nI k)), (2, .int i), (3, .int (nI N))] [.int u, .ref bM] z Q := by
      intro z u hu hZ0 hS1 hR hG h2 g0 g1 g2 g3
      have hR' := tr (j := 74) (v := u) (by decide) hR
      have hfl : rFl k (aWr z bM 74 u) := ⟨by rw [aWr_j _ _ _ (by decide)]; exact g0, by rw [aWr_j _ _ _ (by decide)]; exact g1, by rw [aWr_j _ _ _ (by decide)]; exact g2, by rw [aWr_j _ _ _ (by decide)]; exact g3, by rw [aWr_s]; exact hu⟩
      have hS2 : rM T (zTr0 T Z (nI k) i) (aWr z bM 74 u) 1 := rM_same ok hZ0 (fun n j hj => by rw [aWr_n _ _ _ (by unfold mIn at hj; omega)]) hS1
      have h4 : ∀ m, (zTr0 T Z (nI k) i).1 4 m = Z.1 4 m := by
        intro m
        unfold zTr0
        split
        · simp [zSet]
        · rfl
      have hY : mY T W k 1 (zTr0 T Z (nI k) i) (aWr z bM 74 u) := ⟨ok, hR'.2.2.1, hR'.2.2.2.1, hfl, hZ0, hS2, fun m hm => by rw [h4]; exact hB.2 m hm, aFi_r, fun g => absurd g (by omega), fun _ => rfl⟩
      refine pX12_423 rfl dX12_tried_114 (by exact isM_0 hM) (by rw [hu]; exact bI_01 _) ?_
      exact a_loc _ rfl (P117 _ hY hR' (mG_t hG (mG_w (by decide))) h2)
    have P100 : ∀ z u, u = bI (decide (k = 3)) → zOk T (zTr0 T Z (nI k) i) → rM T (zTr0 T Z (nI k) i) z 1 → mR T W Z z → mG x z → z.2 = x.2 → z.1 bM 70 = bI (decide (k = 6)) → z.1 bM 71 = bI (decide (k = 0)) → z.1 bM 72 = bI (decide (k = 1)) → aV l mX12_tried (d + 8) D none 100 [(0, .ref bM), (1, .int (nI k)), (2, .int i), (3, .int (nI N))] [.int u, .ref bM] z Q := by
      intro z u hu hZ0 hS1 hR hG h2 g0 g1 g2
      have p := fun u4 e4 => P114 (aWr z bM 73 u) u4 e4 hZ0 (rM_same ok hZ0 (fun n j hj => by rw [aWr_n _ _ _ (by unfold mIn at hj; omega)]) hS1) (tr (by decide) hR) (mG_t hG (mG_w (by decide))) h2 (by rw [aWr_j _ _ _ (by decide)]; exact g0) (by rw [aWr_j _ _ _ (by decide)]; exact g1) (by rw [aWr_j _ _ _ (by decide)]; exact g2) (by rw [aWr_s]; exact hu)
      refine pX12_420 rfl dX12_tried_100 (by exact isM_0 hM) (by rw [hu]; exact bI_01 _) ?_
      refine a_aload_n (i := 0) dX12_tried_103 rfl rfl ?_
      refine a_iload_n (i := 1) dX12_tried_104 rfl rfl ?_
      refine a_iconst (v := 4) dX12_tried_105 (by decide) ?_
      refine a_icmp_ne (tg := 113) dX12_tried_106 (by decide) (fun c_106 => ?_) (fun c_106 => ?_)
      · have e4 := (bI_f (fun g => c_106 ((nk 4 (by decide)).mpr g))).symm
        refine a_iconst (v := 0) dX12_tried_113 (by decide) ?_
        exact a_loc _ rfl (p _ e4)
      · have e4 := (bI_t ((nk 4 (by decide)).mp c_106)).symm
        refine a_iconst (v := 1) dX12_tried_109 (by decide) ?_
        refine a_goto (tg := 114) dX12_tried_110 (by decide) ?_
        exact a_loc _ rfl (p _ e4)
    have P75 : ∀ z u, u = bI (decide (k = 1)) → rM T Z z 1 → mR T W Z z → mG x z → z.2 = x.2 → z.1 bM 70 = bI (decide (k = 6)) → z.1 bM 71 = bI (decide (k = 0)) → aV l mX12_tried (d + 8) D none 75 [(0, .ref bM), (1, .int (nI k)), (2, .int i), (3, .int (nI N))] [.int u, .ref bM] z Q := by
      intro z u hu hS1 hR hG h2 g0 g1
      have hS2 : rM T Z (aWr z bM 72 u) 1 := rM_same ok hZ (fun n j hj => by rw [aWr_n _ _ _ (by unfold mIn at hj; omega)]) hS1
      have hR2 := tr (j := 72) (v := u) (by decide) hR
      have hG2 := mG_t hG (mG_w (x := z) (j := 72) (v := u) (by decide))
      by_cases w2 : nI k = 2
      · obtain ⟨m, hm, rfl⟩ := zIn_of (by omega) (q3 w2)
        have ez : zTr0 T Z (nI k) (nI m) = zSet Z m (fun _ => T.2.1 1 m) := by rw [zTr0, if_pos w2, nI_clamp (by omega)]
        have fb := aFj_bare (i := 1) (x := aWr z bM 72 u) (show m < 6 by omega)
        have eb : ∀ j, j ≠ 58 → (mBare (aWr z bM 72 u) 1 m).1 bM j = (aWr z bM 72 u).1 bM j := fun j hj => fb.1.1 bM j (by unfold mIn; omega) (by omega)
        have eb2 : (mBare (aWr z bM 72 u) 1 m).2 = z.2 := by unfold mBare; exact lp_keep2 (fun _ _ => rfl) 8 0 _
        have p := fun u4 e4 => P100 (mBare (aWr z bM 72 u) 1 m) u4 e4 (by rw [ez]; exact zOk_set hZ) (by rw [ez]; exact rM_bare hR2.2.2.1 hS2 hm) (mR_F (mF_i fb.1 fb.2) hR2) (mG_t hG2 (mG_i fb.1)) (eb2.trans h2) (by rw [eb _ (by decide), aWr_j _ _ _ (by decide)]; exact g0) (by rw [eb _ (by decide), aWr_j _ _ _ (by decide)]; exact g1) (by rw [eb _ (by decide), aWr_s]; exact hu)
        refine pX12_417 rfl dX12_tried_75 (by exact isM_0 hM) (by rw [hu]; exact bI_01 _) ?_
        refine a_iload_n (i := 1) dX12_tried_78 rfl rfl ?_
        refine a_iconst (v := 2) dX12_tried_79 (by decide) ?_
        refine a_icmp_ne (tg := 89) dX12_tried_80 (by decide) (fun c_80 => ?_) (fun c_80 => ?_)
        · exact absurd w2 c_80
        · refine a_aload_n (i := 0) dX12_tried_83 rfl rfl ?_
          refine a_iconst (v := 1) dX12_tried_84 (by decide) ?_
          refine a_iload_n (i := 2) dX12_tried_85 rfl rfl ?_
          refine kX12_407 rfl dX12_tried_86 (Nat.le_of_ble_eq_true rfl) (isM_0 hM) (c_X12_bares (i := 1) hM (by decide) (show m < 6 by omega)) ?_
          refine a_aload_n (i := 0) dX12_tried_89 rfl rfl ?_
          refine a_iload_n (i := 1) dX12_tried_90 rfl rfl ?_
          refine a_iconst (v := 3) dX12_tried_91 (by decide) ?_
          refine a_icmp_ne (tg := 99) dX12_tried_92 (by decide) (fun c_92 => ?_) (fun c_92 => ?_)
          · have e4 := (bI_f (fun g => c_92 ((nk 3 (by decide)).mpr g))).symm
            refine a_iconst (v := 0) dX12_tried_99 (by decide) ?_
            exact a_loc _ rfl (p _ e4)
          · have e4 := (bI_t ((nk 3 (by decide)).mp c_92)).symm
            refine a_iconst (v := 1) dX12_tried_95 (by decide) ?_
            refine a_goto (tg := 100) dX12_tried_96 (by decide) ?_
            exact a_loc _ rfl (p _ e4)
      · have ez : zTr0 T Z (nI k) i = Z := by rw [zTr0, if_neg w2]
        have p := fun u4 e4 => P100 (aWr z bM 72 u) u4 e4 (by rw [ez]; exact hZ) (by rw [ez]; exact hS2) hR2 hG2 h2 (by rw [aWr_j _ _ _ (by decide)]; exact g0) (by rw [aWr_j _ _ _ (by decide)]; exact g1) (by rw [aWr_s]; exact hu)
        refine pX12_417 rfl dX12_tried_75 (by exact isM_0 hM) (by rw [hu]; exact bI_01 _) ?_
        refine a_iload_n (i := 1) dX12_tried_78 rfl rfl ?_
        refine a_iconst (v := 2) dX12_tried_79 (by decide) ?_
        refine a_icmp_ne (tg := 89) dX12_tried_80 (by decide) (fun c_80 => ?_) (fun c_80 => ?_)
        · refine a_aload_n (i := 0) dX12_tried_89 rfl rfl ?_
          refine a_iload_n (i := 1) dX12_tried_90 rfl rfl ?_
          refine a_iconst (v := 3) dX12_tried_91 (by decide) ?_
          refine a_icmp_ne (tg := 99) dX12_tried_92 (by decide) (fun c_92 => ?_) (fun c_92 => ?_)
          · have e4 := (bI_f (fun g => c_92 ((nk 3 (by decide)).mpr g))).symm
            refine a_iconst (v := 0) dX12_tried_99 (by decide) ?_
            exact a_loc _ rfl (p _ e4)
          · have e4 := (bI_t ((nk 3 (by decide)).mp c_92)).symm
            refine a_iconst (v := 1) dX12_tried_95 (by decide) ?_
            refine a_goto (tg := 100) dX12_tried_96 (by decide) ?_
            exact a_loc _ rfl (p _ e4)
        · exact absurd c_80 w2
    have P61 : ∀ z u, u = bI (decide (k = 0)) → rM T Z z 1 → mR T W Z z → mG x z → z.2 = x.2 → z.1 bM 70 = bI (decide (k = 6)) → aV l mX12_tried (d + 8) D none 61 [(0, .ref bM), (1, .int (nI k)), (2, .int i), (3, .int (nI N))] [.int u, .ref bM] z Q := by
      intro z u hu hS1 hR hG h2 g0
      have p := fun u4 e4 => P75 (aWr z bM 71 u) u4 e4 (rM_same ok hZ (fun n j hj => by rw [aWr_n _ _ _ (by unfold mIn at hj; omega)]) hS1) (tr (by decide) hR) (mG_t hG (mG_w (by decide))) h2 (by rw [aWr_j _ _ _ (by decide)]; exact g0) (by rw [aWr_s]; exact hu)
      refine pX12_414 rfl dX12_tried_61 (by exact isM_0 hM) (by rw [hu]; exact bI_01 _) ?_
      refine a_aload_n (i := 0) dX12_tried_64 rfl rfl ?_
      refine a_iload_n (i := 1) dX12_tried_65 rfl rfl ?_
      refine a_iconst (v := 1) dX12_tried_66 (by decide) ?_
      refine a_icmp_ne (tg := 74) dX12_tried_67 (by decide) (fun c_67 => ?_) (fun c_67 => ?_)
      · have e4 := (bI_f (fun g => c_67 ((nk 1 (by decide)).mpr g))).symm
        refine a_iconst (v := 0) dX12_tried_74 (by decide) ?_
        exact a_loc _ rfl (p _ e4)
      · have e4 := (bI_t ((nk 1 (by decide)).mp c_67)).symm
        refine a_iconst (v := 1) dX12_tried_70 (by decide) ?_
        refine a_goto (tg := 75) dX12_tried_71 (by decide) ?_
        exact a_loc _ rfl (p _ e4)
    have P47 : aV l mX12_tried (d + 8) D none 47 [(0, .ref bM), (1, .int (nI k)), (2, .int i), (3, .int (nI N))] [] y Q := by
      refine a_aload_n (i := 0) dX12_tried_47 rfl rfl ?_
      refine kgX12_510 rfl dX12_tried_48 (Nat.le_of_ble_eq_true rfl) (isM_0 hM) (c_X12_layTried hM) ?_
      rintro v y1 ⟨rfl, w1, hw1, rfl⟩
      obtain ⟨hY, hF1, hs1⟩ := mz_tr hqq hw1
      have p := fun u4 e4 => P61 (mFl0 w1) u4 e4 hY.2.2.2.2.2.1 (mR_F hF1 hqq.1) (mG_F (mF_t hF0 hF1)) (by rw [hs1]; exact hy2) (by rw [hY.2.2.2.1.1, bI_f (by omega), bI_f (by omega)])
      refine a_aload_n (i := 0) dX12_tried_51 rfl rfl ?_
      refine a_iload_n (i := 1) dX12_tried_52 rfl rfl ?_
      refine a_if_ne (tg := 60) dX12_tried_53 (by decide) (fun c_53 => ?_) (fun c_53 => ?_)
      · have e4 := (bI_f (fun g => c_53 ((nk 0 (by decide)).mpr g))).symm
        refine a_iconst (v := 0) dX12_tried_60 (by decide) ?_
        exact a_loc _ rfl (p _ e4)
      · have e4 := (bI_t ((nk 0 (by decide)).mp c_53)).symm
        refine a_iconst (v := 1) dX12_tried_56 (by decide) ?_
        refine a_goto (tg := 61) dX12_tried_57 (by decide) ?_
        exact a_loc _ rfl (p _ e4)
    refine a_iload_n (i := 1) dX12_tried_5 rfl rfl ?_
    refine a_iconst (v := 0) dX12_tried_6 (by decide) ?_
    refine a_iconst (v := 4) dX12_tried_7 (by decide) ?_
    refine kX12_220 rfl dX12_tried_8 (Nat.le_of_ble_eq_true rfl) (c_X12_isIn) ?_
    refine a_if_eq (tg := 45) dX12_tried_11 (by decide) (fun c_11 => ?_) (fun c_11 => ?_)
    · exact absurd c_11 (bI_p.mpr (zIn5.mpr q1))
    · refine a_iload_n (i := 3) dX12_tried_14 rfl rfl ?_
      refine a_iconst (v := 0) dX12_tried_15 (by decide) ?_
      refine a_sipush (v := 200) dX12_tried_16 (by decide) ?_
      refine kX12_220 rfl dX12_tried_19 (Nat.le_of_ble_eq_true rfl) (c_X12_isIn) ?_
      refine a_if_eq (tg := 45) dX12_tried_22 (by decide) (fun c_22 => ?_) (fun c_22 => ?_)
      · exact absurd c_22 (bI_p.mpr (zIn201.mpr q2))
      · refine a_iload_n (i := 1) dX12_tried_25 rfl rfl ?_
        refine a_iconst (v := 2) dX12_tried_26 (by decide) ?_
        refine a_icmp_ne (tg := 41) dX12_tried_27 (by decide) (fun c_27 => ?_) (fun c_27 => ?_)
        · refine a_iload_n (i := 2) dX12_tried_41 rfl rfl ?_
          refine a_if_eq (tg := 47) dX12_tried_42 (by decide) (fun c_42 => ?_) (fun c_42 => ?_)
          · exact a_loc _ rfl P47
          · exact absurd (q4 c_27) c_42
        · refine a_aload_n (i := 0) dX12_tried_30 rfl rfl ?_
          refine a_iload_n (i := 2) dX12_tried_31 rfl rfl ?_
          refine kX12_498 rfl dX12_tried_32 (Nat.le_of_ble_eq_true rfl) (isM_0 hM) (c_X12_isHouse hM hT) ?_
          refine a_if_ne (tg := 47) dX12_tried_35 (by decide) (fun c_35 => ?_) (fun c_35 => ?_)
          · exact a_loc _ rfl P47
          · exact absurd c_35 (bI_p.mpr (q3 c_27))
  · rw [if_neg q]
    refine a_iload_n (i := 1) dX12_tried_5 rfl rfl ?_
    refine a_iconst (v := 0) dX12_tried_6 (by decide) ?_
    refine a_iconst (v := 4) dX12_tried_7 (by decide) ?_
    refine kX12_220 rfl dX12_tried_8 (Nat.le_of_ble_eq_true rfl) (c_X12_isIn) ?_
    refine a_if_eq (tg := 45) dX12_tried_11 (by decide) (fun c_11 => ?_) (fun c_11 => ?_)
    · refine a_iconst (v := (-1)) dX12_tried_45 (by decide) ?_
      exact a_iret dX12_tried_46 (by exact ⟨rfl, hF0⟩)
    · refine a_iload_n (i := 3) dX12_tried_14 rfl rfl ?_
      refine a_iconst (v := 0) dX12_tried_15 (by decide) ?_
      refine a_sipush (v := 200) dX12_tried_16 (by decide) ?_
      refine kX12_220 rfl dX12_tried_19 (Nat.le_of_ble_eq_true rfl) (c_X12_isIn) ?_
      refine a_if_eq (tg := 45) dX12_tried_22 (by decide) (fun c_22 => ?_) (fun c_22 => ?_)
      · refine a_iconst (v := (-1)) dX12_tried_45 (by decide) ?_
        exact a_iret dX12_tried_46 (by exact ⟨rfl, hF0⟩)
      · refine a_iload_n (i := 1) dX12_tried_25 rfl rfl ?_
        refine a_iconst (v := 2) dX12_tried_26 (by decide) ?_
        refine a_icmp_ne (tg := 41) dX12_tried_27 (by decide) (fun c_27 => ?_) (fun c_27 => ?_)
        · refine a_iload_n (i := 2) dX12_tried_41 rfl rfl ?_
          refine a_if_eq (tg := 47) dX12_tried_42 (by decide) (fun c_42 => ?_) (fun c_42 => ?_)
          · exact absurd ⟨zIn5.mp (bI_p.mp c_11), zIn201.mp (bI_p.mp c_22), fun g => by first | exact bI_p.mp c_35 | exact absurd g c_27, fun g => by first | exact c_42 | exact absurd c_27 g⟩ q
          · refine a_iconst (v := (-1)) dX12_tried_45 (by decide) ?_
            exact a_iret dX12_tried_46 (by exact ⟨rfl, hF0⟩)
        · refine a_aload_n (i := 0) dX12_tried_30 rfl rfl ?_
          refine a_iload_n (i := 2) dX12_tried_31 rfl rfl ?_
          refine kX12_498 rfl dX12_tried_32 (Nat.le_of_ble_eq_true rfl) (isM_0 hM) (c_X12_isHouse hM hT) ?_
          refine a_if_ne (tg := 47) dX12_tried_35 (by decide) (fun c_35 => ?_) (fun c_35 => ?_)
          · exact absurd ⟨zIn5.mp (bI_p.mp c_11), zIn201.mp (bI_p.mp c_22), fun g => by first | exact bI_p.mp c_35 | exact absurd g c_27, fun g => by first | exact c_42 | exact absurd c_27 g⟩ q
          · refine a_goto (tg := 45) dX12_tried_38 (by decide) ?_
            refine a_iconst (v := (-1)) dX12_tried_45 (by decide) ?_
            exact a_iret dX12_tried_46 (by exact ⟨rfl, hF0⟩)
end qG
