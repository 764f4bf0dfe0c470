/-! public methods that only read, both sides -/
def zFind (f : Nat → Int32) (a : Int32) : Nat → Nat → Int32
  | _, 0 => -1
  | i, n + 1 => if f i = a then nI i else zFind f a (i + 1) n
theorem zFind_congr {f g : Nat → Int32} {a : Int32} : ∀ (n i : Nat), (∀ j, i ≤ j → j < i + n → f j = g j) → zFind f a i n = zFind g a i n := by
  intro n
  induction n with
  | zero => intro i _; rfl
  | succ n ih => intro i h; show (if f i = a then nI i else _) = (if g i = a then nI i else _); rw [h i (Nat.le_refl _) (by omega), ih (i + 1) (fun j h1 h2 => h j (by omega) (by omega))]
def zArg (R : Nat → Nat → Bool) (i n b : Nat) : Nat := lp (fun h b => if R h b then h else b) i n b
section qReads
variable {l : Launch} {d : Nat} {D : Nat → Bool} {T : zT} {W : Nat → zL} {Z : zS} {t : Nat} {x : aS}
set_option maxHeartbeats 4000000 in
set_option maxRecDepth 100000 in
theorem c_X11_find {n N len : Nat} {a : Int32} (hn : aIs D n 14 len) (hN : N ≤ len) (hl : len < 2147483648) : aDI l mX11_find d D [.ref n, .int (nI N), .int a] x (zFind (x.1 n) a 0 N) x := by
  have L : ∀ (k i : Nat), i + k = N → aV l mX11_find d D none 2 [(0, .ref n), (1, .int (nI N)), (2, .int a), (3, .int (nI i))] [] x (fun v y => v = some (.int (zFind (x.1 n) a i k)) ∧ y = x) := by
    intro k
    induction k with
    | zero =>
      intro i hi
      rw [Nat.add_zero] at hi
      subst hi
      refine a_iload_n (i := 3) dX11_find_2 rfl rfl ?_
      refine a_iload_n (i := 1) dX11_find_3 rfl rfl ?_
      refine a_icmp_ge (tg := 22) dX11_find_4 (by decide) (fun c_4 => ?_) (fun c_4 => ?_)
      · refine a_iconst (v := (-1)) dX11_find_22 (by decide) ?_
        exact a_iret dX11_find_23 (by exact ⟨rfl, rfl⟩)
      · exact absurd (Int32.le_refl _) c_4
    | succ k ih =>
      intro i hi
      show aV l mX11_find d D none 2 _ [] x (fun v y => v = some (.int (if x.1 n i = a then nI i else zFind (x.1 n) a (i + 1) k)) ∧ y = x)
      refine a_iload_n (i := 3) dX11_find_2 rfl rfl ?_
      refine a_iload_n (i := 1) dX11_find_3 rfl rfl ?_
      refine a_icmp_ge (tg := 22) dX11_find_4 (by decide) (fun c_4 => ?_) (fun c_4 => ?_)
      · exact absurd c_4 (nI_ge (show i < N by omega) (by omega))
      · refine a_aload_n (i := 0) dX11_find_7 rfl rfl ?_
        refine a_iload_n (i := 3) dX11_find_8 rfl rfl ?_
        refine a_ialdN dX11_find_9 (by exact hn) (by first | with_reducible exact rfl | with_reducible exact ix8 _ _ | with_reducible exact ix12 _ _ | exact rfl) (by omega) (by exact hl) ?_
        refine a_iload_n (i := 2) dX11_find_10 rfl rfl ?_
        refine a_icmp_ne (tg := 16) dX11_find_11 (by decide) (fun c_11 => ?_) (fun c_11 => ?_)
        · rw [if_neg c_11]
          refine a_iincK (i := 3) (u := 1) dX11_find_16 rfl (by decide) (by decide) ?_
          refine a_goto (tg := 2) dX11_find_19 (by decide) ?_
          rw [nI_1]; exact a_loc _ rfl (ih (i + 1) (by omega))
        · rw [if_pos c_11]
          refine a_iload_n (i := 3) dX11_find_14 rfl rfl ?_
          exact a_iret dX11_find_15 (by exact ⟨rfl, rfl⟩)
  refine a_metI (by decide) (Nat.le_of_ble_eq_true rfl) rfl ?_
  refine a_iconst (v := 0) dX11_find_0 (by decide) ?_
  refine a_istore_n (i := 3) dX11_find_1 rfl (by decide) ?_
  exact a_loc _ rfl (L N 0 (Nat.zero_add _))
set_option maxHeartbeats 4000000 in
set_option maxRecDepth 100000 in
theorem c_X12_find {n N len c : Nat} {a : Int32} (hn : aIs D n 14 len) (hN : c + N ≤ len) (hl : len < 2147483648) : aDI l mX12_find d D [.ref n, .int (nI c), .int (nI N), .int a] x (zFind (fun k => x.1 n (c + k)) a 0 N) x := by
  have L : ∀ (k i : Nat), i + k = N → aV l mX12_find d D none 3 [(0, .ref n), (1, .int (nI c)), (2, .int (nI N)), (3, .int a), (4, .int (nI i))] [] x (fun v y => v = some (.int (zFind (fun k => x.1 n (c + k)) a i k)) ∧ y = x) := by
    intro k
    induction k with
    | zero =>
      intro i hi
      rw [Nat.add_zero] at hi
      subst hi
      refine a_iload (i := 4) dX12_find_3 rfl ?_
      refine a_iload_n (i := 2) dX12_find_5 rfl rfl ?_
      refine a_icmp_ge (tg := 28) dX12_find_6 (by decide) (fun c_6 => ?_) (fun c_6 => ?_)
      · refine a_iconst (v := (-1)) dX12_find_28 (by decide) ?_
        exact a_iret dX12_find_29 (by exact ⟨rfl, rfl⟩)
      · exact absurd (Int32.le_refl _) c_6
    | succ k ih =>
      intro i hi
      show aV l mX12_find d D none 3 _ [] x (fun v y => v = some (.int (if x.1 n (c + i) = a then nI i else zFind (fun k => x.1 n (c + k)) a (i + 1) k)) ∧ y = x)
      refine a_iload (i := 4) dX12_find_3 rfl ?_
      refine a_iload_n (i := 2) dX12_find_5 rfl rfl ?_
      refine a_icmp_ge (tg := 28) dX12_find_6 (by decide) (fun c_6 => ?_) (fun c_6 => ?_)
      · exact absurd c_6 (nI_ge (show i < N by omega) (by omega))
      · refine a_aload_n (i := 0) dX12_find_9 rfl rfl ?_
        refine a_iload_n (i := 1) dX12_find_10 rfl rfl ?_
        refine a_iload (i := 4) dX12_find_11 rfl ?_
        refine a_iadd dX12_find_13 ?_
        refine a_ialdN dX12_find_14 (by exact hn) (by first | exact nI_add _ _ | with_reducible exact rfl | with_reducible exact ix8 _ _ | with_reducible exact ix12 _ _ | exact rfl) (by omega) (by exact hl) ?_
        refine a_iload_n (i := 3) dX12_find_15 rfl rfl ?_
        refine a_icmp_ne (tg := 22) dX12_find_16 (by decide) (fun c_16 => ?_) (fun c_16 => ?_)
        · rw [if_neg c_16]
          refine a_iincK (i := 4) (u := 1) dX12_find_22 rfl (by decide) (by decide) ?_
          refine a_goto (tg := 3) dX12_find_25 (by decide) ?_
          rw [nI_1]; exact a_loc _ rfl (ih (i + 1) (by omega))
        · rw [if_pos c_16]
          refine a_iload (i := 4) dX12_find_19 rfl ?_
          exact a_iret dX12_find_21 (by exact ⟨rfl, rfl⟩)
  refine a_metI (by decide) (Nat.le_of_ble_eq_true rfl) rfl ?_
  refine a_iconst (v := 0) dX12_find_0 (by decide) ?_
  refine a_istore (i := 4) dX12_find_1 (by decide) ?_
  exact a_loc _ rfl (L N 0 (Nat.zero_add _))
def qNamed (T : zT) (a c : Int32) : Int32 := if a = 0 then zFind (T.2.1 0) c 0 (T.1 0) else if a = 1 then zFind (T.2.1 2) c 0 (T.1 1) else -1
set_option maxHeartbeats 4000000 in
set_option maxRecDepth 100000 in
theorem c_X11_named {a c : Int32} (hD : aDC D) (h : cR T W Z x t) : aDI l mX11_named (d + 1) D [.ref bLH, .int a, .int c] x (qNamed T a c) x := by
  obtain ⟨ht, hp, ok, hZ, hT, hW, hS⟩ := h
  have e0 : x.1 t 1 = nI (T.1 0) := hT.1
  have e1 : x.1 t 4 = nI (T.1 1) := hT.2.1
  have q0 : zFind (T.2.1 0) c 0 (T.1 0) = zFind (x.1 (t + 3)) c 0 (T.1 0) := zFind_congr _ _ (fun j _ hj => ((hT.2.2.2.2.2.2.2.2.2.1 j (by omega)).1).symm)
  have q1 : zFind (T.2.1 2) c 0 (T.1 1) = zFind (x.1 (t + 6)) c 0 (T.1 1) := zFind_congr _ _ (fun j _ hj => ((hT.2.2.2.2.2.2.2.2.2.2.1 j (by omega)).1).symm)
  unfold qNamed
  rw [q0, q1]
  refine a_metI (by decide) (Nat.le_of_ble_eq_true rfl) rfl ?_
  refine a_iload_n (i := 1) dX11_named_0 rfl rfl ?_
  refine sX11_named_1 dX11_named_1 (fun s_1 => ?_) (fun s_1 => ?_) (fun s_1_0 s_1_1 => ?_)
  · refine a_aload_n (i := 0) dX11_named_28 rfl rfl ?_
    refine gX11_23 rfl dX11_named_29 (isLH_0 hD) ?_
    rw [hp]
    refine gX11_108 rfl dX11_named_32 (isT_0 hD ht) ?_
    refine a_aload_n (i := 0) dX11_named_35 rfl rfl ?_
    refine gX11_23 rfl dX11_named_36 (isLH_0 hD) ?_
    rw [hp]
    refine gX11_112 rfl dX11_named_39 (isT_0 hD ht) ?_
    rw [e0]
    refine a_iload_n (i := 2) dX11_named_42 rfl rfl ?_
    refine kX11_115 rfl dX11_named_43 (Nat.le_of_ble_eq_true rfl) (c_X11_find (isT_3 hD ht) ok.1 (by decide)) ?_
    exact a_iret dX11_named_46 (by rw [if_pos s_1]; exact ⟨rfl, rfl⟩)
  · refine a_aload_n (i := 0) dX11_named_47 rfl rfl ?_
    refine gX11_23 rfl dX11_named_48 (isLH_0 hD) ?_
    rw [hp]
    refine gX11_119 rfl dX11_named_51 (isT_0 hD ht) ?_
    refine a_aload_n (i := 0) dX11_named_54 rfl rfl ?_
    refine gX11_23 rfl dX11_named_55 (isLH_0 hD) ?_
    rw [hp]
    refine gX11_122 rfl dX11_named_58 (isT_0 hD ht) ?_
    rw [e1]
    refine a_iload_n (i := 2) dX11_named_61 rfl rfl ?_
    refine kX11_115 rfl dX11_named_62 (Nat.le_of_ble_eq_true rfl) (c_X11_find (isT_6 hD ht) ok.2.1 (by decide)) ?_
    exact a_iret dX11_named_65 (by rw [if_neg (by rw [s_1]; decide), if_pos s_1]; exact ⟨rfl, rfl⟩)
  · refine a_iconst (v := (-1)) dX11_named_66 (by decide) ?_
    exact a_iret dX11_named_67 (by rw [if_neg s_1_0, if_neg s_1_1]; exact ⟨rfl, rfl⟩)
set_option maxHeartbeats 4000000 in
set_option maxRecDepth 100000 in
theorem c_X12_named {a c : Int32} (hM : D 12 = true) (h : mR T W Z x) : aDI l mX12_named (d + 1) D [.ref bM, .int a, .int c] x (qNamed T a c) (aWr x bM 2 0) := by
  obtain ⟨ok, hZ, hT, hW, hS⟩ := mR_0 h
  refine a_metI (by decide) (Nat.le_of_ble_eq_true rfl) rfl ?_
  refine a_aload_n (i := 0) dX12_named_0 rfl rfl ?_
  refine a_iconst (v := 0) dX12_named_1 (by decide) ?_
  refine pX12_175 rfl dX12_named_2 (isM_0 hM) ?_
  refine a_loc [(0, .ref bM), (1, .int a), (2, .int c)] rfl ?_
  generalize aWr x bM 2 0 = y at *
  have e0 : y.1 bM 12 = nI (T.1 0) := hT.1
  have e1 : y.1 bM 13 = nI (T.1 1) := hT.2.1
  have q0 : zFind (T.2.1 0) c 0 (T.1 0) = zFind (fun k => y.1 (bM + 27) (0 + k)) c 0 (T.1 0) := zFind_congr _ _ (fun j _ hj => by rw [Nat.zero_add]; exact ((hT.2.2.2.2.2.2.2.2.1 j (by omega)).1).symm)
  have q1 : zFind (T.2.1 2) c 0 (T.1 1) = zFind (fun k => y.1 (bM + 29) (0 + k)) c 0 (T.1 1) := zFind_congr _ _ (fun j _ hj => by rw [Nat.zero_add]; exact ((hT.2.2.2.2.2.2.2.2.2.1 j (by omega)).1).symm)
  unfold qNamed
  rw [q0, q1]
  have h6 := ok.1
  have h8 := ok.2.1
  refine a_iload_n (i := 1) dX12_named_5 rfl rfl ?_
  refine a_if_ne (tg := 25) dX12_named_6 (by decide) (fun c_6 => ?_) (fun c_6 => ?_)
  · rw [if_neg c_6]
    refine a_iload_n (i := 1) dX12_named_25 rfl rfl ?_
    refine a_iconst (v := 1) dX12_named_26 (by decide) ?_
    refine a_icmp_ne (tg := 46) dX12_named_27 (by decide) (fun c_27 => ?_) (fun c_27 => ?_)
    · rw [if_neg c_27]
      refine a_iconst (v := (-1)) dX12_named_46 (by decide) ?_
      exact a_iret dX12_named_47 (by exact ⟨rfl, rfl⟩)
    · rw [if_pos c_27]
      refine a_aload_n (i := 0) dX12_named_30 rfl rfl ?_
      refine gX12_33 rfl dX12_named_31 (isM_0 hM) ?_
      refine a_iconst (v := 0) dX12_named_34 (by decide) ?_
      refine a_aload_n (i := 0) dX12_named_35 rfl rfl ?_
      refine gX12_261 rfl dX12_named_36 (isM_0 hM) ?_
      rw [e1]
      refine a_iload_n (i := 2) dX12_named_39 rfl rfl ?_
      refine kX12_283 rfl dX12_named_40 (Nat.le_of_ble_eq_true rfl) (c_X12_find (c := 0) (isM_29 hM) (by omega) (by decide)) ?_
      refine a_goto (tg := 47) dX12_named_43 (by decide) ?_
      exact a_iret dX12_named_47 (by exact ⟨rfl, rfl⟩)
  · rw [if_pos c_6]
    refine a_aload_n (i := 0) dX12_named_9 rfl rfl ?_
    refine gX12_27 rfl dX12_named_10 (isM_0 hM) ?_
    refine a_iconst (v := 0) dX12_named_13 (by decide) ?_
    refine a_aload_n (i := 0) dX12_named_14 rfl rfl ?_
    refine gX12_258 rfl dX12_named_15 (isM_0 hM) ?_
    rw [e0]
    refine a_iload_n (i := 2) dX12_named_18 rfl rfl ?_
    refine kX12_283 rfl dX12_named_19 (Nat.le_of_ble_eq_true rfl) (c_X12_find (c := 0) (isM_27 hM) (by omega) (by decide)) ?_
    refine a_goto (tg := 47) dX12_named_22 (by decide) ?_
    exact a_iret dX12_named_47 (by exact ⟨rfl, rfl⟩)
def qLast (T : zT) (Z : zS) (a c : Int32) : Int32 := if zIn (T.1 0) a ∧ zIn 8 c then zLast Z a.toNatClampNeg c.toNatClampNeg else -2147483648
set_option maxHeartbeats 4000000 in
set_option maxRecDepth 100000 in
theorem c_X11_last {a c : Int32} (hD : aDC D) (h : cR T W Z x t) : aDI l mX11_last (d + 1) D [.ref bLH, .int a, .int c] x (qLast T Z a c) x := by
  obtain ⟨ht, hp, ok, hZ, hT, hW, hS⟩ := h
  have h6 := ok.1
  refine a_metI (by decide) (Nat.le_of_ble_eq_true rfl) rfl ?_
  by_cases q : zIn (T.1 0) a ∧ zIn 8 c
  · rw [qLast, if_pos q]
    obtain ⟨k, hk, rfl⟩ := zIn_of (by omega) q.1
    obtain ⟨z, hz, rfl⟩ := zIn_of (by decide) q.2
    rw [nI_clamp (by omega), nI_clamp (by omega)]
    refine a_aload_n (i := 0) dX11_last_0 rfl rfl ?_
    refine a_iload_n (i := 1) dX11_last_1 rfl rfl ?_
    refine kX11_162 rfl dX11_last_2 (Nat.le_of_ble_eq_true rfl) (isLH_0 hD) (c_X11_isHouse hD ht hp hT) ?_
    refine a_if_eq (tg := 15) dX11_last_5 (by decide) (fun c_5 => ?_) (fun c_5 => ?_)
    · exact absurd c_5 (bI_p.mpr q.1)
    · refine a_iload_n (i := 2) dX11_last_8 rfl rfl ?_
      refine kX11_165 rfl dX11_last_9 (Nat.le_of_ble_eq_true rfl) (c_X11_isZone) ?_
      refine a_if_ne (tg := 18) dX11_last_12 (by decide) (fun c_12 => ?_) (fun c_12 => ?_)
      · refine a_aload_n (i := 0) dX11_last_18 rfl rfl ?_
        refine gX11_30 rfl dX11_last_19 (isLH_0 hD) ?_
        refine a_iload_n (i := 1) dX11_last_22 rfl rfl ?_
        refine a_iload_n (i := 2) dX11_last_23 rfl rfl ?_
        refine kX11_169 rfl dX11_last_24 (Nat.le_of_ble_eq_true rfl) (isS_0 hD hbNow) (cz_lastAt hD hbNow ok hS hk hz) ?_
        exact a_iret dX11_last_27 (by exact ⟨rfl, rfl⟩)
      · exact absurd c_12 (bI_p.mpr q.2)
  · rw [qLast, if_neg q]
    refine a_aload_n (i := 0) dX11_last_0 rfl rfl ?_
    refine a_iload_n (i := 1) dX11_last_1 rfl rfl ?_
    refine kX11_162 rfl dX11_last_2 (Nat.le_of_ble_eq_true rfl) (isLH_0 hD) (c_X11_isHouse hD ht hp hT) ?_
    refine a_if_eq (tg := 15) dX11_last_5 (by decide) (fun c_5 => ?_) (fun c_5 => ?_)
    · refine a_ldc (v := (-2147483648)) dX11_last_15 (oX11_168 rfl) ?_
      exact a_iret dX11_last_17 (by exact ⟨rfl, rfl⟩)
    · refine a_iload_n (i := 2) dX11_last_8 rfl rfl ?_
      refine kX11_165 rfl dX11_last_9 (Nat.le_of_ble_eq_true rfl) (c_X11_isZone) ?_
      refine a_if_ne (tg := 18) dX11_last_12 (by decide) (fun c_12 => ?_) (fun c_12 => ?_)
      · exact absurd ⟨bI_p.mp c_5, bI_p.mp c_12⟩ q
      · refine a_ldc (v := (-2147483648)) dX11_last_15 (oX11_168 rfl) ?_
        exact a_iret dX11_last_17 (by exact ⟨rfl, rfl⟩)
theorem zIn8 {a : Int32} : (0 ≤ a ∧ a ≤ 7) ↔ zIn 8 a := zIn_le (n := 7) rfl (by decide)
set_option maxHeartbeats 4000000 in
set_option maxRecDepth 100000 in
theorem c_X12_last {a c : Int32} (hM : D 12 = true) (h : mR T W Z x) : aDI l mX12_last (d + 3) D [.ref bM, .int a, .int c] x (qLast T Z a c) (aWr x bM 2 0) := by
  obtain ⟨ok, hZ, hT, hW, hS⟩ := mR_0 h
  refine a_metI (by decide) (Nat.le_of_ble_eq_true rfl) rfl ?_
  refine a_aload_n (i := 0) dX12_last_0 rfl rfl ?_
  refine a_iconst (v := 0) dX12_last_1 (by decide) ?_
  refine pX12_175 rfl dX12_last_2 (isM_0 hM) ?_
  refine a_loc [(0, .ref bM), (1, .int a), (2, .int c)] rfl ?_
  generalize aWr x bM 2 0 = y at *
  have h6 := ok.1
  by_cases q : zIn (T.1 0) a ∧ zIn 8 c
  · rw [qLast, if_pos q]
    obtain ⟨k, hk, rfl⟩ := zIn_of (by omega) q.1
    obtain ⟨z, hz, rfl⟩ := zIn_of (by decide) q.2
    rw [nI_clamp (by omega), nI_clamp (by omega)]
    refine a_aload_n (i := 0) dX12_last_5 rfl rfl ?_
    refine a_iload_n (i := 1) dX12_last_6 rfl rfl ?_
    refine kX12_498 rfl dX12_last_7 (Nat.le_of_ble_eq_true rfl) (isM_0 hM) (c_X12_isHouse hM hT) ?_
    refine a_if_eq (tg := 33) dX12_last_10 (by decide) (fun c_10 => ?_) (fun c_10 => ?_)
    · exact absurd c_10 (bI_p.mpr q.1)
    · refine a_iload_n (i := 2) dX12_last_13 rfl rfl ?_
      refine a_iconst (v := 0) dX12_last_14 (by decide) ?_
      refine a_bipush (v := 7) dX12_last_15 (by decide) ?_
      refine kX12_220 rfl dX12_last_17 (Nat.le_of_ble_eq_true rfl) (c_X12_isIn) ?_
      refine a_if_eq (tg := 33) dX12_last_20 (by decide) (fun c_20 => ?_) (fun c_20 => ?_)
      · exact absurd c_20 (bI_p.mpr (zIn8.mpr q.2))
      · refine a_aload_n (i := 0) dX12_last_23 rfl rfl ?_
        refine a_iconst (v := 0) dX12_last_24 (by decide) ?_
        refine a_iload_n (i := 1) dX12_last_25 rfl rfl ?_
        refine a_iload_n (i := 2) dX12_last_26 rfl rfl ?_
        refine kX12_440 rfl dX12_last_27 (Nat.le_of_ble_eq_true rfl) (isM_0 hM) (mz_lastAt (i := 0) hM (by decide) ok hZ hS hk hz) ?_
        refine a_goto (tg := 36) dX12_last_30 (by decide) ?_
        exact a_iret dX12_last_36 (by exact ⟨rfl, rfl⟩)
  · rw [qLast, if_neg q]
    refine a_aload_n (i := 0) dX12_last_5 rfl rfl ?_
    refine a_iload_n (i := 1) dX12_last_6 rfl rfl ?_
    refine kX12_498 rfl dX12_last_7 (Nat.le_of_ble_eq_true rfl) (isM_0 hM) (c_X12_isHouse hM hT) ?_
    refine a_if_eq (tg := 33) dX12_last_10 (by decide) (fun c_10 => ?_) (fun c_10 => ?_)
    · refine a_ldcw (v := (-2147483648)) dX12_last_33 (oX12_501 rfl) ?_
      exact a_iret dX12_last_36 (by exact ⟨rfl, rfl⟩)
    · refine a_iload_n (i := 2) dX12_last_13 rfl rfl ?_
      refine a_iconst (v := 0) dX12_last_14 (by decide) ?_
      refine a_bipush (v := 7) dX12_last_15 (by decide) ?_
      refine kX12_220 rfl dX12_last_17 (Nat.le_of_ble_eq_true rfl) (c_X12_isIn) ?_
      refine a_if_eq (tg := 33) dX12_last_20 (by decide) (fun c_20 => ?_) (fun c_20 => ?_)
      · refine a_ldcw (v := (-2147483648)) dX12_last_33 (oX12_501 rfl) ?_
        exact a_iret dX12_last_36 (by exact ⟨rfl, rfl⟩)
      · exact absurd ⟨bI_p.mp c_10, zIn8.mp (bI_p.mp c_20)⟩ q
def qFar (T : zT) (Z : zS) (a c : Int32) : Int32 := if zIn (T.1 1) a ∧ zIn (T.1 0) c then zFar T Z a.toNatClampNeg c.toNatClampNeg else -1
set_option maxHeartbeats 4000000 in
set_option maxRecDepth 100000 in
theorem c_X11_far {a c : Int32} (hD : aDC D) (h : cR T W Z x t) : aDI l mX11_far (d + 2) D [.ref bLH, .int a, .int c] x (qFar T Z a c) x := by
  obtain ⟨ht, hp, ok, hZ, hT, hW, hS⟩ := h
  have h6 := ok.1
  have h8 := ok.2.1
  refine a_metI (by decide) (Nat.le_of_ble_eq_true rfl) rfl ?_
  by_cases q : zIn (T.1 1) a ∧ zIn (T.1 0) c
  · rw [qFar, if_pos q]
    obtain ⟨k, hk, rfl⟩ := zIn_of (by omega) q.1
    obtain ⟨z, hz, rfl⟩ := zIn_of (by omega) q.2
    rw [nI_clamp (by omega), nI_clamp (by omega)]
    refine a_aload_n (i := 0) dX11_far_0 rfl rfl ?_
    refine a_iload_n (i := 1) dX11_far_1 rfl rfl ?_
    refine kX11_125 rfl dX11_far_2 (Nat.le_of_ble_eq_true rfl) (isLH_0 hD) (c_X11_isMan hD ht hp hT) ?_
    refine a_if_eq (tg := 16) dX11_far_5 (by decide) (fun c_5 => ?_) (fun c_5 => ?_)
    · exact absurd c_5 (bI_p.mpr q.1)
    · refine a_aload_n (i := 0) dX11_far_8 rfl rfl ?_
      refine a_iload_n (i := 2) dX11_far_9 rfl rfl ?_
      refine kX11_162 rfl dX11_far_10 (Nat.le_of_ble_eq_true rfl) (isLH_0 hD) (c_X11_isHouse hD ht hp hT) ?_
      refine a_if_ne (tg := 18) dX11_far_13 (by decide) (fun c_13 => ?_) (fun c_13 => ?_)
      · refine a_aload_n (i := 0) dX11_far_18 rfl rfl ?_
        refine gX11_30 rfl dX11_far_19 (isLH_0 hD) ?_
        refine a_aload_n (i := 0) dX11_far_22 rfl rfl ?_
        refine gX11_23 rfl dX11_far_23 (isLH_0 hD) ?_
        rw [hp]
        refine a_iload_n (i := 1) dX11_far_26 rfl rfl ?_
        refine a_iload_n (i := 2) dX11_far_27 rfl rfl ?_
        refine kX11_182 rfl dX11_far_28 (Nat.le_of_ble_eq_true rfl) (isS_0 hD hbNow) (cz_farOf hD hbNow ht ok hT hS hk hz) ?_
        exact a_iret dX11_far_31 (by exact ⟨rfl, rfl⟩)
      · exact absurd c_13 (bI_p.mpr q.2)
  · rw [qFar, if_neg q]
    refine a_aload_n (i := 0) dX11_far_0 rfl rfl ?_
    refine a_iload_n (i := 1) dX11_far_1 rfl rfl ?_
    refine kX11_125 rfl dX11_far_2 (Nat.le_of_ble_eq_true rfl) (isLH_0 hD) (c_X11_isMan hD ht hp hT) ?_
    refine a_if_eq (tg := 16) dX11_far_5 (by decide) (fun c_5 => ?_) (fun c_5 => ?_)
    · refine a_iconst (v := (-1)) dX11_far_16 (by decide) ?_
      exact a_iret dX11_far_17 (by exact ⟨rfl, rfl⟩)
    · refine a_aload_n (i := 0) dX11_far_8 rfl rfl ?_
      refine a_iload_n (i := 2) dX11_far_9 rfl rfl ?_
      refine kX11_162 rfl dX11_far_10 (Nat.le_of_ble_eq_true rfl) (isLH_0 hD) (c_X11_isHouse hD ht hp hT) ?_
      refine a_if_ne (tg := 18) dX11_far_13 (by decide) (fun c_13 => ?_) (fun c_13 => ?_)
      · exact absurd ⟨bI_p.mp c_5, bI_p.mp c_13⟩ q
      · refine a_iconst (v := (-1)) dX11_far_16 (by decide) ?_
        exact a_iret dX11_far_17 (by exact ⟨rfl, rfl⟩)
set_option maxHeartbeats 4000000 in
set_option maxRecDepth 100000 in
theorem c_X12_far {a c : Int32} (hM : D 12 = true) (h : mR T W Z x) : aDI l mX12_far (d + 3) D [.ref bM, .int a, .int c] x (qFar T Z a c) (aWr x bM 2 0) := by
  obtain ⟨ok, hZ, hT, hW, hS⟩ := mR_0 h
  refine a_metI (by decide) (Nat.le_of_ble_eq_true rfl) rfl ?_
  refine a_aload_n (i := 0) dX12_far_0 rfl rfl ?_
  refine a_iconst (v := 0) dX12_far_1 (by decide) ?_
  refine pX12_175 rfl dX12_far_2 (isM_0 hM) ?_
  refine a_loc [(0, .ref bM), (1, .int a), (2, .int c)] rfl ?_
  generalize aWr x bM 2 0 = y at *
  have h6 := ok.1
  have h8 := ok.2.1
  by_cases q : zIn (T.1 1) a ∧ zIn (T.1 0) c
  · rw [qFar, if_pos q]
    obtain ⟨k, hk, rfl⟩ := zIn_of (by omega) q.1
    obtain ⟨z, hz, rfl⟩ := zIn_of (by omega) q.2
    rw [nI_clamp (by omega), nI_clamp (by omega)]
    refine a_aload_n (i := 0) dX12_far_5 rfl rfl ?_
    refine a_iload_n (i := 1) dX12_far_6 rfl rfl ?_
    refine kX12_492 rfl dX12_far_7 (Nat.le_of_ble_eq_true rfl) (isM_0 hM) (c_X12_isMan hM hT) ?_
    refine a_if_eq (tg := 32) dX12_far_10 (by decide) (fun c_10 => ?_) (fun c_10 => ?_)
    · exact absurd c_10 (bI_p.mpr q.1)
    · refine a_aload_n (i := 0) dX12_far_13 rfl rfl ?_
      refine a_iload_n (i := 2) dX12_far_14 rfl rfl ?_
      refine kX12_498 rfl dX12_far_15 (Nat.le_of_ble_eq_true rfl) (isM_0 hM) (c_X12_isHouse hM hT) ?_
      refine a_if_eq (tg := 32) dX12_far_18 (by decide) (fun c_18 => ?_) (fun c_18 => ?_)
      · exact absurd c_18 (bI_p.mpr q.2)
      · refine a_aload_n (i := 0) dX12_far_21 rfl rfl ?_
        refine a_iconst (v := 0) dX12_far_22 (by decide) ?_
        refine a_iload_n (i := 1) dX12_far_23 rfl rfl ?_
        refine a_iload_n (i := 2) dX12_far_24 rfl rfl ?_
        refine a_iconst (v := 0) dX12_far_25 (by decide) ?_
        refine kX12_502 rfl dX12_far_26 (Nat.le_of_ble_eq_true rfl) (isM_0 hM) (mz_farBut (i := 0) hM (by decide) ok hZ hT hS hk hz) ?_
        refine a_goto (tg := 33) dX12_far_29 (by decide) ?_
        exact a_iret dX12_far_33 (by exact ⟨rfl, rfl⟩)
  · rw [qFar, if_neg q]
    refine a_aload_n (i := 0) dX12_far_5 rfl rfl ?_
    refine a_iload_n (i := 1) dX12_far_6 rfl rfl ?_
    refine kX12_492 rfl dX12_far_7 (Nat.le_of_ble_eq_true rfl) (isM_0 hM) (c_X12_isMan hM hT) ?_
    refine a_if_eq (tg := 32) dX12_far_10 (by decide) (fun c_10 => ?_) (fun c_10 => ?_)
    · refine a_iconst (v := (-1)) dX12_far_32 (by decide) ?_
      exact a_iret dX12_far_33 (by exact ⟨rfl, rfl⟩)
    · refine a_aload_n (i := 0) dX12_far_13 rfl rfl ?_
      refine a_iload_n (i := 2) dX12_far_14 rfl rfl ?_
      refine kX12_498 rfl dX12_far_15 (Nat.le_of_ble_eq_true rfl) (isM_0 hM) (c_X12_isHouse hM hT) ?_
      refine a_if_eq (tg := 32) dX12_far_18 (by decide) (fun c_18 => ?_) (fun c_18 => ?_)
      · refine a_iconst (v := (-1)) dX12_far_32 (by decide) ?_
        exact a_iret dX12_far_33 (by exact ⟨rfl, rfl⟩)
      · exact absurd ⟨bI_p.mp c_10, bI_p.mp c_18⟩ q
def qSum (T : zT) (Z : zS) (a : Int32) : Int32 := if zIn (T.1 0) a then zSum Z a.toNatClampNeg else -2147483648
set_option maxHeartbeats 4000000 in
set_option maxRecDepth 100000 in
theorem c_X11_sum {a : Int32} (hD : aDC D) (h : cR T W Z x t) : aDI l mX11_sum (d + 2) D [.ref bLH, .int a] x (qSum T Z a) x := by
  obtain ⟨ht, hp, ok, hZ, hT, hW, hS⟩ := h
  have h6 := ok.1
  refine a_metI (by decide) (Nat.le_of_ble_eq_true rfl) rfl ?_
  by_cases q : zIn (T.1 0) a
  · rw [qSum, if_pos q]
    obtain ⟨k, hk, rfl⟩ := zIn_of (by omega) q
    rw [nI_clamp (by omega)]
    refine a_aload_n (i := 0) dX11_sum_0 rfl rfl ?_
    refine a_iload_n (i := 1) dX11_sum_1 rfl rfl ?_
    refine kX11_162 rfl dX11_sum_2 (Nat.le_of_ble_eq_true rfl) (isLH_0 hD) (c_X11_isHouse hD ht hp hT) ?_
    refine a_if_eq (tg := 19) dX11_sum_5 (by decide) (fun c_5 => ?_) (fun c_5 => ?_)
    · exact absurd c_5 (bI_p.mpr q)
    · refine a_aload_n (i := 0) dX11_sum_8 rfl rfl ?_
      refine gX11_30 rfl dX11_sum_9 (isLH_0 hD) ?_
      refine a_iload_n (i := 1) dX11_sum_12 rfl rfl ?_
      refine kX11_206 rfl dX11_sum_13 (Nat.le_of_ble_eq_true rfl) (isS_0 hD hbNow) (cz_sumOf hD hbNow ok hS hk) ?_
      refine a_goto (tg := 21) dX11_sum_16 (by decide) ?_
      exact a_iret dX11_sum_21 (by exact ⟨rfl, rfl⟩)
  · rw [qSum, if_neg q]
    refine a_aload_n (i := 0) dX11_sum_0 rfl rfl ?_
    refine a_iload_n (i := 1) dX11_sum_1 rfl rfl ?_
    refine kX11_162 rfl dX11_sum_2 (Nat.le_of_ble_eq_true rfl) (isLH_0 hD) (c_X11_isHouse hD ht hp hT) ?_
    refine a_if_eq (tg := 19) dX11_sum_5 (by decide) (fun c_5 => ?_) (fun c_5 => ?_)
    · refine a_ldc (v := (-2147483648)) dX11_sum_19 (oX11_168 rfl) ?_
      exact a_iret dX11_sum_21 (by exact ⟨rfl, rfl⟩)
    · exact absurd (bI_p.mp c_5) q
set_option maxHeartbeats 4000000 in
set_option maxRecDepth 100000 in
theorem c_X12_sum {a : Int32} (hM : D 12 = true) (h : mR T W Z x) : aDI l mX12_sum (d + 4) D [.ref bM, .int a] x (qSum T Z a) (aWr x bM 2 0) := by
  obtain ⟨ok, hZ, hT, hW, hS⟩ := mR_0 h
  refine a_metI (by decide) (Nat.le_of_ble_eq_true rfl) rfl ?_
  refine a_aload_n (i := 0) dX12_sum_0 rfl rfl ?_
  refine a_iconst (v := 0) dX12_sum_1 (by decide) ?_
  refine pX12_175 rfl dX12_sum_2 (isM_0 hM) ?_
  refine a_loc [(0, .ref bM), (1, .int a)] rfl ?_
  generalize aWr x bM 2 0 = y at *
  have h6 := ok.1
  by_cases q : zIn (T.1 0) a
  · rw [qSum, if_pos q]
    obtain ⟨k, hk, rfl⟩ := zIn_of (by omega) q
    rw [nI_clamp (by omega)]
    refine a_aload_n (i := 0) dX12_sum_5 rfl rfl ?_
    refine a_iload_n (i := 1) dX12_sum_6 rfl rfl ?_
    refine kX12_498 rfl dX12_sum_7 (Nat.le_of_ble_eq_true rfl) (isM_0 hM) (c_X12_isHouse hM hT) ?_
    refine a_if_eq (tg := 22) dX12_sum_10 (by decide) (fun c_10 => ?_) (fun c_10 => ?_)
    · exact absurd c_10 (bI_p.mpr q)
    · refine a_aload_n (i := 0) dX12_sum_13 rfl rfl ?_
      refine a_iconst (v := 0) dX12_sum_14 (by decide) ?_
      refine a_iload_n (i := 1) dX12_sum_15 rfl rfl ?_
      refine kX12_519 rfl dX12_sum_16 (Nat.le_of_ble_eq_true rfl) (isM_0 hM) (mz_sumOf (i := 0) hM (by decide) ok hZ hS hk) ?_
      refine a_goto (tg := 25) dX12_sum_19 (by decide) ?_
      exact a_iret dX12_sum_25 (by exact ⟨rfl, rfl⟩)
  · rw [qSum, if_neg q]
    refine a_aload_n (i := 0) dX12_sum_5 rfl rfl ?_
    refine a_iload_n (i := 1) dX12_sum_6 rfl rfl ?_
    refine kX12_498 rfl dX12_sum_7 (Nat.le_of_ble_eq_true rfl) (isM_0 hM) (c_X12_isHouse hM hT) ?_
    refine a_if_eq (tg := 22) dX12_sum_10 (by decide) (fun c_10 => ?_) (fun c_10 => ?_)
    · refine a_ldcw (v := (-2147483648)) dX12_sum_22 (oX12_501 rfl) ?_
      exact a_iret dX12_sum_25 (by exact ⟨rfl, rfl⟩)
    · exact absurd (bI_p.mp c_10) q
def qLike (T : zT) (Z : zS) (a c : Int32) : Int32 := if zTwo T a c then zDiffer Z a.toNatClampNeg c.toNatClampNeg else -1
set_option maxHeartbeats 4000000 in
set_option maxRecDepth 100000 in
theorem c_X11_likeness {a c : Int32} (hD : aDC D) (h : cR T W Z x t) : aDI l mX11_likeness (d + 2) D [.ref bLH, .int a, .int c] x (qLike T Z a c) x := by
  obtain ⟨ht, hp, ok, hZ, hT, hW, hS⟩ := h
  have h6 := ok.1
  refine a_metI (by decide) (Nat.le_of_ble_eq_true rfl) rfl ?_
  by_cases q : zTwo T a c
  · rw [qLike, if_pos q]
    obtain ⟨k, hk, rfl⟩ := zIn_of (by omega) q.1
    obtain ⟨z, hz, rfl⟩ := zIn_of (by omega) q.2.1
    rw [nI_clamp (by omega), nI_clamp (by omega)]
    refine a_aload_n (i := 0) dX11_likeness_0 rfl rfl ?_
    refine a_iload_n (i := 1) dX11_likeness_1 rfl rfl ?_
    refine a_iload_n (i := 2) dX11_likeness_2 rfl rfl ?_
    refine kX11_210 rfl dX11_likeness_3 (Nat.le_of_ble_eq_true rfl) (isLH_0 hD) (c_X11_areTwoHouses hD ht hp hT) ?_
    refine a_if_eq (tg := 21) dX11_likeness_6 (by decide) (fun c_6 => ?_) (fun c_6 => ?_)
    · exact absurd c_6 (bI_p.mpr q)
    · refine a_aload_n (i := 0) dX11_likeness_9 rfl rfl ?_
      refine gX11_30 rfl dX11_likeness_10 (isLH_0 hD) ?_
      refine a_iload_n (i := 1) dX11_likeness_13 rfl rfl ?_
      refine a_iload_n (i := 2) dX11_likeness_14 rfl rfl ?_
      refine kX11_301 rfl dX11_likeness_15 (Nat.le_of_ble_eq_true rfl) (isS_0 hD hbNow) (cz_differ hD hbNow ok hS hk hz) ?_
      refine a_goto (tg := 22) dX11_likeness_18 (by decide) ?_
      exact a_iret dX11_likeness_22 (by exact ⟨rfl, rfl⟩)
  · rw [qLike, if_neg q]
    refine a_aload_n (i := 0) dX11_likeness_0 rfl rfl ?_
    refine a_iload_n (i := 1) dX11_likeness_1 rfl rfl ?_
    refine a_iload_n (i := 2) dX11_likeness_2 rfl rfl ?_
    refine kX11_210 rfl dX11_likeness_3 (Nat.le_of_ble_eq_true rfl) (isLH_0 hD) (c_X11_areTwoHouses hD ht hp hT) ?_
    refine a_if_eq (tg := 21) dX11_likeness_6 (by decide) (fun c_6 => ?_) (fun c_6 => ?_)
    · refine a_iconst (v := (-1)) dX11_likeness_21 (by decide) ?_
      exact a_iret dX11_likeness_22 (by exact ⟨rfl, rfl⟩)
    · exact absurd (bI_p.mp c_6) q
set_option maxHeartbeats 4000000 in
set_option maxRecDepth 100000 in
theorem c_X12_likeness {a c : Int32} (hM : D 12 = true) (h : mR T W Z x) : aDI l mX12_likeness (d + 4) D [.ref bM, .int a, .int c] x (qLike T Z a c) (aWr x bM 2 0) := by
  obtain ⟨ok, hZ, hT, hW, hS⟩ := mR_0 h
  refine a_metI (by decide) (Nat.le_of_ble_eq_true rfl) rfl ?_
  refine a_aload_n (i := 0) dX12_likeness_0 rfl rfl ?_
  refine a_iconst (v := 0) dX12_likeness_1 (by decide) ?_
  refine pX12_175 rfl dX12_likeness_2 (isM_0 hM) ?_
  refine a_loc [(0, .ref bM), (1, .int a), (2, .int c)] rfl ?_
  generalize aWr x bM 2 0 = y at *
  have h6 := ok.1
  by_cases q : zTwo T a c
  · rw [qLike, if_pos q]
    obtain ⟨k, hk, rfl⟩ := zIn_of (by omega) q.1
    obtain ⟨z, hz, rfl⟩ := zIn_of (by omega) q.2.1
    rw [nI_clamp (by omega), nI_clamp (by omega)]
    refine a_aload_n (i := 0) dX12_likeness_5 rfl rfl ?_
    refine a_iload_n (i := 1) dX12_likeness_6 rfl rfl ?_
    refine a_iload_n (i := 2) dX12_likeness_7 rfl rfl ?_
    refine kX12_525 rfl dX12_likeness_8 (Nat.le_of_ble_eq_true rfl) (isM_0 hM) (c_X12_areTwo hM hT) ?_
    refine a_if_eq (tg := 23) dX12_likeness_11 (by decide) (fun c_11 => ?_) (fun c_11 => ?_)
    · exact absurd c_11 (bI_p.mpr q)
    · refine a_aload_n (i := 0) dX12_likeness_14 rfl rfl ?_
      refine a_iload_n (i := 1) dX12_likeness_15 rfl rfl ?_
      refine a_iload_n (i := 2) dX12_likeness_16 rfl rfl ?_
      refine kX12_528 rfl dX12_likeness_17 (Nat.le_of_ble_eq_true rfl) (isM_0 hM) (mz_likeOf hM ok hZ hS hk hz) ?_
      refine a_goto (tg := 24) dX12_likeness_20 (by decide) ?_
      exact a_iret dX12_likeness_24 (by exact ⟨rfl, rfl⟩)
  · rw [qLike, if_neg q]
    refine a_aload_n (i := 0) dX12_likeness_5 rfl rfl ?_
    refine a_iload_n (i := 1) dX12_likeness_6 rfl rfl ?_
    refine a_iload_n (i := 2) dX12_likeness_7 rfl rfl ?_
    refine kX12_525 rfl dX12_likeness_8 (Nat.le_of_ble_eq_true rfl) (isM_0 hM) (c_X12_areTwo hM hT) ?_
    refine a_if_eq (tg := 23) dX12_likeness_11 (by decide) (fun c_11 => ?_) (fun c_11 => ?_)
    · refine a_iconst (v := (-1)) dX12_likeness_23 (by decide) ?_
      exact a_iret dX12_likeness_24 (by exact ⟨rfl, rfl⟩)
    · exact absurd (bI_p.mp c_11) q
def qSettle (T : zT) (Z : zS) (a c z : Int32) : Int32 := if zTwo T a c ∧ zIn 8 z then (zLast Z a.toNatClampNeg z.toNatClampNeg + zLast Z c.toNatClampNeg z.toNatClampNeg) / 2 else -2147483648
set_option maxHeartbeats 4000000 in
set_option maxRecDepth 100000 in
theorem c_X11_settle {a c e : Int32} (hD : aDC D) (h : cR T W Z x t) : aDI l mX11_settle (d + 2) D [.ref bLH, .int a, .int c, .int e] x (qSettle T Z a c e) x := by
  obtain ⟨ht, hp, ok, hZ, hT, hW, hS⟩ := h
  have h6 := ok.1
  refine a_metI (by decide) (Nat.le_of_ble_eq_true rfl) rfl ?_
  by_cases q : zTwo T a c ∧ zIn 8 e
  · rw [qSettle, if_pos q]
    obtain ⟨k, hk, rfl⟩ := zIn_of (by omega) q.1.1
    obtain ⟨g, hg, rfl⟩ := zIn_of (by omega) q.1.2.1
    obtain ⟨z, hz, rfl⟩ := zIn_of (by decide) q.2
    rw [nI_clamp (by omega), nI_clamp (by omega), nI_clamp (by omega)]
    refine a_aload_n (i := 0) dX11_settle_0 rfl rfl ?_
    refine a_iload_n (i := 1) dX11_settle_1 rfl rfl ?_
    refine a_iload_n (i := 2) dX11_settle_2 rfl rfl ?_
    refine kX11_210 rfl dX11_settle_3 (Nat.le_of_ble_eq_true rfl) (isLH_0 hD) (c_X11_areTwoHouses hD ht hp hT) ?_
    refine a_if_eq (tg := 16) dX11_settle_6 (by decide) (fun c_6 => ?_) (fun c_6 => ?_)
    · exact absurd c_6 (bI_p.mpr q.1)
    · refine a_iload_n (i := 3) dX11_settle_9 rfl rfl ?_
      refine kX11_165 rfl dX11_settle_10 (Nat.le_of_ble_eq_true rfl) (c_X11_isZone) ?_
      refine a_if_ne (tg := 19) dX11_settle_13 (by decide) (fun c_13 => ?_) (fun c_13 => ?_)
      · refine a_aload_n (i := 0) dX11_settle_19 rfl rfl ?_
        refine gX11_30 rfl dX11_settle_20 (isLH_0 hD) ?_
        refine a_iload_n (i := 1) dX11_settle_23 rfl rfl ?_
        refine a_iload_n (i := 2) dX11_settle_24 rfl rfl ?_
        refine a_iload_n (i := 3) dX11_settle_25 rfl rfl ?_
        refine kX11_214 rfl dX11_settle_26 (Nat.le_of_ble_eq_true rfl) (isS_0 hD hbNow) (cz_halfWay hD hbNow ok hS hk hg hz) ?_
        exact a_iret dX11_settle_29 (by exact ⟨rfl, rfl⟩)
      · exact absurd c_13 (bI_p.mpr q.2)
  · rw [qSettle, if_neg q]
    refine a_aload_n (i := 0) dX11_settle_0 rfl rfl ?_
    refine a_iload_n (i := 1) dX11_settle_1 rfl rfl ?_
    refine a_iload_n (i := 2) dX11_settle_2 rfl rfl ?_
    refine kX11_210 rfl dX11_settle_3 (Nat.le_of_ble_eq_true rfl) (isLH_0 hD) (c_X11_areTwoHouses hD ht hp hT) ?_
    refine a_if_eq (tg := 16) dX11_settle_6 (by decide) (fun c_6 => ?_) (fun c_6 => ?_)
    · refine a_ldc (v := (-2147483648)) dX11_settle_16 (oX11_168 rfl) ?_
      exact a_iret dX11_settle_18 (by exact ⟨rfl, rfl⟩)
    · refine a_iload_n (i := 3) dX11_settle_9 rfl rfl ?_
      refine kX11_165 rfl dX11_settle_10 (Nat.le_of_ble_eq_true rfl) (c_X11_isZone) ?_
      refine a_if_ne (tg := 19) dX11_settle_13 (by decide) (fun c_13 => ?_) (fun c_13 => ?_)
      · exact absurd ⟨bI_p.mp c_6, bI_p.mp c_13⟩ q
      · refine a_ldc (v := (-2147483648)) dX11_settle_16 (oX11_168 rfl) ?_
        exact a_iret dX11_settle_18 (by exact ⟨rfl, rfl⟩)
set_option maxHeartbeats 4000000 in
set_option maxRecDepth 100000 in
theorem c_X12_settle {a c e : Int32} (hM : D 12 = true) (h : mR T W Z x) : aDI l mX12_settle (d + 3) D [.ref bM, .int a, .int c, .int e] x (qSettle T Z a c e) (aWr x bM 2 0) := by
  obtain ⟨ok, hZ, hT, hW, hS⟩ := mR_0 h
  refine a_metI (by decide) (Nat.le_of_ble_eq_true rfl) rfl ?_
  refine a_aload_n (i := 0) dX12_settle_0 rfl rfl ?_
  refine a_iconst (v := 0) dX12_settle_1 (by decide) ?_
  refine pX12_175 rfl dX12_settle_2 (isM_0 hM) ?_
  refine a_loc [(0, .ref bM), (1, .int a), (2, .int c), (3, .int e)] rfl ?_
  generalize aWr x bM 2 0 = y at *
  have h6 := ok.1
  by_cases q : zTwo T a c ∧ zIn 8 e
  · rw [qSettle, if_pos q]
    obtain ⟨k, hk, rfl⟩ := zIn_of (by omega) q.1.1
    obtain ⟨g, hg, rfl⟩ := zIn_of (by omega) q.1.2.1
    obtain ⟨z, hz, rfl⟩ := zIn_of (by decide) q.2
    rw [nI_clamp (by omega), nI_clamp (by omega), nI_clamp (by omega)]
    refine a_aload_n (i := 0) dX12_settle_5 rfl rfl ?_
    refine a_iload_n (i := 1) dX12_settle_6 rfl rfl ?_
    refine a_iload_n (i := 2) dX12_settle_7 rfl rfl ?_
    refine kX12_525 rfl dX12_settle_8 (Nat.le_of_ble_eq_true rfl) (isM_0 hM) (c_X12_areTwo hM hT) ?_
    refine a_if_eq (tg := 44) dX12_settle_11 (by decide) (fun c_11 => ?_) (fun c_11 => ?_)
    · exact absurd c_11 (bI_p.mpr q.1)
    · refine a_iload_n (i := 3) dX12_settle_14 rfl rfl ?_
      refine a_iconst (v := 0) dX12_settle_15 (by decide) ?_
      refine a_bipush (v := 7) dX12_settle_16 (by decide) ?_
      refine kX12_220 rfl dX12_settle_18 (Nat.le_of_ble_eq_true rfl) (c_X12_isIn) ?_
      refine a_if_eq (tg := 44) dX12_settle_21 (by decide) (fun c_21 => ?_) (fun c_21 => ?_)
      · exact absurd c_21 (bI_p.mpr (zIn8.mpr q.2))
      · refine a_aload_n (i := 0) dX12_settle_24 rfl rfl ?_
        refine a_iconst (v := 0) dX12_settle_25 (by decide) ?_
        refine a_iload_n (i := 1) dX12_settle_26 rfl rfl ?_
        refine a_iload_n (i := 3) dX12_settle_27 rfl rfl ?_
        refine kX12_440 rfl dX12_settle_28 (Nat.le_of_ble_eq_true rfl) (isM_0 hM) (mz_lastAt (i := 0) hM (by decide) ok hZ hS hk hz) ?_
        refine a_aload_n (i := 0) dX12_settle_31 rfl rfl ?_
        refine a_iconst (v := 0) dX12_settle_32 (by decide) ?_
        refine a_iload_n (i := 2) dX12_settle_33 rfl rfl ?_
        refine a_iload_n (i := 3) dX12_settle_34 rfl rfl ?_
        refine kX12_440 rfl dX12_settle_35 (Nat.le_of_ble_eq_true rfl) (isM_0 hM) (mz_lastAt (i := 0) hM (by decide) ok hZ hS hg hz) ?_
        refine a_iadd dX12_settle_38 ?_
        refine a_iconst (v := 2) dX12_settle_39 (by decide) ?_
        refine a_idiv dX12_settle_40 (by decide) ?_
        refine a_goto (tg := 47) dX12_settle_41 (by decide) ?_
        exact a_iret dX12_settle_47 (by exact ⟨rfl, rfl⟩)
  · rw [qSettle, if_neg q]
    refine a_aload_n (i := 0) dX12_settle_5 rfl rfl ?_
    refine a_iload_n (i := 1) dX12_settle_6 rfl rfl ?_
    refine a_iload_n (i := 2) dX12_settle_7 rfl rfl ?_
    refine kX12_525 rfl dX12_settle_8 (Nat.le_of_ble_eq_true rfl) (isM_0 hM) (c_X12_areTwo hM hT) ?_
    refine a_if_eq (tg := 44) dX12_settle_11 (by decide) (fun c_11 => ?_) (fun c_11 => ?_)
    · refine a_ldcw (v := (-2147483648)) dX12_settle_44 (oX12_501 rfl) ?_
      exact a_iret dX12_settle_47 (by exact ⟨rfl, rfl⟩)
    · refine a_iload_n (i := 3) dX12_settle_14 rfl rfl ?_
      refine a_iconst (v := 0) dX12_settle_15 (by decide) ?_
      refine a_bipush (v := 7) dX12_settle_16 (by decide) ?_
      refine kX12_220 rfl dX12_settle_18 (Nat.le_of_ble_eq_true rfl) (c_X12_isIn) ?_
      refine a_if_eq (tg := 44) dX12_settle_21 (by decide) (fun c_21 => ?_) (fun c_21 => ?_)
      · refine a_ldcw (v := (-2147483648)) dX12_settle_44 (oX12_501 rfl) ?_
        exact a_iret dX12_settle_47 (by exact ⟨rfl, rfl⟩)
      · exact absurd ⟨bI_p.mp c_11, zIn8.mp (bI_p.mp c_21)⟩ q
def qHeart (T : zT) (Z : zS) (a : Int32) : Int32 := if zIn 8 a ∧ T.1 0 ≠ 0 then lp (fun h w => jmin w (zLast Z h a.toNatClampNeg)) 1 (T.1 0 - 1) (zLast Z 0 a.toNatClampNeg) else -2147483648
set_option maxHeartbeats 4000000 in
set_option maxRecDepth 100000 in
theorem c_X11_heart {a : Int32} (hD : aDC D) (h : cR T W Z x t) : aDI l mX11_heart (d + 1) D [.ref bLH, .int a] x (qHeart T Z a) x := by
  obtain ⟨ht, hp, ok, hZ, hT, hW, hS⟩ := h
  have h6 := ok.1
  have e0 : x.1 t 1 = nI (T.1 0) := hT.1
  refine a_metI (by decide) (Nat.le_of_ble_eq_true rfl) rfl ?_
  by_cases q : zIn 8 a ∧ T.1 0 ≠ 0
  · rw [qHeart, if_pos q]
    have hn : ¬ nI (T.1 0) = 0 := nI_ne0 (by omega) (by omega)
    have q1 := q.1
    obtain ⟨z, hz, rfl⟩ := zIn_of (by decide) q1
    rw [nI_clamp (by omega)]
    have L : aV l mX11_heart (d + 1) D none 32 [(0, .ref bLH), (1, .int (nI z)), (2, .int (zLast Z 0 z)), (3, .int (nI 1))] [] x (fun v y => v = some (.int (lp (fun h w => jmin w (zLast Z h z)) 1 (T.1 0 - 1) (zLast Z 0 z))) ∧ y = x) := by
      refine lp_rule (P := fun h w => aV l mX11_heart (d + 1) D none 32 [(0, .ref bLH), (1, .int (nI z)), (2, .int w), (3, .int (nI h))] [] x _) (fun h w => jmin w (zLast Z h z)) (N := T.1 0) ?_ (T.1 0 - 1) 1 _ (by omega) ?_
      · intro h w hh ih
        refine a_iload_n (i := 3) dX11_heart_32 rfl rfl ?_
        refine a_aload_n (i := 0) dX11_heart_33 rfl rfl ?_
        refine gX11_23 rfl dX11_heart_34 (isLH_0 hD) ?_
        rw [hp]
        refine gX11_112 rfl dX11_heart_37 (isT_0 hD ht) ?_
        rw [e0]
        refine a_icmp_ge (tg := 63) dX11_heart_40 (by decide) (fun c_40 => ?_) (fun c_40 => ?_)
        · exact absurd c_40 (nI_ge hh (by omega))
        · refine a_iload_n (i := 2) dX11_heart_43 rfl rfl ?_
          refine a_aload_n (i := 0) dX11_heart_44 rfl rfl ?_
          refine gX11_30 rfl dX11_heart_45 (isLH_0 hD) ?_
          refine a_iload_n (i := 3) dX11_heart_48 rfl rfl ?_
          refine a_iload_n (i := 1) dX11_heart_49 rfl rfl ?_
          refine kX11_169 rfl dX11_heart_50 (Nat.le_of_ble_eq_true rfl) (isS_0 hD hbNow) (cz_lastAt hD hbNow ok hS hh hz) ?_
          refine kX11_304 rfl dX11_heart_53 (Nat.le_of_ble_eq_true rfl) ?_
          refine a_istore_n (i := 2) dX11_heart_56 rfl (by decide) ?_
          refine a_iincK (i := 3) (u := 1) dX11_heart_57 rfl (by decide) (by decide) ?_
          refine a_goto (tg := 32) dX11_heart_60 (by decide) ?_
          rw [nI_1]; exact a_loc _ rfl ih
      · refine a_iload_n (i := 3) dX11_heart_32 rfl rfl ?_
        refine a_aload_n (i := 0) dX11_heart_33 rfl rfl ?_
        refine gX11_23 rfl dX11_heart_34 (isLH_0 hD) ?_
        rw [hp]
        refine gX11_112 rfl dX11_heart_37 (isT_0 hD ht) ?_
        rw [e0]
        refine a_icmp_ge (tg := 63) dX11_heart_40 (by decide) (fun c_40 => ?_) (fun c_40 => ?_)
        · refine a_iload_n (i := 2) dX11_heart_63 rfl rfl ?_
          exact a_iret dX11_heart_64 (by exact ⟨rfl, rfl⟩)
        · exact absurd (Int32.le_refl _) c_40
    refine a_iload_n (i := 1) dX11_heart_0 rfl rfl ?_
    refine kX11_165 rfl dX11_heart_1 (Nat.le_of_ble_eq_true rfl) (c_X11_isZone) ?_
    refine a_if_eq (tg := 17) dX11_heart_4 (by decide) (fun c_4 => ?_) (fun c_4 => ?_)
    · exact absurd c_4 (bI_p.mpr q1)
    · refine a_aload_n (i := 0) dX11_heart_7 rfl rfl ?_
      refine gX11_23 rfl dX11_heart_8 (isLH_0 hD) ?_
      rw [hp]
      refine gX11_112 rfl dX11_heart_11 (isT_0 hD ht) ?_
      rw [e0]
      refine a_if_ne (tg := 20) dX11_heart_14 (by decide) (fun c_14 => ?_) (fun c_14 => ?_)
      · refine a_aload_n (i := 0) dX11_heart_20 rfl rfl ?_
        refine gX11_30 rfl dX11_heart_21 (isLH_0 hD) ?_
        refine a_iconst (v := 0) dX11_heart_24 (by decide) ?_
        refine a_iload_n (i := 1) dX11_heart_25 rfl rfl ?_
        refine kX11_169 rfl dX11_heart_26 (Nat.le_of_ble_eq_true rfl) (isS_0 hD hbNow) (cz_lastAt (h := 0) hD hbNow ok hS (by omega) hz) ?_
        refine a_istore_n (i := 2) dX11_heart_29 rfl (by decide) ?_
        refine a_iconst (v := 1) dX11_heart_30 (by decide) ?_
        refine a_istore_n (i := 3) dX11_heart_31 rfl (by decide) ?_
        exact a_loc _ rfl L
      · exact absurd c_14 hn
  · rw [qHeart, if_neg q]
    refine a_iload_n (i := 1) dX11_heart_0 rfl rfl ?_
    refine kX11_165 rfl dX11_heart_1 (Nat.le_of_ble_eq_true rfl) (c_X11_isZone) ?_
    refine a_if_eq (tg := 17) dX11_heart_4 (by decide) (fun c_4 => ?_) (fun c_4 => ?_)
    · refine a_ldc (v := (-2147483648)) dX11_heart_17 (oX11_168 rfl) ?_
      exact a_iret dX11_heart_19 (by exact ⟨rfl, rfl⟩)
    · refine a_aload_n (i := 0) dX11_heart_7 rfl rfl ?_
      refine gX11_23 rfl dX11_heart_8 (isLH_0 hD) ?_
      rw [hp]
      refine gX11_112 rfl dX11_heart_11 (isT_0 hD ht) ?_
      rw [e0]
      refine a_if_ne (tg := 20) dX11_heart_14 (by decide) (fun c_14 => ?_) (fun c_14 => ?_)
      · exact absurd ⟨bI_p.mp c_4, fun g => c_14 (by rw [g]; rfl)⟩ q
      · refine a_ldc (v := (-2147483648)) dX11_heart_17 (oX11_168 rfl) ?_
        exact a_iret dX11_heart_19 (by exact ⟨rfl, rfl⟩)
set_option maxHeartbeats 4000000 in
set_option maxRecDepth 100000 in
theorem c_X12_heart {a : Int32} (hM : D 12 = true) (h : mR T W Z x) : aDI l mX12_heart (d + 3) D [.ref bM, .int a] x (qHeart T Z a) (aWr x bM 2 0) := by
  obtain ⟨ok, hZ, hT, hW, hS⟩ := mR_0 h
  refine a_metI (by decide) (Nat.le_of_ble_eq_true rfl) rfl ?_
  refine a_aload_n (i := 0) dX12_heart_0 rfl rfl ?_
  refine a_iconst (v := 0) dX12_heart_1 (by decide) ?_
  refine pX12_175 rfl dX12_heart_2 (isM_0 hM) ?_
  refine a_loc [(0, .ref bM), (1, .int a)] rfl ?_
  generalize aWr x bM 2 0 = y at *
  have h6 := ok.1
  have e0 : y.1 bM 12 = nI (T.1 0) := hT.1
  by_cases q : zIn 8 a ∧ T.1 0 ≠ 0
  · rw [qHeart, if_pos q]
    have hn : ¬ nI (T.1 0) = 0 := nI_ne0 (by omega) (by omega)
    have q1 := q.1
    obtain ⟨z, hz, rfl⟩ := zIn_of (by decide) q1
    rw [nI_clamp (by omega)]
    have L : aV l mX12_heart (d + 3) D none 36 [(0, .ref bM), (1, .int (nI z)), (2, .int (zLast Z 0 z)), (3, .int (nI 1))] [] y (fun v w => v = some (.int (lp (fun h w => jmin w (zLast Z h z)) 1 (T.1 0 - 1) (zLast Z 0 z))) ∧ w = y) := by
      refine lp_rule (P := fun h w => aV l mX12_heart (d + 3) D none 36 [(0, .ref bM), (1, .int (nI z)), (2, .int w), (3, .int (nI h))] [] y _) (fun h w => jmin w (zLast Z h z)) (N := T.1 0) ?_ (T.1 0 - 1) 1 _ (by omega) ?_
      · intro h w hh ih
        unfold jmin at ih
        refine a_iload_n (i := 3) dX12_heart_36 rfl rfl ?_
        refine a_aload_n (i := 0) dX12_heart_37 rfl rfl ?_
        refine gX12_258 rfl dX12_heart_38 (isM_0 hM) ?_
        rw [e0]
        refine a_icmp_ge (tg := 73) dX12_heart_41 (by decide) (fun c_41 => ?_) (fun c_41 => ?_)
        · exact absurd c_41 (nI_ge hh (by omega))
        · refine a_aload_n (i := 0) dX12_heart_44 rfl rfl ?_
          refine a_iconst (v := 0) dX12_heart_45 (by decide) ?_
          refine a_iload_n (i := 3) dX12_heart_46 rfl rfl ?_
          refine a_iload_n (i := 1) dX12_heart_47 rfl rfl ?_
          refine kX12_440 rfl dX12_heart_48 (Nat.le_of_ble_eq_true rfl) (isM_0 hM) (mz_lastAt (i := 0) hM (by decide) ok hZ hS hh hz) ?_
          refine a_iload_n (i := 2) dX12_heart_51 rfl rfl ?_
          refine a_icmp_ge (tg := 65) dX12_heart_52 (by decide) (fun c_52 => ?_) (fun c_52 => ?_)
          · rw [if_neg (Int32.not_lt.mpr c_52)] at ih
            refine a_iload_n (i := 2) dX12_heart_65 rfl rfl ?_
            refine a_istore_n (i := 2) dX12_heart_66 rfl (by decide) ?_
            refine a_iincK (i := 3) (u := 1) dX12_heart_67 rfl (by decide) (by decide) ?_
            refine a_goto (tg := 36) dX12_heart_70 (by decide) ?_
            rw [nI_1]; exact a_loc _ rfl ih
          · rw [if_pos (Int32.not_le.mp c_52)] at ih
            refine a_aload_n (i := 0) dX12_heart_55 rfl rfl ?_
            refine a_iconst (v := 0) dX12_heart_56 (by decide) ?_
            refine a_iload_n (i := 3) dX12_heart_57 rfl rfl ?_
            refine a_iload_n (i := 1) dX12_heart_58 rfl rfl ?_
            refine kX12_440 rfl dX12_heart_59 (Nat.le_of_ble_eq_true rfl) (isM_0 hM) (mz_lastAt (i := 0) hM (by decide) ok hZ hS hh hz) ?_
            refine a_goto (tg := 66) dX12_heart_62 (by decide) ?_
            refine a_istore_n (i := 2) dX12_heart_66 rfl (by decide) ?_
            refine a_iincK (i := 3) (u := 1) dX12_heart_67 rfl (by decide) (by decide) ?_
            refine a_goto (tg := 36) dX12_heart_70 (by decide) ?_
            rw [nI_1]; exact a_loc _ rfl ih
      · refine a_iload_n (i := 3) dX12_heart_36 rfl rfl ?_
        refine a_aload_n (i := 0) dX12_heart_37 rfl rfl ?_
        refine gX12_258 rfl dX12_heart_38 (isM_0 hM) ?_
        rw [e0]
        refine a_icmp_ge (tg := 73) dX12_heart_41 (by decide) (fun c_41 => ?_) (fun c_41 => ?_)
        · refine a_iload_n (i := 2) dX12_heart_73 rfl rfl ?_
          exact a_iret dX12_heart_74 (by exact ⟨rfl, rfl⟩)
        · exact absurd (Int32.le_refl _) c_41
    refine a_iload_n (i := 1) dX12_heart_5 rfl rfl ?_
    refine a_iconst (v := 0) dX12_heart_6 (by decide) ?_
    refine a_bipush (v := 7) dX12_heart_7 (by decide) ?_
    refine kX12_220 rfl dX12_heart_9 (Nat.le_of_ble_eq_true rfl) (c_X12_isIn) ?_
    refine a_if_eq (tg := 22) dX12_heart_12 (by decide) (fun c_12 => ?_) (fun c_12 => ?_)
    · exact absurd c_12 (bI_p.mpr (zIn8.mpr q1))
    · refine a_aload_n (i := 0) dX12_heart_15 rfl rfl ?_
      refine gX12_258 rfl dX12_heart_16 (isM_0 hM) ?_
      rw [e0]
      refine a_if_ne (tg := 26) dX12_heart_19 (by decide) (fun c_19 => ?_) (fun c_19 => ?_)
      · refine a_aload_n (i := 0) dX12_heart_26 rfl rfl ?_
        refine a_iconst (v := 0) dX12_heart_27 (by decide) ?_
        refine a_iconst (v := 0) dX12_heart_28 (by decide) ?_
        refine a_iload_n (i := 1) dX12_heart_29 rfl rfl ?_
        refine kX12_440 rfl dX12_heart_30 (Nat.le_of_ble_eq_true rfl) (isM_0 hM) (mz_lastAt (i := 0) (h := 0) hM (by decide) ok hZ hS (by omega) hz) ?_
        refine a_istore_n (i := 2) dX12_heart_33 rfl (by decide) ?_
        refine a_iconst (v := 1) dX12_heart_34 (by decide) ?_
        refine a_istore_n (i := 3) dX12_heart_35 rfl (by decide) ?_
        exact a_loc _ rfl L
      · exact absurd c_19 hn
  · rw [qHeart, if_neg q]
    refine a_iload_n (i := 1) dX12_heart_5 rfl rfl ?_
    refine a_iconst (v := 0) dX12_heart_6 (by decide) ?_
    refine a_bipush (v := 7) dX12_heart_7 (by decide) ?_
    refine kX12_220 rfl dX12_heart_9 (Nat.le_of_ble_eq_true rfl) (c_X12_isIn) ?_
    refine a_if_eq (tg := 22) dX12_heart_12 (by decide) (fun c_12 => ?_) (fun c_12 => ?_)
    · refine a_ldcw (v := (-2147483648)) dX12_heart_22 (oX12_501 rfl) ?_
      exact a_iret dX12_heart_25 (by exact ⟨rfl, rfl⟩)
    · refine a_aload_n (i := 0) dX12_heart_15 rfl rfl ?_
      refine gX12_258 rfl dX12_heart_16 (isM_0 hM) ?_
      rw [e0]
      refine a_if_ne (tg := 26) dX12_heart_19 (by decide) (fun c_19 => ?_) (fun c_19 => ?_)
      · exact absurd ⟨zIn8.mp (bI_p.mp c_12), fun g => c_19 (by rw [g]; rfl)⟩ q
      · refine a_ldcw (v := (-2147483648)) dX12_heart_22 (oX12_501 rfl) ?_
        exact a_iret dX12_heart_25 (by exact ⟨rfl, rfl⟩)
end qReads
