/-! bits counted, laws asked, fault, count -/
def jush (a b : Int32) : Int32 := (a.toUInt32 >>> (b.toUInt32 &&& Int32.toUInt32 31)).toInt32
def jb1 (a : Int32) : Int32 := a - (jush a 1 &&& 1431655765)
def jb2 (a : Int32) : Int32 := (a &&& 858993459) + (jush a 2 &&& 858993459)
def jb3 (a : Int32) : Int32 := a + jush a 4 &&& 252645135
def jb4 (a : Int32) : Int32 := a + jush a 8
def jb5 (a : Int32) : Int32 := a + jush a 16
def jbc (a : Int32) : Int32 := jb5 (jb4 (jb3 (jb2 (jb1 a)))) &&& 63
theorem lp_ind {α : Type} {P : α → Prop} {g : Nat → α → α} {N : Nat} (h : ∀ k a, k < N → P a → P (g k a)) : ∀ (n i : Nat) (a : α), i + n = N → P a → P (lp g i n a) := by
  intro n
  induction n with
  | zero => intro i a _ h; exact h
  | succ n ih => intro i a hi hp; exact ih (i + 1) (g i a) (by omega) (h i a (by omega) hp)
theorem zYear_ind {T : zT} {W : Nat → zL} {way : Nat} (P : zS → Prop) (h1 : ∀ k Z, k < T.1 2 → P Z → P (zDeed T W k Z)) (h2 : ∀ k Z, k < T.1 3 → P Z → P (zWed T k Z)) (h3 : ∀ m Z, P Z → P (zWear T W way m Z)) (h4 : ∀ Z, P Z → P (zDamp T way Z).2) (h5 : ∀ Z, P Z → P (zSwell T Z)) (h6 : ∀ h w Z, P Z → P (zSet Z h w)) (h7 : ∀ Z, P Z → P (zY5 Z)) : ∀ Z, P Z → P (zYear T W way Z) := by
  intro Z hZ
  have a1 : ∀ Z, P Z → P (zDeeds T W Z) := fun Z h => lp_ind (fun k a hk => h1 k a hk) _ _ _ (Nat.zero_add _) h
  have a2 : ∀ Z, P Z → P (zWeds T Z) := fun Z h => lp_ind (fun k a hk => h2 k a hk) _ _ _ (Nat.zero_add _) h
  have a3 : ∀ Z, P Z → P (zBareAll T Z) := fun Z h => lp_ind (fun k a _ => h6 k _ a) _ _ _ (Nat.zero_add _) h
  have a4 : ∀ Z, P Z → P (zY4 T Z) := fun Z h => by
    unfold zY4
    refine h7 _ ?_
    split
    · exact a3 Z h
    · exact h
  have a5 : ∀ Z, P Z → P (zY3 T way Z) := fun Z h => by
    unfold zY3
    refine a4 _ ?_
    split
    · exact h5 _ (h4 Z h)
    · exact h4 Z h
  have a6 : ∀ Z, P Z → P (zY2 T W way Z) := fun Z h => a5 _ (lp_ind (fun k a _ => h3 k a) _ _ _ (Nat.zero_add _) h)
  unfold zYear
  refine a6 _ ?_
  have a7 : P (if way = 1 then Z else zDeeds T W Z) := by
    split
    · exact hZ
    · exact a1 Z hZ
  split
  · exact a7
  · exact a2 _ a7
/-- the state's bounds: who is wed, corns -/
def zB (T : zT) (Z : zS) : Prop := Z.2 0 0 < 2 ^ T.1 1 ∧ ∀ m, m < T.1 1 → Z.1 4 m ≤ 999
theorem zB_k {T : zT} {Z Y : zS} (h : zB T Z) (h0 : Y.2 0 0 = Z.2 0 0) (hk : zKp T Z Y) : zB T Y := ⟨by rw [h0]; exact h.1, hk.2 h.2⟩
theorem zB_year {T : zT} {W : Nat → zL} {way : Nat} {Z : zS} (ok : zTok T) (h : zB T Z) : zB T (zYear T W way Z) := by
  refine zYear_ind (zB T) ?_ ?_ ?_ ?_ ?_ ?_ ?_ Z h
  · intro k Z hk h
    rw [zDeed_do]
    split
    · refine zB_k h ?_ zKp_do
      unfold zDo
      split
      · simp [zPut, zuk, zui]
      · simp [zRef, zui]
    · exact h
  · intro k Z hk h
    rw [zWed_do]
    split
    · refine ⟨?_, zKp_wd.2 h.2⟩
      unfold zWd
      split
      · rw [show (zMarry Z (T.2.2 5 k) (T.2.2 6 k)).2 0 0 = Z.2 0 0 ||| 2 ^ (T.2.2 5 k) ||| 2 ^ (T.2.2 6 k) from by simp [zMarry, zuk]]
        obtain ⟨o1, o2⟩ := ok.2.2.2.2.2.2.2.2.2 k hk
        exact Nat.or_lt_two_pow (Nat.or_lt_two_pow h.1 (Nat.pow_lt_pow_right (by decide) o1)) (Nat.pow_lt_pow_right (by decide) o2)
      · rw [show (zRef Z).2 0 0 = Z.2 0 0 from by simp [zRef, zui]]; exact h.1
    · exact h
  · intro m Z h
    refine zB_k h ?_ zKp_wear
    unfold zWear
    split
    · rfl
    · split
      · rfl
      · simp [zCorn, zui]
  · intro Z h
    have e : (zDamp T way Z).2.2 = Z.2 ∧ ∀ m, (zDamp T way Z).2.1 4 m = Z.1 4 m := by
      unfold zDamp
      split
      · exact ⟨rfl, fun _ => rfl⟩
      · split
        · exact ⟨rfl, fun _ => rfl⟩
        · split
          · exact ⟨rfl, fun m => by simp [zui]⟩
          · exact ⟨rfl, fun _ => rfl⟩
    exact ⟨by rw [e.1]; exact h.1, fun m hm => by rw [e.2]; exact h.2 m hm⟩
  · intro Z h
    exact zB_k h rfl zKp_swell
  · intro k w Z h
    exact zB_k h (by simp [zSet]) zKp_set
  · intro Z h
    exact zB_k h rfl (zKp_of (by simp [zY5, zui]) (fun m => by simp [zY5, zui]))
theorem jbc_wed : ∀ n, n ≤ 8 → ∀ k, k < 2 ^ n → jbc (nI k) = lp (fun m a => a + (if k.testBit m then (1 : Int32) else 0)) 0 n 0 := by decide +kernel
section qC
variable {l : Launch} {d : Nat} {D : Nat → Bool} {T : zT} {W : Nat → zL} {Z : zS} {t : Nat} {x : aS}
set_option maxHeartbeats 4000000 in
set_option maxRecDepth 100000 in
theorem c_J6_bitCount {a : Int32} : aDI l mJ6_bitCount_0f7a4 d D [.int a] x (jbc a) x := by
  refine a_metI (by decide) (Nat.le_of_ble_eq_true rfl) rfl ?_
  refine a_iload_n (i := 0) dJ6_bitCount_0f7a4_0 rfl rfl ?_
  refine a_iload_n (i := 0) dJ6_bitCount_0f7a4_1 rfl rfl ?_
  refine a_iconst (v := 1) dJ6_bitCount_0f7a4_2 (by decide) ?_
  refine a_iushr dJ6_bitCount_0f7a4_3 ?_
  refine a_ldcw (v := 1431655765) dJ6_bitCount_0f7a4_4 (oJ6_265 rfl) ?_
  refine a_iand dJ6_bitCount_0f7a4_7 ?_
  refine a_isub dJ6_bitCount_0f7a4_8 ?_
  refine a_istore_n (i := 0) dJ6_bitCount_0f7a4_9 rfl (by decide) ?_
  refine a_loc [(0, .int (jb1 a))] rfl ?_
  refine a_iload_n (i := 0) dJ6_bitCount_0f7a4_10 rfl rfl ?_
  refine a_ldcw (v := 858993459) dJ6_bitCount_0f7a4_11 (oJ6_266 rfl) ?_
  refine a_iand dJ6_bitCount_0f7a4_14 ?_
  refine a_iload_n (i := 0) dJ6_bitCount_0f7a4_15 rfl rfl ?_
  refine a_iconst (v := 2) dJ6_bitCount_0f7a4_16 (by decide) ?_
  refine a_iushr dJ6_bitCount_0f7a4_17 ?_
  refine a_ldcw (v := 858993459) dJ6_bitCount_0f7a4_18 (oJ6_266 rfl) ?_
  refine a_iand dJ6_bitCount_0f7a4_21 ?_
  refine a_iadd dJ6_bitCount_0f7a4_22 ?_
  refine a_istore_n (i := 0) dJ6_bitCount_0f7a4_23 rfl (by decide) ?_
  refine a_loc [(0, .int (jb2 (jb1 a)))] rfl ?_
  refine a_iload_n (i := 0) dJ6_bitCount_0f7a4_24 rfl rfl ?_
  refine a_iload_n (i := 0) dJ6_bitCount_0f7a4_25 rfl rfl ?_
  refine a_iconst (v := 4) dJ6_bitCount_0f7a4_26 (by decide) ?_
  refine a_iushr dJ6_bitCount_0f7a4_27 ?_
  refine a_iadd dJ6_bitCount_0f7a4_28 ?_
  refine a_ldcw (v := 252645135) dJ6_bitCount_0f7a4_29 (oJ6_267 rfl) ?_
  refine a_iand dJ6_bitCount_0f7a4_32 ?_
  refine a_istore_n (i := 0) dJ6_bitCount_0f7a4_33 rfl (by decide) ?_
  refine a_loc [(0, .int (jb3 (jb2 (jb1 a))))] rfl ?_
  refine a_iload_n (i := 0) dJ6_bitCount_0f7a4_34 rfl rfl ?_
  refine a_iload_n (i := 0) dJ6_bitCount_0f7a4_35 rfl rfl ?_
  refine a_bipush (v := 8) dJ6_bitCount_0f7a4_36 (by decide) ?_
  refine a_iushr dJ6_bitCount_0f7a4_38 ?_
  refine a_iadd dJ6_bitCount_0f7a4_39 ?_
  refine a_istore_n (i := 0) dJ6_bitCount_0f7a4_40 rfl (by decide) ?_
  refine a_loc [(0, .int (jb4 (jb3 (jb2 (jb1 a)))))] rfl ?_
  refine a_iload_n (i := 0) dJ6_bitCount_0f7a4_41 rfl rfl ?_
  refine a_iload_n (i := 0) dJ6_bitCount_0f7a4_42 rfl rfl ?_
  refine a_bipush (v := 16) dJ6_bitCount_0f7a4_43 (by decide) ?_
  refine a_iushr dJ6_bitCount_0f7a4_45 ?_
  refine a_iadd dJ6_bitCount_0f7a4_46 ?_
  refine a_istore_n (i := 0) dJ6_bitCount_0f7a4_47 rfl (by decide) ?_
  refine a_loc [(0, .int (jb5 (jb4 (jb3 (jb2 (jb1 a))))))] rfl ?_
  refine a_iload_n (i := 0) dJ6_bitCount_0f7a4_48 rfl rfl ?_
  refine a_bipush (v := 63) dJ6_bitCount_0f7a4_49 (by decide) ?_
  refine a_iand dJ6_bitCount_0f7a4_51 ?_
  exact a_iret dJ6_bitCount_0f7a4_52 (by exact ⟨rfl, rfl⟩)
theorem jbc_z (ok : zTok T) (hB : zB T Z) : jbc (nI (Z.2 0 0)) = zWeds0 T Z := jbc_wed (T.1 1) ok.2.1 (Z.2 0 0) hB.1
set_option maxHeartbeats 4000000 in
set_option maxRecDepth 100000 in
theorem c_X10_folkLawOf {b m q : Nat} (hD : aDC D) (hb : aStB b) (ht : aTdB t) (ok : zTok T) (hZ : zOk T Z) (hT : rT T x t) (hW : rW W x t) (hS : rS T Z x b) (hm : m < T.1 1) (hq : q = 1 ∨ q = 2) : aCt l mX10_folkLawOf (d + 2) D [.ref bYr, .ref t, .ref b, .int (nI m), .ref (t + (130 + q))] x (fun v y => v = some (.long (vWorth (W q) (zNmM T Z m))) ∧ aSq x y) := by
  have h8 := ok.2.1
  have h06 := ok.1
  have g1 := hZ.2.2 m hm
  obtain ⟨m0, m1, m2, m3, m4⟩ := hT.2.2.2.2.2.2.2.2.2.2.1 m hm
  have z8 := (ok.2.2.2.2.2.2.2.1 m hm).2
  obtain ⟨f1, f2, f3⟩ := hS.2.2.2 m hm
  have hp : aDI l mX6_pinchOf (d + 1) D [.ref b, .ref t, .int (nI m)] x (zPinch T Z m) x := cz_pinchOf hD hb ht ok hZ hT hS hm
  obtain ⟨X, hX⟩ : ∃ X, X = sNm x 0 (nI (T.2.2 1 m)) (sLast x b (Z.2 3 m) (T.2.2 1 m)) (zPinch T Z m) (x.1 (b + 12) m) (x.1 (b + 7) (Z.2 3 m)) (x.1 b 0) := ⟨_, rfl⟩
  have hX1 : ∀ n, n ≠ bYr + 1 → X.1 n = x.1 n := fun n hn => by rw [hX]; exact sNm_n hn
  have hnm : ∀ j, j < 7 → X.1 (bYr + 1) j = zNmM T Z m j := by
    rw [hX]
    refine sNm_at rfl rfl ?_ rfl ?_ ?_ ?_
    · rw [sLast_z hS g1 z8]; rfl
    · rw [f3]; rfl
    · rw [(hS.2.2.1 _ g1).2.1]; rfl
    · rw [hS.1 0 (by decide)]; rfl
  have hnc := c_X10_nameMan (l := l) (d := d) (D := D) (p := zPinch T Z m) hD hb ht (show m < 8 by omega) m3 z8 f1 (show Z.2 3 m < 6 by omega)
  rw [← hX] at hnc
  have hXs : ∀ row, aSq x (aRw X (bYr + 2) row) := fun row => by rw [hX]; exact aSq_nm
  have K : ∀ q, q < 3 → aIs D (t + (130 + q)) 2 0 → aIs D (t + (130 + q) + 10) 14 64 → aIs D (t + (130 + q) + 20) 14 64 → aCt l mX10_folkLawOf (d + 2) D [.ref bYr, .ref t, .ref b, .int (nI m), .ref (t + (130 + q))] x (fun v y => v = some (.long (vWorth (W q) (zNmM T Z m))) ∧ aSq x y) := by
    intro q hq i0 i1 i2
    obtain ⟨v1, v2, v3⟩ := hW q hq
    have hs1 : X.1 (t + (130 + q)) 1 = nI (W q).1 := by rw [hX1 _ (yt_ne ht (by omega))]; exact v1
    have hv : wWorth X (t + (130 + q)) (W q).1 = vWorth (W q) (zNmM T Z m) := vWorth_of (x := X) (fun j hj => by rw [hX1 _ (by rw [Nat.add_assoc]; exact yt_ne ht (by omega)), hX1 _ (by rw [Nat.add_assoc]; exact yt_ne ht (by omega))]; exact v3 j hj) hnm
    have hwc := c_X2_worth (l := l) (d := d) (D := D) (x := X) hD i0 i1 i2 hs1 v2
    rw [hv] at hwc
    refine a_met (by decide) (Nat.le_of_ble_eq_true rfl) (fun v y q => Or.inr (Or.inr (Or.inl ⟨rfl, _, q.1⟩))) ?_
    refine a_aload_n (i := 0) dX10_folkLawOf_0 rfl rfl ?_
    refine a_aload_n (i := 1) dX10_folkLawOf_1 rfl rfl ?_
    refine a_aload_n (i := 2) dX10_folkLawOf_2 rfl rfl ?_
    refine a_iload_n (i := 3) dX10_folkLawOf_3 rfl rfl ?_
    refine a_aload_n (i := 2) dX10_folkLawOf_4 rfl rfl ?_
    refine a_aload_n (i := 1) dX10_folkLawOf_5 rfl rfl ?_
    refine a_iload_n (i := 3) dX10_folkLawOf_6 rfl rfl ?_
    refine kX10_114 rfl dX10_folkLawOf_7 (Nat.le_of_ble_eq_true rfl) (isS_0 hD hb) (hp) ?_
    refine kX10_118 rfl dX10_folkLawOf_10 (Nat.le_of_ble_eq_true rfl) (isYr_0 hD) (hnc) ?_
    refine a_aload (i := 4) dX10_folkLawOf_13 rfl ?_
    refine a_aload_n (i := 0) dX10_folkLawOf_15 rfl rfl ?_
    refine gX10_9 rfl dX10_folkLawOf_16 (isYr_0 hD) ?_
    refine a_aload_n (i := 0) dX10_folkLawOf_19 rfl rfl ?_
    refine gX10_15 rfl dX10_folkLawOf_20 (isYr_0 hD) ?_
    refine kgX10_125 rfl dX10_folkLawOf_23 (Nat.le_of_ble_eq_true rfl) (by exact i0) (hwc) ?_
    rintro v y ⟨rfl, row, rfl⟩
    exact a_lret dX10_folkLawOf_26 (by exact ⟨rfl, hXs row⟩)
  rcases hq with rfl | rfl
  · exact K 1 (by decide) (isW_1 hD ht) (isW10_1 hD ht) (isW20_1 hD ht)
  · exact K 2 (by decide) (isW_2 hD ht) (isW10_2 hD ht) (isW20_2 hD ht)
def qLaw (T : zT) (W : Nat → zL) (Z : zS) (a i : Int32) : Int64 := if a = 0 then (if zIn (T.1 2) i then vWorth (W 0) (zNmD T Z i.toNatClampNeg) else wErr) else if a = 1 then (if zIn (T.1 1) i then vWorth (W 1) (zNmM T Z i.toNatClampNeg) else wErr) else if a = 2 then (if zIn (T.1 1) i then vWorth (W 2) (zNmM T Z i.toNatClampNeg) else wErr) else wErr
set_option maxHeartbeats 4000000 in
set_option maxRecDepth 100000 in
theorem c_X11_law {a i : Int32} (hD : aDC D) (h : cR T W Z x t) : aCt l mX11_law (d + 3) D [.ref bLH, .int a, .int i] x (fun v y => v = some (.long (qLaw T W Z a i)) ∧ cF x y) := by
  obtain ⟨ht, hp, ok, hZ, hT, hW, hS⟩ := h
  have h14 := ok.2.2.1
  have h8 := ok.2.1
  have e0 : x.1 t 10 = nI (T.1 2) := hT.2.2.1
  refine a_met (by decide) (Nat.le_of_ble_eq_true rfl) (fun v y q => Or.inr (Or.inr (Or.inl ⟨rfl, _, q.1⟩))) ?_
  unfold qLaw
  by_cases a0 : a = 0
  · rw [if_pos a0]
    subst a0
    by_cases q : zIn (T.1 2) i
    · rw [if_pos q]
      obtain ⟨k, hk, rfl⟩ := zIn_of (by omega) q
      rw [nI_clamp (by omega)]
      refine a_iload_n (i := 1) dX11_law_0 rfl rfl ?_
      refine sX11_law_1 dX11_law_1 (fun s_1 => ?_) (fun s_1 => ?_) (fun s_1 => ?_) (fun s_1_0 s_1_1 s_1_2 => ?_)
      · refine a_iload_n (i := 2) dX11_law_28 rfl rfl ?_
        refine a_if_lt (tg := 43) dX11_law_29 (by decide) (fun c_29 => ?_) (fun c_29 => ?_)
        · exact absurd q.1 (Int32.not_le.mpr c_29)
        · refine a_iload_n (i := 2) dX11_law_32 rfl rfl ?_
          refine a_aload_n (i := 0) dX11_law_33 rfl rfl ?_
          refine gX11_23 rfl dX11_law_34 (isLH_0 hD) ?_
          rw [hp]
          refine gX11_186 rfl dX11_law_37 (isT_0 hD ht) ?_
          rw [e0]
          refine a_icmp_lt (tg := 49) dX11_law_40 (by decide) (fun c_40 => ?_) (fun c_40 => ?_)
          · refine a_aload_n (i := 0) dX11_law_49 rfl rfl ?_
            refine gX11_43 rfl dX11_law_50 (isLH_0 hD) ?_
            refine a_aload_n (i := 0) dX11_law_53 rfl rfl ?_
            refine gX11_23 rfl dX11_law_54 (isLH_0 hD) ?_
            rw [hp]
            refine a_aload_n (i := 0) dX11_law_57 rfl rfl ?_
            refine gX11_30 rfl dX11_law_58 (isLH_0 hD) ?_
            refine a_iload_n (i := 2) dX11_law_61 rfl rfl ?_
            refine kgX11_191 rfl dX11_law_62 (Nat.le_of_ble_eq_true rfl) (isYr_0 hD) (c_X10_thickOf hD hbNow ht ok hZ hT hW hS hk) ?_
            rintro v y ⟨rfl, hF⟩
            exact a_lret dX11_law_65 (by exact ⟨rfl, cF_sq hF⟩)
          · exact absurd q.2 c_40
      · exact absurd s_1 (by decide)
      · exact absurd s_1 (by decide)
      · exact absurd rfl s_1_0
    · rw [if_neg q]
      refine a_iload_n (i := 1) dX11_law_0 rfl rfl ?_
      refine sX11_law_1 dX11_law_1 (fun s_1 => ?_) (fun s_1 => ?_) (fun s_1 => ?_) (fun s_1_0 s_1_1 s_1_2 => ?_)
      · refine a_iload_n (i := 2) dX11_law_28 rfl rfl ?_
        refine a_if_lt (tg := 43) dX11_law_29 (by decide) (fun c_29 => ?_) (fun c_29 => ?_)
        · refine a_ldc2 (v := (-9223372036854775808)) dX11_law_43 (oX11_189 rfl) ?_
          refine a_goto (tg := 65) dX11_law_46 (by decide) ?_
          exact a_lret dX11_law_65 (by exact ⟨rfl, cF_r⟩)
        · refine a_iload_n (i := 2) dX11_law_32 rfl rfl ?_
          refine a_aload_n (i := 0) dX11_law_33 rfl rfl ?_
          refine gX11_23 rfl dX11_law_34 (isLH_0 hD) ?_
          rw [hp]
          refine gX11_186 rfl dX11_law_37 (isT_0 hD ht) ?_
          rw [e0]
          refine a_icmp_lt (tg := 49) dX11_law_40 (by decide) (fun c_40 => ?_) (fun c_40 => ?_)
          · exact absurd ⟨Int32.not_lt.mp c_29, c_40⟩ q
          · refine a_ldc2 (v := (-9223372036854775808)) dX11_law_43 (oX11_189 rfl) ?_
            refine a_goto (tg := 65) dX11_law_46 (by decide) ?_
            exact a_lret dX11_law_65 (by exact ⟨rfl, cF_r⟩)
      · exact absurd s_1 (by decide)
      · exact absurd s_1 (by decide)
      · exact absurd rfl s_1_0
  · rw [if_neg a0]
    by_cases q : zIn (T.1 1) i
    · rw [if_pos q, if_pos q]
      obtain ⟨k, hk, rfl⟩ := zIn_of (by omega) q
      rw [nI_clamp (by omega)]
      refine a_iload_n (i := 1) dX11_law_0 rfl rfl ?_
      refine sX11_law_1 dX11_law_1 (fun s_1 => ?_) (fun s_1 => ?_) (fun s_1 => ?_) (fun s_1_0 s_1_1 s_1_2 => ?_)
      · exact absurd s_1 a0
      · rw [if_pos s_1]
        refine a_aload_n (i := 0) dX11_law_66 rfl rfl ?_
        refine a_iload_n (i := 2) dX11_law_67 rfl rfl ?_
        refine kX11_125 rfl dX11_law_68 (Nat.le_of_ble_eq_true rfl) (isLH_0 hD) (c_X11_isMan hD ht hp hT) ?_
        refine a_if_ne (tg := 80) dX11_law_71 (by decide) (fun c_71 => ?_) (fun c_71 => ?_)
        · refine a_aload_n (i := 0) dX11_law_80 rfl rfl ?_
          refine gX11_43 rfl dX11_law_81 (isLH_0 hD) ?_
          refine a_aload_n (i := 0) dX11_law_84 rfl rfl ?_
          refine gX11_23 rfl dX11_law_85 (isLH_0 hD) ?_
          rw [hp]
          refine a_aload_n (i := 0) dX11_law_88 rfl rfl ?_
          refine gX11_30 rfl dX11_law_89 (isLH_0 hD) ?_
          refine a_iload_n (i := 2) dX11_law_92 rfl rfl ?_
          refine a_aload_n (i := 0) dX11_law_93 rfl rfl ?_
          refine gX11_23 rfl dX11_law_94 (isLH_0 hD) ?_
          rw [hp]
          refine gX11_195 rfl dX11_law_97 (isT_0 hD ht) ?_
          refine kgX11_199 rfl dX11_law_100 (Nat.le_of_ble_eq_true rfl) (isYr_0 hD) (c_X10_folkLawOf (q := 1) hD hbNow ht ok hZ hT hW hS hk (Or.inl rfl)) ?_
          rintro v y ⟨rfl, hF⟩
          exact a_lret dX11_law_103 (by exact ⟨rfl, cF_sq hF⟩)
        · exact absurd c_71 (bI_p.mpr q)
      · rw [if_neg (by rw [s_1]; decide), if_pos s_1]
        refine a_aload_n (i := 0) dX11_law_104 rfl rfl ?_
        refine a_iload_n (i := 2) dX11_law_105 rfl rfl ?_
        refine kX11_125 rfl dX11_law_106 (Nat.le_of_ble_eq_true rfl) (isLH_0 hD) (c_X11_isMan hD ht hp hT) ?_
        refine a_if_ne (tg := 118) dX11_law_109 (by decide) (fun c_109 => ?_) (fun c_109 => ?_)
        · refine a_aload_n (i := 0) dX11_law_118 rfl rfl ?_
          refine gX11_43 rfl dX11_law_119 (isLH_0 hD) ?_
          refine a_aload_n (i := 0) dX11_law_122 rfl rfl ?_
          refine gX11_23 rfl dX11_law_123 (isLH_0 hD) ?_
          rw [hp]
          refine a_aload_n (i := 0) dX11_law_126 rfl rfl ?_
          refine gX11_30 rfl dX11_law_127 (isLH_0 hD) ?_
          refine a_iload_n (i := 2) dX11_law_130 rfl rfl ?_
          refine a_aload_n (i := 0) dX11_law_131 rfl rfl ?_
          refine gX11_23 rfl dX11_law_132 (isLH_0 hD) ?_
          rw [hp]
          refine gX11_203 rfl dX11_law_135 (isT_0 hD ht) ?_
          refine kgX11_199 rfl dX11_law_138 (Nat.le_of_ble_eq_true rfl) (isYr_0 hD) (c_X10_folkLawOf (q := 2) hD hbNow ht ok hZ hT hW hS hk (Or.inr rfl)) ?_
          rintro v y ⟨rfl, hF⟩
          exact a_lret dX11_law_141 (by exact ⟨rfl, cF_sq hF⟩)
        · exact absurd c_109 (bI_p.mpr q)
      · rw [if_neg s_1_1, if_neg s_1_2]
        refine a_ldc2 (v := (-9223372036854775808)) dX11_law_142 (oX11_189 rfl) ?_
        exact a_lret dX11_law_145 (by exact ⟨rfl, cF_r⟩)
    · rw [if_neg q, if_neg q, ite_self, ite_self]
      refine a_iload_n (i := 1) dX11_law_0 rfl rfl ?_
      refine sX11_law_1 dX11_law_1 (fun s_1 => ?_) (fun s_1 => ?_) (fun s_1 => ?_) (fun s_1_0 s_1_1 s_1_2 => ?_)
      · exact absurd s_1 a0
      · refine a_aload_n (i := 0) dX11_law_66 rfl rfl ?_
        refine a_iload_n (i := 2) dX11_law_67 rfl rfl ?_
        refine kX11_125 rfl dX11_law_68 (Nat.le_of_ble_eq_true rfl) (isLH_0 hD) (c_X11_isMan hD ht hp hT) ?_
        refine a_if_ne (tg := 80) dX11_law_71 (by decide) (fun c_71 => ?_) (fun c_71 => ?_)
        · exact absurd (bI_p.mp c_71) q
        · refine a_ldc2 (v := (-9223372036854775808)) dX11_law_74 (oX11_189 rfl) ?_
          refine a_goto (tg := 103) dX11_law_77 (by decide) ?_
          exact a_lret dX11_law_103 (by exact ⟨rfl, cF_r⟩)
      · refine a_aload_n (i := 0) dX11_law_104 rfl rfl ?_
        refine a_iload_n (i := 2) dX11_law_105 rfl rfl ?_
        refine kX11_125 rfl dX11_law_106 (Nat.le_of_ble_eq_true rfl) (isLH_0 hD) (c_X11_isMan hD ht hp hT) ?_
        refine a_if_ne (tg := 118) dX11_law_109 (by decide) (fun c_109 => ?_) (fun c_109 => ?_)
        · exact absurd (bI_p.mp c_109) q
        · refine a_ldc2 (v := (-9223372036854775808)) dX11_law_112 (oX11_189 rfl) ?_
          refine a_goto (tg := 141) dX11_law_115 (by decide) ?_
          exact a_lret dX11_law_141 (by exact ⟨rfl, cF_r⟩)
      · refine a_ldc2 (v := (-9223372036854775808)) dX11_law_142 (oX11_189 rfl) ?_
        exact a_lret dX11_law_145 (by exact ⟨rfl, cF_r⟩)
theorem mF_nm {a0 a1 a2 a3 a4 a5 a6 : Int64} : mF x (mNm x a0 a1 a2 a3 a4 a5 a6) := mF_1 rfl (fun n h _ => mNm_n h)
theorem vWorth_0 {L : zL} {nm : Nat → Int32} (h : ¬ 0 < L.1) : vWorth L nm = wErr := by
  have e0 : L.1 = 0 := by omega
  unfold vWorth
  rw [e0]
  rfl
set_option maxHeartbeats 4000000 in
set_option maxRecDepth 100000 in
theorem c_X12_law {a i : Int32} (hM : D 12 = true) (h : mR T W Z x) : aCt l mX12_law (d + 5) D [.ref bM, .int a, .int i] x (fun v y => v = some (.long (qLaw T W Z a i)) ∧ mF x y) := by
  obtain ⟨ok, hZ, hT, hW, hS⟩ := mR_0 h
  have hF0 : mF x (aWr x bM 2 0) := mF_0
  refine a_met (by decide) (Nat.le_of_ble_eq_true rfl) (fun v y q => Or.inr (Or.inr (Or.inl ⟨rfl, _, q.1⟩))) ?_
  refine a_aload_n (i := 0) dX12_law_0 rfl rfl ?_
  refine a_iconst (v := 0) dX12_law_1 (by decide) ?_
  refine pX12_175 rfl dX12_law_2 (isM_0 hM) ?_
  refine a_loc [(0, .ref bM), (1, .int a), (2, .int i)] rfl ?_
  generalize aWr x bM 2 0 = y at *
  have h14 := ok.2.2.1
  have h8 := ok.2.1
  have e0 : y.1 bM 14 = nI (T.1 2) := hT.2.2.1
  have K : ∀ (q : Nat) (nm : Nat → Int32) (X : aS), q < 3 → a = nI q → 0 < (W q).1 → X.1 = y.1 → mF x X → (∀ j, j < 7 → X.2 (bM + 57) j = (nm j).toInt64) → aV l mX12_law (d + 5) D none 77 [(0, .ref bM), (1, .int a)] [] X (fun v y => v = some (.long (vWorth (W q) nm)) ∧ mF x y) := by
    intro q nm X hq ha hp hX hFX hn
    subst ha
    have hWX : rWM W X := rWM_same (fun n _ _ => by rw [hX]) hW
    obtain ⟨f, P, O, g1, g2, g3⟩ := (hWX q hq).2 hp
    have hc := c_X12_lawOf (l := l) (d := d + 2) (D := D) (P := P) (O := O) (f := f) (s := (W q).1) hM hq g1 g2 hp g3.1 g3.2.1
    have hFr : mF x (mX X (mRun X P O f (W q).1).1 (mRun X P O f (W q).1).2) := mF_t hFX (mF_by mBy_x)
    have he : (mX X (mRun X P O f (W q).1).1 (mRun X P O f (W q).1).2).1 bM 58 = bI (mRun X P O f (W q).1).1 := aWr_s X bM 58 (bI (mRun X P O f (W q).1).1)
    rcases mRun_v g3 hn with ⟨k1, k2⟩ | ⟨k1, k2, k3⟩
    · have he := he.trans (show bI (mRun X P O f (W q).1).1 = 1 by rw [k1]; rfl)
      rw [k2]
      refine a_aload_n (i := 0) dX12_law_77 rfl rfl ?_
      refine a_iload_n (i := 1) dX12_law_78 rfl rfl ?_
      refine kX12_450 rfl dX12_law_79 (Nat.le_of_ble_eq_true rfl) (isM_0 hM) (hc) ?_
      refine a_lstore_n (i := 3) dX12_law_82 rfl (by decide) ?_
      refine a_aload_n (i := 0) dX12_law_83 rfl rfl ?_
      refine gX12_369 rfl dX12_law_84 (isM_0 hM) ?_
      rw [he]
      refine a_if_eq (tg := 96) dX12_law_87 (by decide) (fun c_87 => ?_) (fun c_87 => ?_)
      · exact absurd c_87 (by decide)
      · refine a_ldc2 (v := (-9223372036854775808)) dX12_law_90 (oX12_505 rfl) ?_
        refine a_goto (tg := 97) dX12_law_93 (by decide) ?_
        exact a_lret dX12_law_97 (by exact ⟨rfl, hFr⟩)
    · have he := he.trans (show bI (mRun X P O f (W q).1).1 = 0 by rw [k1]; rfl)
      have e1 : (if (mRun X P O f (W q).1).1 then (0 : Int64) else (mRun X P O f (W q).1).2 (f + (W q).1 - 1)) = vWorth (W q) nm := by rw [if_neg (by rw [k1]; decide), k2]
      rw [e1] at hc
      refine a_aload_n (i := 0) dX12_law_77 rfl rfl ?_
      refine a_iload_n (i := 1) dX12_law_78 rfl rfl ?_
      refine kX12_450 rfl dX12_law_79 (Nat.le_of_ble_eq_true rfl) (isM_0 hM) (hc) ?_
      refine a_lstore_n (i := 3) dX12_law_82 rfl (by decide) ?_
      refine a_aload_n (i := 0) dX12_law_83 rfl rfl ?_
      refine gX12_369 rfl dX12_law_84 (isM_0 hM) ?_
      rw [he]
      refine a_if_eq (tg := 96) dX12_law_87 (by decide) (fun c_87 => ?_) (fun c_87 => ?_)
      · refine a_lload_n (i := 3) dX12_law_96 rfl rfl ?_
        exact a_lret dX12_law_97 (by exact ⟨rfl, hFr⟩)
      · exact absurd rfl c_87
  by_cases ha : zIn 3 a
  · obtain ⟨q, hq, rfl⟩ := zIn_of (by decide) ha
    obtain ⟨w1, _⟩ := hW q hq
    by_cases hw : 0 < (W q).1
    · rw [decide_eq_true hw] at w1
      by_cases q0 : q = 0
      · subst q0
        have eq : qLaw T W Z (nI 0) i = (if zIn (T.1 2) i then vWorth (W 0) (zNmD T Z i.toNatClampNeg) else wErr) := by unfold qLaw; rw [if_pos (show nI 0 = 0 from rfl)]
        rw [eq]
        by_cases qi : zIn (T.1 2) i
        · rw [if_pos qi]
          obtain ⟨k, hk, rfl⟩ := zIn_of (by omega) qi
          rw [nI_clamp (by omega)]
          have hld := c_X12_layDeed (l := l) (d := d + 1) (D := D) (i := 0) hM (by decide) ok hZ hT hS hk
          refine a_iload_n (i := 1) dX12_law_5 rfl rfl ?_
          refine a_iconst (v := 0) dX12_law_6 (by decide) ?_
          refine a_iconst (v := 2) dX12_law_7 (by decide) ?_
          refine kX12_220 rfl dX12_law_8 (Nat.le_of_ble_eq_true rfl) (c_X12_isIn) ?_
          refine a_if_eq (tg := 23) dX12_law_11 (by decide) (fun c_11 => ?_) (fun c_11 => ?_)
          · exact absurd c_11 (bI_p.mpr (zIn3.mpr ha))
          · refine a_aload_n (i := 0) dX12_law_14 rfl rfl ?_
            refine gX12_75 rfl dX12_law_15 (isM_0 hM) ?_
            refine a_iload_n (i := 1) dX12_law_18 rfl rfl ?_
            refine a_zaldN dX12_law_19 (isM_43 hM) (by first | exact rfl | with_reducible exact rfl | with_reducible exact ix8 _ _ | with_reducible exact ix12 _ _ | exact rfl) (by omega) (by decide) ?_
            rw [w1]
            refine a_if_ne (tg := 27) dX12_law_20 (by decide) (fun c_20 => ?_) (fun c_20 => ?_)
            · refine a_iload_n (i := 1) dX12_law_27 rfl rfl ?_
              refine a_if_ne (tg := 46) dX12_law_28 (by decide) (fun c_28 => ?_) (fun c_28 => ?_)
              · exact absurd rfl c_28
              · refine a_iload_n (i := 2) dX12_law_31 rfl rfl ?_
                refine a_if_lt (tg := 54) dX12_law_32 (by decide) (fun c_32 => ?_) (fun c_32 => ?_)
                · exact absurd qi.1 (Int32.not_le.mpr c_32)
                · refine a_iload_n (i := 2) dX12_law_35 rfl rfl ?_
                  refine a_aload_n (i := 0) dX12_law_36 rfl rfl ?_
                  refine gX12_264 rfl dX12_law_37 (isM_0 hM) ?_
                  rw [e0]
                  refine a_icmp_lt (tg := 58) dX12_law_40 (by decide) (fun c_40 => ?_) (fun c_40 => ?_)
                  · refine a_iload_n (i := 1) dX12_law_58 rfl rfl ?_
                    refine a_if_ne (tg := 71) dX12_law_59 (by decide) (fun c_59 => ?_) (fun c_59 => ?_)
                    · exact absurd rfl c_59
                    · refine a_aload_n (i := 0) dX12_law_62 rfl rfl ?_
                      refine a_iconst (v := 0) dX12_law_63 (by decide) ?_
                      refine a_iload_n (i := 2) dX12_law_64 rfl rfl ?_
                      refine kX12_453 rfl dX12_law_65 (Nat.le_of_ble_eq_true rfl) (isM_0 hM) (hld) ?_
                      refine a_goto (tg := 77) dX12_law_68 (by decide) ?_
                      exact a_loc _ rfl (K 0 _ _ (by decide) rfl hw rfl (mF_t hF0 mF_nm) (mNm_at rfl rfl rfl rfl rfl rfl rfl))
                  · exact absurd qi.2 c_40
            · exact absurd c_20 (by decide)
        · rw [if_neg qi]
          refine a_iload_n (i := 1) dX12_law_5 rfl rfl ?_
          refine a_iconst (v := 0) dX12_law_6 (by decide) ?_
          refine a_iconst (v := 2) dX12_law_7 (by decide) ?_
          refine kX12_220 rfl dX12_law_8 (Nat.le_of_ble_eq_true rfl) (c_X12_isIn) ?_
          refine a_if_eq (tg := 23) dX12_law_11 (by decide) (fun c_11 => ?_) (fun c_11 => ?_)
          · exact absurd c_11 (bI_p.mpr (zIn3.mpr ha))
          · refine a_aload_n (i := 0) dX12_law_14 rfl rfl ?_
            refine gX12_75 rfl dX12_law_15 (isM_0 hM) ?_
            refine a_iload_n (i := 1) dX12_law_18 rfl rfl ?_
            refine a_zaldN dX12_law_19 (isM_43 hM) (by first | exact rfl | with_reducible exact rfl | with_reducible exact ix8 _ _ | with_reducible exact ix12 _ _ | exact rfl) (by omega) (by decide) ?_
            rw [w1]
            refine a_if_ne (tg := 27) dX12_law_20 (by decide) (fun c_20 => ?_) (fun c_20 => ?_)
            · refine a_iload_n (i := 1) dX12_law_27 rfl rfl ?_
              refine a_if_ne (tg := 46) dX12_law_28 (by decide) (fun c_28 => ?_) (fun c_28 => ?_)
              · exact absurd rfl c_28
              · refine a_iload_n (i := 2) dX12_law_31 rfl rfl ?_
                refine a_if_lt (tg := 54) dX12_law_32 (by decide) (fun c_32 => ?_) (fun c_32 => ?_)
                · refine a_ldc2 (v := (-9223372036854775808)) dX12_law_54 (oX12_505 rfl) ?_
                  exact a_lret dX12_law_57 (by exact ⟨rfl, hF0⟩)
                · refine a_iload_n (i := 2) dX12_law_35 rfl rfl ?_
                  refine a_aload_n (i := 0) dX12_law_36 rfl rfl ?_
                  refine gX12_264 rfl dX12_law_37 (isM_0 hM) ?_
                  rw [e0]
                  refine a_icmp_lt (tg := 58) dX12_law_40 (by decide) (fun c_40 => ?_) (fun c_40 => ?_)
                  · exact absurd ⟨Int32.not_lt.mp c_32, c_40⟩ qi
                  · refine a_goto (tg := 54) dX12_law_43 (by decide) ?_
                    refine a_ldc2 (v := (-9223372036854775808)) dX12_law_54 (oX12_505 rfl) ?_
                    exact a_lret dX12_law_57 (by exact ⟨rfl, hF0⟩)
            · exact absurd c_20 (by decide)
      · have n0 : ¬ nI q = 0 := nI_ne0 (by omega) (by omega)
        have eq : qLaw T W Z (nI q) i = (if zIn (T.1 1) i then vWorth (W q) (zNmM T Z i.toNatClampNeg) else wErr) := by
          unfold qLaw
          rw [if_neg n0]
          have : q = 1 ∨ q = 2 := by omega
          rcases this with rfl | rfl
          · rw [if_pos (show nI 1 = 1 from rfl)]
          · rw [if_neg (show ¬ nI 2 = 1 by decide), if_pos (show nI 2 = 2 from rfl)]
        rw [eq]
        by_cases qi : zIn (T.1 1) i
        · rw [if_pos qi]
          obtain ⟨k, hk, rfl⟩ := zIn_of (by omega) qi
          rw [nI_clamp (by omega)]
          have hld := c_X12_layMan (l := l) (d := d) (D := D) (i := 0) hM (by decide) ok hZ hT hS hk
          refine a_iload_n (i := 1) dX12_law_5 rfl rfl ?_
          refine a_iconst (v := 0) dX12_law_6 (by decide) ?_
          refine a_iconst (v := 2) dX12_law_7 (by decide) ?_
          refine kX12_220 rfl dX12_law_8 (Nat.le_of_ble_eq_true rfl) (c_X12_isIn) ?_
          refine a_if_eq (tg := 23) dX12_law_11 (by decide) (fun c_11 => ?_) (fun c_11 => ?_)
          · exact absurd c_11 (bI_p.mpr (zIn3.mpr ha))
          · refine a_aload_n (i := 0) dX12_law_14 rfl rfl ?_
            refine gX12_75 rfl dX12_law_15 (isM_0 hM) ?_
            refine a_iload_n (i := 1) dX12_law_18 rfl rfl ?_
            refine a_zaldN dX12_law_19 (isM_43 hM) (by first | exact rfl | with_reducible exact rfl | with_reducible exact ix8 _ _ | with_reducible exact ix12 _ _ | exact rfl) (by omega) (by decide) ?_
            rw [w1]
            refine a_if_ne (tg := 27) dX12_law_20 (by decide) (fun c_20 => ?_) (fun c_20 => ?_)
            · refine a_iload_n (i := 1) dX12_law_27 rfl rfl ?_
              refine a_if_ne (tg := 46) dX12_law_28 (by decide) (fun c_28 => ?_) (fun c_28 => ?_)
              · refine a_aload_n (i := 0) dX12_law_46 rfl rfl ?_
                refine a_iload_n (i := 2) dX12_law_47 rfl rfl ?_
                refine kX12_492 rfl dX12_law_48 (Nat.le_of_ble_eq_true rfl) (isM_0 hM) (c_X12_isMan hM hT) ?_
                refine a_if_ne (tg := 58) dX12_law_51 (by decide) (fun c_51 => ?_) (fun c_51 => ?_)
                · refine a_iload_n (i := 1) dX12_law_58 rfl rfl ?_
                  refine a_if_ne (tg := 71) dX12_law_59 (by decide) (fun c_59 => ?_) (fun c_59 => ?_)
                  · refine a_aload_n (i := 0) dX12_law_71 rfl rfl ?_
                    refine a_iconst (v := 0) dX12_law_72 (by decide) ?_
                    refine a_iload_n (i := 2) dX12_law_73 rfl rfl ?_
                    refine kX12_463 rfl dX12_law_74 (Nat.le_of_ble_eq_true rfl) (isM_0 hM) (hld) ?_
                    exact a_loc _ rfl (K q _ _ hq rfl hw rfl (mF_t hF0 mF_nm) (mNm_at rfl rfl rfl rfl rfl rfl rfl))
                  · exact absurd c_59 n0
                · exact absurd c_51 (bI_p.mpr qi)
              · exact absurd c_28 n0
            · exact absurd c_20 (by decide)
        · rw [if_neg qi]
          refine a_iload_n (i := 1) dX12_law_5 rfl rfl ?_
          refine a_iconst (v := 0) dX12_law_6 (by decide) ?_
          refine a_iconst (v := 2) dX12_law_7 (by decide) ?_
          refine kX12_220 rfl dX12_law_8 (Nat.le_of_ble_eq_true rfl) (c_X12_isIn) ?_
          refine a_if_eq (tg := 23) dX12_law_11 (by decide) (fun c_11 => ?_) (fun c_11 => ?_)
          · exact absurd c_11 (bI_p.mpr (zIn3.mpr ha))
          · refine a_aload_n (i := 0) dX12_law_14 rfl rfl ?_
            refine gX12_75 rfl dX12_law_15 (isM_0 hM) ?_
            refine a_iload_n (i := 1) dX12_law_18 rfl rfl ?_
            refine a_zaldN dX12_law_19 (isM_43 hM) (by first | exact rfl | with_reducible exact rfl | with_reducible exact ix8 _ _ | with_reducible exact ix12 _ _ | exact rfl) (by omega) (by decide) ?_
            rw [w1]
            refine a_if_ne (tg := 27) dX12_law_20 (by decide) (fun c_20 => ?_) (fun c_20 => ?_)
            · refine a_iload_n (i := 1) dX12_law_27 rfl rfl ?_
              refine a_if_ne (tg := 46) dX12_law_28 (by decide) (fun c_28 => ?_) (fun c_28 => ?_)
              · refine a_aload_n (i := 0) dX12_law_46 rfl rfl ?_
                refine a_iload_n (i := 2) dX12_law_47 rfl rfl ?_
                refine kX12_492 rfl dX12_law_48 (Nat.le_of_ble_eq_true rfl) (isM_0 hM) (c_X12_isMan hM hT) ?_
                refine a_if_ne (tg := 58) dX12_law_51 (by decide) (fun c_51 => ?_) (fun c_51 => ?_)
                · exact absurd (bI_p.mp c_51) qi
                · refine a_ldc2 (v := (-9223372036854775808)) dX12_law_54 (oX12_505 rfl) ?_
                  exact a_lret dX12_law_57 (by exact ⟨rfl, hF0⟩)
              · exact absurd c_28 n0
            · exact absurd c_20 (by decide)
    · rw [decide_eq_false hw] at w1
      have eq : qLaw T W Z (nI q) i = wErr := by
        unfold qLaw
        have : q = 0 ∨ q = 1 ∨ q = 2 := by omega
        rcases this with rfl | rfl | rfl
        · rw [if_pos (show nI 0 = 0 from rfl), vWorth_0 hw, ite_self]
        · rw [if_neg (show ¬ nI 1 = 0 by decide), if_pos (show nI 1 = 1 from rfl), vWorth_0 hw, ite_self]
        · rw [if_neg (show ¬ nI 2 = 0 by decide), if_neg (show ¬ nI 2 = 1 by decide), if_pos (show nI 2 = 2 from rfl), vWorth_0 hw, ite_self]
      rw [eq]
      refine a_iload_n (i := 1) dX12_law_5 rfl rfl ?_
      refine a_iconst (v := 0) dX12_law_6 (by decide) ?_
      refine a_iconst (v := 2) dX12_law_7 (by decide) ?_
      refine kX12_220 rfl dX12_law_8 (Nat.le_of_ble_eq_true rfl) (c_X12_isIn) ?_
      refine a_if_eq (tg := 23) dX12_law_11 (by decide) (fun c_11 => ?_) (fun c_11 => ?_)
      · exact absurd c_11 (bI_p.mpr (zIn3.mpr ha))
      · refine a_aload_n (i := 0) dX12_law_14 rfl rfl ?_
        refine gX12_75 rfl dX12_law_15 (isM_0 hM) ?_
        refine a_iload_n (i := 1) dX12_law_18 rfl rfl ?_
        refine a_zaldN dX12_law_19 (isM_43 hM) (by first | exact rfl | with_reducible exact rfl | with_reducible exact ix8 _ _ | with_reducible exact ix12 _ _ | exact rfl) (by omega) (by decide) ?_
        rw [w1]
        refine a_if_ne (tg := 27) dX12_law_20 (by decide) (fun c_20 => ?_) (fun c_20 => ?_)
        · exact absurd rfl c_20
        · refine a_ldc2 (v := (-9223372036854775808)) dX12_law_23 (oX12_505 rfl) ?_
          exact a_lret dX12_law_26 (by exact ⟨rfl, hF0⟩)
  · have n0 : ¬ a = 0 := fun g => ha (by rw [g]; exact zIn_nI (n := 3) (k := 0) (by decide) (by decide))
    have n1 : ¬ a = 1 := fun g => ha (by rw [g]; exact zIn_nI (n := 3) (k := 1) (by decide) (by decide))
    have n2 : ¬ a = 2 := fun g => ha (by rw [g]; exact zIn_nI (n := 3) (k := 2) (by decide) (by decide))
    rw [qLaw, if_neg n0, if_neg n1, if_neg n2]
    refine a_iload_n (i := 1) dX12_law_5 rfl rfl ?_
    refine a_iconst (v := 0) dX12_law_6 (by decide) ?_
    refine a_iconst (v := 2) dX12_law_7 (by decide) ?_
    refine kX12_220 rfl dX12_law_8 (Nat.le_of_ble_eq_true rfl) (c_X12_isIn) ?_
    refine a_if_eq (tg := 23) dX12_law_11 (by decide) (fun c_11 => ?_) (fun c_11 => ?_)
    · refine a_ldc2 (v := (-9223372036854775808)) dX12_law_23 (oX12_505 rfl) ?_
      exact a_lret dX12_law_26 (by exact ⟨rfl, hF0⟩)
    · exact absurd (zIn3.mp (bI_p.mp c_11)) ha
def qFault (f p a : Int32) : Int32 := if a = 0 then f else if a = 1 then p else -1
set_option maxHeartbeats 4000000 in
set_option maxRecDepth 100000 in
theorem c_X11_fault {a f p : Int32} (hD : aDC D) (h1 : x.1 bRd 7 = f) (h2 : x.1 bRd 8 = p) : aDI l mX11_fault d D [.ref bLH, .int a] x (qFault f p a) x := by
  refine a_metI (by decide) (Nat.le_of_ble_eq_true rfl) rfl ?_
  unfold qFault
  refine a_iload_n (i := 1) dX11_fault_0 rfl rfl ?_
  refine sX11_fault_1 dX11_fault_1 (fun s_1 => ?_) (fun s_1 => ?_) (fun s_1_0 s_1_1 => ?_)
  · rw [if_pos s_1]
    refine a_aload_n (i := 0) dX11_fault_28 rfl rfl ?_
    refine gX11_14 rfl dX11_fault_29 (isLH_0 hD) ?_
    refine gX11_102 rfl dX11_fault_32 (isRd_0 hD) ?_
    rw [h1]
    exact a_iret dX11_fault_35 (by exact ⟨rfl, rfl⟩)
  · rw [if_neg (by rw [s_1]; decide), if_pos s_1]
    refine a_aload_n (i := 0) dX11_fault_36 rfl rfl ?_
    refine gX11_14 rfl dX11_fault_37 (isLH_0 hD) ?_
    refine gX11_105 rfl dX11_fault_40 (isRd_0 hD) ?_
    rw [h2]
    exact a_iret dX11_fault_43 (by exact ⟨rfl, rfl⟩)
  · rw [if_neg s_1_0, if_neg s_1_1]
    refine a_iconst (v := (-1)) dX11_fault_44 (by decide) ?_
    exact a_iret dX11_fault_45 (by exact ⟨rfl, rfl⟩)
set_option maxHeartbeats 4000000 in
set_option maxRecDepth 100000 in
theorem c_X12_fault {a f p : Int32} (hM : D 12 = true) (h1 : x.1 bM 4 = f) (h2 : x.1 bM 5 = p) : aDI l mX12_fault d D [.ref bM, .int a] x (qFault f p a) (aWr x bM 2 0) := by
  refine a_metI (by decide) (Nat.le_of_ble_eq_true rfl) rfl ?_
  unfold qFault
  refine a_aload_n (i := 0) dX12_fault_0 rfl rfl ?_
  refine a_iconst (v := 0) dX12_fault_1 (by decide) ?_
  refine pX12_175 rfl dX12_fault_2 (isM_0 hM) ?_
  refine a_iload_n (i := 1) dX12_fault_5 rfl rfl ?_
  refine a_if_ne (tg := 16) dX12_fault_6 (by decide) (fun c_6 => ?_) (fun c_6 => ?_)
  · rw [if_neg c_6]
    refine a_iload_n (i := 1) dX12_fault_16 rfl rfl ?_
    refine a_iconst (v := 1) dX12_fault_17 (by decide) ?_
    refine a_icmp_ne (tg := 28) dX12_fault_18 (by decide) (fun c_18 => ?_) (fun c_18 => ?_)
    · rw [if_neg c_18]
      refine a_iconst (v := (-1)) dX12_fault_28 (by decide) ?_
      exact a_iret dX12_fault_29 (by exact ⟨rfl, rfl⟩)
    · rw [if_pos c_18]
      refine a_aload_n (i := 0) dX12_fault_21 rfl rfl ?_
      refine gX12_16 rfl dX12_fault_22 (isM_0 hM) ?_
      rw [aWr_j _ _ _ (by decide), h2]
      refine a_goto (tg := 29) dX12_fault_25 (by decide) ?_
      exact a_iret dX12_fault_29 (by exact ⟨rfl, rfl⟩)
  · rw [if_pos c_6]
    refine a_aload_n (i := 0) dX12_fault_9 rfl rfl ?_
    refine gX12_181 rfl dX12_fault_10 (isM_0 hM) ?_
    rw [aWr_j _ _ _ (by decide), h1]
    refine a_goto (tg := 29) dX12_fault_13 (by decide) ?_
    exact a_iret dX12_fault_29 (by exact ⟨rfl, rfl⟩)
set_option maxHeartbeats 4000000 in
set_option maxRecDepth 100000 in
theorem c_X5_knownNow {s k : Int32} (hD : aDC D) (h1 : x.1 bSn 0 = s) (h2 : x.1 bSn 1 = k) : aDI l mX5_knownNow d D [.ref bSn] x (if k = -1 then s else k) x := by
  refine a_metI (by decide) (Nat.le_of_ble_eq_true rfl) rfl ?_
  refine a_aload_n (i := 0) dX5_knownNow_0 rfl rfl ?_
  refine gX5_9 rfl dX5_knownNow_1 (isSn_0 hD) ?_
  rw [h2]
  refine a_iconst (v := (-1)) dX5_knownNow_4 (by decide) ?_
  refine a_icmp_ne (tg := 15) dX5_knownNow_5 (by decide) (fun c_5 => ?_) (fun c_5 => ?_)
  · rw [if_neg c_5]
    refine a_aload_n (i := 0) dX5_knownNow_15 rfl rfl ?_
    refine gX5_9 rfl dX5_knownNow_16 (isSn_0 hD) ?_
    rw [h2]
    exact a_iret dX5_knownNow_19 (by exact ⟨rfl, rfl⟩)
  · rw [if_pos c_5]
    refine a_aload_n (i := 0) dX5_knownNow_8 rfl rfl ?_
    refine gX5_35 rfl dX5_knownNow_9 (isSn_0 hD) ?_
    rw [h1]
    refine a_goto (tg := 19) dX5_knownNow_12 (by decide) ?_
    exact a_iret dX5_knownNow_19 (by exact ⟨rfl, rfl⟩)
theorem neg1_lt {k : Int32} (hk : -1 ≤ k) : k < 0 ↔ k = -1 := by
  constructor
  · intro h
    have h1 := Int32.lt_iff_toInt_lt.mp h
    have h2 := Int32.le_iff_toInt_le.mp hk
    rw [show ((0 : Int32)).toInt = 0 by decide] at h1
    rw [show ((-1 : Int32)).toInt = -1 by decide] at h2
    exact Int32.toInt_inj.mp (by rw [show ((-1 : Int32)).toInt = -1 by decide]; omega)
  · intro h
    rw [h]
    decide
set_option maxHeartbeats 4000000 in
set_option maxRecDepth 100000 in
theorem c_X12_knownBy {s k : Int32} (hM : D 12 = true) (h1 : x.1 bM 78 = s) (h2 : x.1 bM 79 = k) (hk : -1 ≤ k) : aDI l mX12_knownBy d D [.ref bM] x (if k = -1 then s else k) x := by
  refine a_metI (by decide) (Nat.le_of_ble_eq_true rfl) rfl ?_
  refine a_aload_n (i := 0) dX12_knownBy_0 rfl rfl ?_
  refine gX12_145 rfl dX12_knownBy_1 (isM_0 hM) ?_
  rw [h2]
  refine a_if_ge (tg := 14) dX12_knownBy_4 (by decide) (fun c_4 => ?_) (fun c_4 => ?_)
  · rw [if_neg (fun g => absurd ((neg1_lt hk).mpr g) (Int32.not_lt.mpr c_4))]
    refine a_aload_n (i := 0) dX12_knownBy_14 rfl rfl ?_
    refine gX12_145 rfl dX12_knownBy_15 (isM_0 hM) ?_
    rw [h2]
    exact a_iret dX12_knownBy_18 (by exact ⟨rfl, rfl⟩)
  · rw [if_pos ((neg1_lt hk).mp (Int32.not_le.mp c_4))]
    refine a_aload_n (i := 0) dX12_knownBy_7 rfl rfl ?_
    refine gX12_398 rfl dX12_knownBy_8 (isM_0 hM) ?_
    rw [h1]
    refine a_goto (tg := 18) dX12_knownBy_11 (by decide) ?_
    exact a_iret dX12_knownBy_18 (by exact ⟨rfl, rfl⟩)
def qCount (T : zT) (Z : zS) (s k u a : Int32) : Int32 := if a = 0 then nI (T.1 0) else if a = 1 then nI (T.1 1) else if a = 2 then nI (T.1 2) else if a = 3 then nI (T.1 7) else if a = 4 then Z.1 0 0 else if a = 5 then zCorns T Z else if a = 6 then zLayers T Z else if a = 7 then zWeds0 T Z else if a = 8 then Z.1 0 1 else if a = 9 then zPinches T Z else if a = 10 then s else if a = 11 then (if k = -1 then s else k) else if a = 12 then u else -1
set_option maxHeartbeats 4000000 in
set_option maxRecDepth 100000 in
theorem c_X11_count {a s k u : Int32} (hD : aDC D) (h : cR T W Z x t) (hB : zB T Z) (h1 : x.1 bSn 0 = s) (h2 : x.1 bSn 1 = k) (h3 : x.1 bDn 0 = u) : aDI l mX11_count (d + 3) D [.ref bLH, .int a] x (qCount T Z s k u a) x := by
  obtain ⟨ht, hp, ok, hZ, hT, hW, hS⟩ := h
  have e0 : x.1 t 1 = nI (T.1 0) := hT.1
  have e1 : x.1 t 4 = nI (T.1 1) := hT.2.1
  have e2 : x.1 t 10 = nI (T.1 2) := hT.2.2.1
  have e3 : x.1 t 18 = nI (T.1 7) := hT.2.2.2.2.2.2.2.1
  have e7 : x.1 bNow 3 = nI (Z.2 0 0) := hS.2.1
  have jb := jbc_z ok hB
  refine a_metI (by decide) (Nat.le_of_ble_eq_true rfl) rfl ?_
  refine a_iload_n (i := 1) dX11_count_0 rfl rfl ?_
  refine sX11_count_1 dX11_count_1 (fun s_1 => ?_) (fun s_1 => ?_) (fun s_1 => ?_) (fun s_1 => ?_) (fun s_1 => ?_) (fun s_1 => ?_) (fun s_1 => ?_) (fun s_1 => ?_) (fun s_1 => ?_) (fun s_1 => ?_) (fun s_1 => ?_) (fun s_1 => ?_) (fun s_1 => ?_) (fun s_1_0 s_1_1 s_1_2 s_1_3 s_1_4 s_1_5 s_1_6 s_1_7 s_1_8 s_1_9 s_1_10 s_1_11 s_1_12 => ?_)
  · refine a_aload_n (i := 0) dX11_count_68 rfl rfl ?_
    refine gX11_23 rfl dX11_count_69 (isLH_0 hD) ?_
    rw [hp]
    refine gX11_112 rfl dX11_count_72 (isT_0 hD ht) ?_
    rw [e0]
    exact a_iret dX11_count_75 (by subst s_1; exact ⟨rfl, rfl⟩)
  · refine a_aload_n (i := 0) dX11_count_76 rfl rfl ?_
    refine gX11_23 rfl dX11_count_77 (isLH_0 hD) ?_
    rw [hp]
    refine gX11_122 rfl dX11_count_80 (isT_0 hD ht) ?_
    rw [e1]
    exact a_iret dX11_count_83 (by subst s_1; exact ⟨rfl, rfl⟩)
  · refine a_aload_n (i := 0) dX11_count_84 rfl rfl ?_
    refine gX11_23 rfl dX11_count_85 (isLH_0 hD) ?_
    rw [hp]
    refine gX11_186 rfl dX11_count_88 (isT_0 hD ht) ?_
    rw [e2]
    exact a_iret dX11_count_91 (by subst s_1; exact ⟨rfl, rfl⟩)
  · refine a_aload_n (i := 0) dX11_count_92 rfl rfl ?_
    refine gX11_23 rfl dX11_count_93 (isLH_0 hD) ?_
    rw [hp]
    refine gX11_218 rfl dX11_count_96 (isT_0 hD ht) ?_
    rw [e3]
    exact a_iret dX11_count_99 (by subst s_1; exact ⟨rfl, rfl⟩)
  · refine a_aload_n (i := 0) dX11_count_100 rfl rfl ?_
    refine gX11_30 rfl dX11_count_101 (isLH_0 hD) ?_
    refine gX11_221 rfl dX11_count_104 (isS_0 hD hbNow) ?_
    rw [hS.1 0 (by decide)]
    exact a_iret dX11_count_107 (by subst s_1; exact ⟨rfl, rfl⟩)
  · refine a_aload_n (i := 0) dX11_count_108 rfl rfl ?_
    refine gX11_30 rfl dX11_count_109 (isLH_0 hD) ?_
    refine a_aload_n (i := 0) dX11_count_112 rfl rfl ?_
    refine gX11_23 rfl dX11_count_113 (isLH_0 hD) ?_
    rw [hp]
    refine kX11_224 rfl dX11_count_116 (Nat.le_of_ble_eq_true rfl) (isS_0 hD hbNow) (cz_cornsOfAll hD hbNow ht ok hT hS) ?_
    exact a_iret dX11_count_119 (by subst s_1; exact ⟨rfl, rfl⟩)
  · refine a_aload_n (i := 0) dX11_count_120 rfl rfl ?_
    refine gX11_30 rfl dX11_count_121 (isLH_0 hD) ?_
    refine a_aload_n (i := 0) dX11_count_124 rfl rfl ?_
    refine gX11_23 rfl dX11_count_125 (isLH_0 hD) ?_
    rw [hp]
    refine kX11_228 rfl dX11_count_128 (Nat.le_of_ble_eq_true rfl) (isS_0 hD hbNow) (cz_layersOfAll hD hbNow ht ok hT hS) ?_
    exact a_iret dX11_count_131 (by subst s_1; exact ⟨rfl, rfl⟩)
  · refine a_aload_n (i := 0) dX11_count_132 rfl rfl ?_
    refine gX11_30 rfl dX11_count_133 (isLH_0 hD) ?_
    refine gX11_150 rfl dX11_count_136 (isS_0 hD hbNow) ?_
    rw [e7]
    refine kX11_231 rfl dX11_count_139 (Nat.le_of_ble_eq_true rfl) (c_J6_bitCount) ?_
    rw [jb]
    exact a_iret dX11_count_142 (by subst s_1; exact ⟨rfl, rfl⟩)
  · refine a_aload_n (i := 0) dX11_count_143 rfl rfl ?_
    refine gX11_30 rfl dX11_count_144 (isLH_0 hD) ?_
    refine gX11_234 rfl dX11_count_147 (isS_0 hD hbNow) ?_
    rw [hS.1 1 (by decide)]
    exact a_iret dX11_count_150 (by subst s_1; exact ⟨rfl, rfl⟩)
  · refine a_aload_n (i := 0) dX11_count_151 rfl rfl ?_
    refine gX11_30 rfl dX11_count_152 (isLH_0 hD) ?_
    refine a_aload_n (i := 0) dX11_count_155 rfl rfl ?_
    refine gX11_23 rfl dX11_count_156 (isLH_0 hD) ?_
    rw [hp]
    refine kX11_237 rfl dX11_count_159 (Nat.le_of_ble_eq_true rfl) (isS_0 hD hbNow) (cz_pinchOfAll hD hbNow ht ok hZ hT hS) ?_
    exact a_iret dX11_count_162 (by subst s_1; exact ⟨rfl, rfl⟩)
  · refine a_aload_n (i := 0) dX11_count_163 rfl rfl ?_
    refine gX11_50 rfl dX11_count_164 (isLH_0 hD) ?_
    refine gX11_240 rfl dX11_count_167 (isSn_0 hD) ?_
    rw [h1]
    exact a_iret dX11_count_170 (by subst s_1; exact ⟨rfl, rfl⟩)
  · refine a_aload_n (i := 0) dX11_count_171 rfl rfl ?_
    refine gX11_50 rfl dX11_count_172 (isLH_0 hD) ?_
    refine kX11_241 rfl dX11_count_175 (Nat.le_of_ble_eq_true rfl) (isSn_0 hD) (c_X5_knownNow hD h1 h2) ?_
    exact a_iret dX11_count_178 (by subst s_1; exact ⟨rfl, rfl⟩)
  · refine a_aload_n (i := 0) dX11_count_179 rfl rfl ?_
    refine gX11_57 rfl dX11_count_180 (isLH_0 hD) ?_
    refine gX11_94 rfl dX11_count_183 (isDn_0 hD) ?_
    rw [h3]
    exact a_iret dX11_count_186 (by subst s_1; exact ⟨rfl, rfl⟩)
  · refine a_iconst (v := (-1)) dX11_count_187 (by decide) ?_
    exact a_iret dX11_count_188 (by rw [qCount, if_neg s_1_0, if_neg s_1_1, if_neg s_1_2, if_neg s_1_3, if_neg s_1_4, if_neg s_1_5, if_neg s_1_6, if_neg s_1_7, if_neg s_1_8, if_neg s_1_9, if_neg s_1_10, if_neg s_1_11, if_neg s_1_12]; exact ⟨rfl, rfl⟩)
set_option maxHeartbeats 4000000 in
set_option maxRecDepth 100000 in
theorem c_X12_count {a s k u : Int32} (hM : D 12 = true) (h : mR T W Z x) (h1 : x.1 bM 78 = s) (h2 : x.1 bM 79 = k) (hk : -1 ≤ k) (h3 : x.1 bM 83 = u) : aDI l mX12_count (d + 4) D [.ref bM, .int a] x (qCount T Z s k u a) (aWr x bM 2 0) := by
  obtain ⟨ok, hZ, hT, hW, hS⟩ := mR_0 h
  have e0 : (aWr x bM 2 0).1 bM 12 = nI (T.1 0) := hT.1
  have e1 : (aWr x bM 2 0).1 bM 13 = nI (T.1 1) := hT.2.1
  have e2 : (aWr x bM 2 0).1 bM 14 = nI (T.1 2) := hT.2.2.1
  have e3 : (aWr x bM 2 0).1 bM 17 = nI (T.1 7) := hT.2.2.2.2.2.1
  have g1 : (aWr x bM 2 0).1 bM 78 = s := by rw [aWr_j _ _ _ (by decide)]; exact h1
  have g2 : (aWr x bM 2 0).1 bM 79 = k := by rw [aWr_j _ _ _ (by decide)]; exact h2
  have g3 : (aWr x bM 2 0).1 bM 83 = u := by rw [aWr_j _ _ _ (by decide)]; exact h3
  have h6 := ok.1
  have h8 := ok.2.1
  refine a_metI (by decide) (Nat.le_of_ble_eq_true rfl) rfl ?_
  refine a_aload_n (i := 0) dX12_count_0 rfl rfl ?_
  refine a_iconst (v := 0) dX12_count_1 (by decide) ?_
  refine pX12_175 rfl dX12_count_2 (isM_0 hM) ?_
  refine a_iconst (v := 0) dX12_count_5 (by decide) ?_
  refine a_istore_n (i := 2) dX12_count_6 rfl (by decide) ?_
  refine a_loc [(0, .ref bM), (1, .int a), (2, .int 0)] rfl ?_
  generalize aWr x bM 2 0 = y at *
  have L6 : aV l mX12_count (d + 4) D none 111 [(0, .ref bM), (1, .int a), (2, .int 0), (3, .int (nI 0))] [] y (fun v w => v = some (.int (zLayers T Z)) ∧ w = y) := by
    refine lp_rule (P := fun m w => aV l mX12_count (d + 4) D none 111 [(0, .ref bM), (1, .int a), (2, .int w), (3, .int (nI m))] [] y _) (fun h a => a + nI (Z.2 1 h)) ?_ (T.1 0) 0 0 (Nat.zero_add _) ?_
    · intro m w hm ih
      have f1 : y.1 (bM + 63) m = nI (Z.2 1 m) := by have := (hS.2.2.1 m hm).2.1; rwa [Nat.mul_zero, Nat.zero_add] at this
      refine a_iload_n (i := 3) dX12_count_111 rfl rfl ?_
      refine a_aload_n (i := 0) dX12_count_112 rfl rfl ?_
      refine gX12_258 rfl dX12_count_113 (isM_0 hM) ?_
      rw [e0]
      refine a_icmp_ge (tg := 134) dX12_count_116 (by decide) (fun c_116 => ?_) (fun c_116 => ?_)
      · exact absurd c_116 (nI_ge hm (by omega))
      · refine a_iload_n (i := 2) dX12_count_119 rfl rfl ?_
        refine a_aload_n (i := 0) dX12_count_120 rfl rfl ?_
        refine gX12_115 rfl dX12_count_121 (isM_0 hM) ?_
        refine a_iload_n (i := 3) dX12_count_124 rfl rfl ?_
        refine a_ialdN dX12_count_125 (isM_63 hM) (by first | with_reducible exact rfl | with_reducible exact ix8 _ _ | with_reducible exact ix12 _ _ | exact rfl) (by omega) (by decide) ?_
        rw [f1]
        refine a_iadd dX12_count_126 ?_
        refine a_istore_n (i := 2) dX12_count_127 rfl (by decide) ?_
        refine a_iincK (i := 3) (u := 1) dX12_count_128 rfl (by decide) (by decide) ?_
        refine a_goto (tg := 111) dX12_count_131 (by decide) ?_
        rw [nI_1]; exact a_loc _ rfl ih
    · refine a_iload_n (i := 3) dX12_count_111 rfl rfl ?_
      refine a_aload_n (i := 0) dX12_count_112 rfl rfl ?_
      refine gX12_258 rfl dX12_count_113 (isM_0 hM) ?_
      rw [e0]
      refine a_icmp_ge (tg := 134) dX12_count_116 (by decide) (fun c_116 => ?_) (fun c_116 => ?_)
      · refine a_iload_n (i := 2) dX12_count_134 rfl rfl ?_
        exact a_iret dX12_count_135 (by exact ⟨rfl, rfl⟩)
      · exact absurd (Int32.le_refl _) c_116
  have L9 : aV l mX12_count (d + 4) D none 151 [(0, .ref bM), (1, .int a), (2, .int 0), (3, .int (nI 0))] [] y (fun v w => v = some (.int (zPinches T Z)) ∧ w = y) := by
    refine lp_rule (P := fun m w => aV l mX12_count (d + 4) D none 151 [(0, .ref bM), (1, .int a), (2, .int w), (3, .int (nI m))] [] y _) (fun m a => a + zPinch T Z m) ?_ (T.1 1) 0 0 (Nat.zero_add _) ?_
    · intro m w hm ih
      refine a_iload_n (i := 3) dX12_count_151 rfl rfl ?_
      refine a_aload_n (i := 0) dX12_count_152 rfl rfl ?_
      refine gX12_261 rfl dX12_count_153 (isM_0 hM) ?_
      rw [e1]
      refine a_icmp_ge (tg := 174) dX12_count_156 (by decide) (fun c_156 => ?_) (fun c_156 => ?_)
      · exact absurd c_156 (nI_ge hm (by omega))
      · refine a_iload_n (i := 2) dX12_count_159 rfl rfl ?_
        refine a_aload_n (i := 0) dX12_count_160 rfl rfl ?_
        refine a_iconst (v := 0) dX12_count_161 (by decide) ?_
        refine a_iload_n (i := 3) dX12_count_162 rfl rfl ?_
        refine kX12_443 rfl dX12_count_163 (Nat.le_of_ble_eq_true rfl) (isM_0 hM) (mz_pinchOf (i := 0) hM (by decide) ok hZ hT hS hm) ?_
        refine a_iadd dX12_count_166 ?_
        refine a_istore_n (i := 2) dX12_count_167 rfl (by decide) ?_
        refine a_iincK (i := 3) (u := 1) dX12_count_168 rfl (by decide) (by decide) ?_
        refine a_goto (tg := 151) dX12_count_171 (by decide) ?_
        rw [nI_1]; exact a_loc _ rfl ih
    · refine a_iload_n (i := 3) dX12_count_151 rfl rfl ?_
      refine a_aload_n (i := 0) dX12_count_152 rfl rfl ?_
      refine gX12_261 rfl dX12_count_153 (isM_0 hM) ?_
      rw [e1]
      refine a_icmp_ge (tg := 174) dX12_count_156 (by decide) (fun c_156 => ?_) (fun c_156 => ?_)
      · refine a_iload_n (i := 2) dX12_count_174 rfl rfl ?_
        exact a_iret dX12_count_175 (by exact ⟨rfl, rfl⟩)
      · exact absurd (Int32.le_refl _) c_156
  refine a_iload_n (i := 1) dX12_count_7 rfl rfl ?_
  refine sX12_count_8 dX12_count_8 (fun s_8 => ?_) (fun s_8 => ?_) (fun s_8 => ?_) (fun s_8 => ?_) (fun s_8 => ?_) (fun s_8 => ?_) (fun s_8 => ?_) (fun s_8 => ?_) (fun s_8 => ?_) (fun s_8 => ?_) (fun s_8 => ?_) (fun s_8 => ?_) (fun s_8 => ?_) (fun s_8_0 s_8_1 s_8_2 s_8_3 s_8_4 s_8_5 s_8_6 s_8_7 s_8_8 s_8_9 s_8_10 s_8_11 s_8_12 => ?_)
  · refine a_aload_n (i := 0) dX12_count_76 rfl rfl ?_
    refine gX12_258 rfl dX12_count_77 (isM_0 hM) ?_
    rw [e0]
    exact a_iret dX12_count_80 (by subst s_8; exact ⟨rfl, rfl⟩)
  · refine a_aload_n (i := 0) dX12_count_81 rfl rfl ?_
    refine gX12_261 rfl dX12_count_82 (isM_0 hM) ?_
    rw [e1]
    exact a_iret dX12_count_85 (by subst s_8; exact ⟨rfl, rfl⟩)
  · refine a_aload_n (i := 0) dX12_count_86 rfl rfl ?_
    refine gX12_264 rfl dX12_count_87 (isM_0 hM) ?_
    rw [e2]
    exact a_iret dX12_count_90 (by subst s_8; exact ⟨rfl, rfl⟩)
  · refine a_aload_n (i := 0) dX12_count_91 rfl rfl ?_
    refine gX12_273 rfl dX12_count_92 (isM_0 hM) ?_
    rw [e3]
    exact a_iret dX12_count_95 (by subst s_8; exact ⟨rfl, rfl⟩)
  · refine a_aload_n (i := 0) dX12_count_96 rfl rfl ?_
    refine gX12_133 rfl dX12_count_97 (isM_0 hM) ?_
    refine a_iconst (v := 0) dX12_count_100 (by decide) ?_
    refine a_ialdN dX12_count_101 (isM_69 hM) (by first | exact (show (0 : Int32) = nI 0 from rfl) | with_reducible exact rfl | with_reducible exact ix8 _ _ | with_reducible exact ix12 _ _ | exact rfl) (by omega) (by decide) ?_
    rw [hS.1]
    exact a_iret dX12_count_102 (by subst s_8; exact ⟨rfl, rfl⟩)
  · refine a_aload_n (i := 0) dX12_count_103 rfl rfl ?_
    refine a_iconst (v := 0) dX12_count_104 (by decide) ?_
    refine kX12_516 rfl dX12_count_105 (Nat.le_of_ble_eq_true rfl) (isM_0 hM) (mz_cornsAll (i := 0) hM (by decide) ok hT hS) ?_
    exact a_iret dX12_count_108 (by subst s_8; exact ⟨rfl, rfl⟩)
  · subst s_8
    refine a_iconst (v := 0) dX12_count_109 (by decide) ?_
    refine a_istore_n (i := 3) dX12_count_110 rfl (by decide) ?_
    exact a_loc _ rfl L6
  · refine a_aload_n (i := 0) dX12_count_136 rfl rfl ?_
    refine a_iconst (v := 0) dX12_count_137 (by decide) ?_
    refine kX12_522 rfl dX12_count_138 (Nat.le_of_ble_eq_true rfl) (isM_0 hM) (mz_wedMany (i := 0) hM (by decide) ok hT hS) ?_
    exact a_iret dX12_count_141 (by subst s_8; exact ⟨rfl, rfl⟩)
  · refine a_aload_n (i := 0) dX12_count_142 rfl rfl ?_
    refine gX12_130 rfl dX12_count_143 (isM_0 hM) ?_
    refine a_iconst (v := 0) dX12_count_146 (by decide) ?_
    refine a_ialdN dX12_count_147 (isM_68 hM) (by first | exact (show (0 : Int32) = nI 0 from rfl) | with_reducible exact rfl | with_reducible exact ix8 _ _ | with_reducible exact ix12 _ _ | exact rfl) (by omega) (by decide) ?_
    rw [hS.2.1]
    exact a_iret dX12_count_148 (by subst s_8; exact ⟨rfl, rfl⟩)
  · subst s_8
    refine a_iconst (v := 0) dX12_count_149 (by decide) ?_
    refine a_istore_n (i := 3) dX12_count_150 rfl (by decide) ?_
    exact a_loc _ rfl L9
  · refine a_aload_n (i := 0) dX12_count_176 rfl rfl ?_
    refine gX12_398 rfl dX12_count_177 (isM_0 hM) ?_
    rw [g1]
    exact a_iret dX12_count_180 (by subst s_8; exact ⟨rfl, rfl⟩)
  · refine a_aload_n (i := 0) dX12_count_181 rfl rfl ?_
    refine kX12_556 rfl dX12_count_182 (Nat.le_of_ble_eq_true rfl) (isM_0 hM) (c_X12_knownBy hM g1 g2 hk) ?_
    exact a_iret dX12_count_185 (by subst s_8; exact ⟨rfl, rfl⟩)
  · refine a_aload_n (i := 0) dX12_count_186 rfl rfl ?_
    refine gX12_401 rfl dX12_count_187 (isM_0 hM) ?_
    rw [g3]
    exact a_iret dX12_count_190 (by subst s_8; exact ⟨rfl, rfl⟩)
  · refine a_iconst (v := (-1)) dX12_count_191 (by decide) ?_
    exact a_iret dX12_count_192 (by rw [qCount, if_neg s_8_0, if_neg s_8_1, if_neg s_8_2, if_neg s_8_3, if_neg s_8_4, if_neg s_8_5, if_neg s_8_6, if_neg s_8_7, if_neg s_8_8, if_neg s_8_9, if_neg s_8_10, if_neg s_8_11, if_neg s_8_12]; exact ⟨rfl, rfl⟩)
end qC
