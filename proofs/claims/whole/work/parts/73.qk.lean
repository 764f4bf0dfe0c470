/-! dry -/
section qK
variable {l : Launch} {d : Nat} {D : Nat → Bool} {T : zT} {W : Nat → zL} {Z : zS} {t : Nat} {x : aS}
def gl : Nat → Nat → Nat → Nat
  | 0, a, _ => a
  | k + 1, a, b => if b = 0 then a else gl k b (a % b)
theorem lN_ne0 {b : Nat} (h : ¬ b = 0) (hb : b < 2 ^ 63) : ¬ lN b = 0 := fun g => h ((pk_lEQ (b := 0) hb (by decide)).mp g)
set_option maxHeartbeats 4000000 in
set_option maxRecDepth 100000 in
theorem c_X11_greatestShared {a b : Nat} (ha : a < 2 ^ 31) (hb : b < 2 ^ 31) : aDJ l mX11_greatestShared d D [.long (lN a), .long (lN b)] x (lN (if gl 100 a b < 1 then 1 else gl 100 a b)) x := by
  refine a_metJ (by decide) (Nat.le_of_ble_eq_true rfl) rfl ?_
  have R : ∀ a : Nat, a < 2 ^ 31 → aV l mX11_greatestShared d D none 44 [(4, .long (lN a))] [] x (fun v z => v = some (.long (lN (if a < 1 then 1 else a))) ∧ z = x) := by
    intro a ha
    refine a_lload (i := 4) dX11_greatestShared_44 rfl ?_
    refine a_lconst (v := 1) dX11_greatestShared_46 (by decide) ?_
    refine a_lcmp dX11_greatestShared_47 ?_
    refine a_if_ge (tg := 55) dX11_greatestShared_48 (by decide) (fun c_48 => ?_) (fun c_48 => ?_)
    · rw [if_neg (Nat.not_lt.mpr ((pk_lLE (a := 1) (by decide) (by omega)).mp ((lg_cmp_ge _ _).mp c_48)))]
      refine a_lload (i := 4) dX11_greatestShared_55 rfl ?_
      exact a_lret dX11_greatestShared_57 (by exact ⟨rfl, rfl⟩)
    · rw [if_pos (Nat.not_le.mp (fun z => c_48 ((lg_cmp_ge _ _).mpr ((pk_lLE (a := 1) (by decide) (by omega)).mpr z))))]
      refine a_lconst (v := 1) dX11_greatestShared_51 (by decide) ?_
      refine a_goto (tg := 57) dX11_greatestShared_52 (by decide) ?_
      exact a_lret dX11_greatestShared_57 (by exact ⟨rfl, rfl⟩)
  have L : ∀ (k i : Nat), i + k = 100 → ∀ a b : Nat, a < 2 ^ 31 → b < 2 ^ 31 → aV l mX11_greatestShared d D none 9 [(4, .long (lN a)), (6, .long (lN b)), (8, .int (nI i))] [] x (fun v z => v = some (.long (lN (if gl k a b < 1 then 1 else gl k a b))) ∧ z = x) := by
    intro k
    induction k with
    | zero =>
      intro i hi a b ha hb
      rw [Nat.add_zero] at hi
      subst hi
      refine a_iload (i := 8) dX11_greatestShared_9 rfl ?_
      refine a_bipush (v := 100) dX11_greatestShared_11 (by decide) ?_
      refine a_icmp_ge (tg := 44) dX11_greatestShared_13 (by decide) (fun c_13 => ?_) (fun c_13 => ?_)
      · exact a_loc _ rfl (R a ha)
      · exact absurd (Int32.le_refl _) c_13
    | succ k ih =>
      intro i hi a b ha hb
      rw [gl]
      by_cases q : b = 0
      · rw [if_pos q]
        subst q
        refine a_iload (i := 8) dX11_greatestShared_9 rfl ?_
        refine a_bipush (v := 100) dX11_greatestShared_11 (by decide) ?_
        refine a_icmp_ge (tg := 44) dX11_greatestShared_13 (by decide) (fun c_13 => ?_) (fun c_13 => ?_)
        · exact absurd c_13 (nI_ge (show i < 100 by omega) (by decide))
        · refine a_lload (i := 6) dX11_greatestShared_16 rfl ?_
          refine a_lconst (v := 0) dX11_greatestShared_18 (by decide) ?_
          refine a_lcmp dX11_greatestShared_19 ?_
          refine a_if_eq (tg := 44) dX11_greatestShared_20 (by decide) (fun c_20 => ?_) (fun c_20 => ?_)
          · exact a_loc _ rfl (R a ha)
          · exact absurd ((lg_cmp_eq _ _).mpr rfl) c_20
      · rw [if_neg q]
        have hb0 := lN_ne0 q (by omega)
        refine a_iload (i := 8) dX11_greatestShared_9 rfl ?_
        refine a_bipush (v := 100) dX11_greatestShared_11 (by decide) ?_
        refine a_icmp_ge (tg := 44) dX11_greatestShared_13 (by decide) (fun c_13 => ?_) (fun c_13 => ?_)
        · exact absurd c_13 (nI_ge (show i < 100 by omega) (by decide))
        · refine a_lload (i := 6) dX11_greatestShared_16 rfl ?_
          refine a_lconst (v := 0) dX11_greatestShared_18 (by decide) ?_
          refine a_lcmp dX11_greatestShared_19 ?_
          refine a_if_eq (tg := 44) dX11_greatestShared_20 (by decide) (fun c_20 => ?_) (fun c_20 => ?_)
          · exact absurd ((lg_cmp_eq _ _).mp c_20) hb0
          · refine a_lload (i := 4) dX11_greatestShared_23 rfl ?_
            refine a_lload (i := 6) dX11_greatestShared_25 rfl ?_
            refine a_lrem dX11_greatestShared_27 (by exact hb0) ?_
            rw [pk_lRem (by omega) (by omega) (by omega)]
            refine a_lstore (i := 9) dX11_greatestShared_28 (by decide) ?_
            refine a_lload (i := 6) dX11_greatestShared_30 rfl ?_
            refine a_lstore (i := 4) dX11_greatestShared_32 (by decide) ?_
            refine a_lload (i := 9) dX11_greatestShared_34 rfl ?_
            refine a_lstore (i := 6) dX11_greatestShared_36 (by decide) ?_
            refine a_iincK (i := 8) (u := 1) dX11_greatestShared_38 rfl (by decide) (by decide) ?_
            refine a_goto (tg := 9) dX11_greatestShared_41 (by decide) ?_
            rw [nI_1]; exact a_loc _ rfl (ih (i + 1) (by omega) b (a % b) hb (Nat.lt_trans (Nat.mod_lt _ (by omega)) hb))
  refine a_lload_n (i := 0) dX11_greatestShared_0 rfl rfl ?_
  refine a_lstore (i := 4) dX11_greatestShared_1 (by decide) ?_
  refine a_lload_n (i := 2) dX11_greatestShared_3 rfl rfl ?_
  refine a_lstore (i := 6) dX11_greatestShared_4 (by decide) ?_
  refine a_iconst (v := 0) dX11_greatestShared_6 (by decide) ?_
  refine a_istore (i := 8) dX11_greatestShared_7 (by decide) ?_
  exact a_loc _ rfl (L 100 0 rfl a b ha hb)
def dryG (dm : Nat) : Nat := if gl 100 (100 - dm) 100 < 1 then 1 else gl 100 (100 - dm) 100
def dryN (dm n : Nat) (up : Bool) : Nat := (if up then (100 - dm) ^ n else 100 ^ n) / Nat.gcd ((100 - dm) ^ n) (100 ^ n)
theorem dry_eq : ∀ dm, dm < 101 → ∀ n, n < 7 → ((100 - dm) / dryG dm) ^ n = dryN dm n true ∧ (100 / dryG dm) ^ n = dryN dm n false := by decide +kernel
theorem dry_g : ∀ dm, dm < 101 → 0 < dryG dm ∧ dryG dm < 101 := by decide +kernel
theorem dry_lt : ∀ u, u < 101 → ∀ n, n < 7 → u ^ n ≤ 1000000000000 := by decide +kernel
theorem zIn7 {a : Int32} : (0 ≤ a ∧ a ≤ 6) ↔ zIn 7 a := zIn_le (n := 6) rfl (by decide)
def qDry (T : zT) (n w : Int32) : Int64 := if zIn 7 n ∧ (w = 0 ∨ w = 1) then lN (dryN (T.1 5) n.toNatClampNeg (decide (w = 0))) else -1
theorem dry_i {dm : Nat} (h : dm ≤ 100) : ((100 : Int32) - nI dm).toInt64 = lN (100 - dm) := by
  rw [show (100 : Int32) = nI 100 from rfl, pk_sub h, nI_l (by omega)]
set_option maxHeartbeats 4000000 in
set_option maxRecDepth 100000 in
theorem c_X11_dry {n w : Int32} (hD : aDC D) (h : cR T W Z x t) : aDJ l mX11_dry (d + 1) D [.ref bLH, .int n, .int w] x (qDry T n w) x := by
  obtain ⟨ht, hp, ok, hZ, hT, hW, hS⟩ := h
  have e5 : x.1 t 16 = nI (T.1 5) := hT.2.2.2.2.2.1
  have d5 : T.1 5 ≤ 100 := ok.2.2.2.2.2.1
  refine a_metJ (by decide) (Nat.le_of_ble_eq_true rfl) rfl ?_
  unfold qDry
  by_cases q : zIn 7 n ∧ (w = 0 ∨ w = 1)
  · rw [if_pos q]
    obtain ⟨q1, q2⟩ := q
    obtain ⟨N, hN, rfl⟩ := zIn_of (by decide) q1
    rw [nI_clamp (by omega)]
    obtain ⟨g1, g2⟩ := dry_g (T.1 5) (by omega)
    have q7 := zIn7.mpr q1
    have L : ∀ (b : Nat) (k i : Nat), i + k = N → aV l mX11_dry (d + 1) D none 69 [(0, .ref bLH), (1, .int (nI N)), (9, .long (lN b)), (11, .long (lN (b ^ i))), (13, .int (nI i))] [] x (fun v y => v = some (.long (lN (b ^ N))) ∧ y = x) := by
      intro b k
      induction k with
      | zero =>
        intro i hi
        rw [Nat.add_zero] at hi
        subst hi
        refine a_iload (i := 13) dX11_dry_69 rfl ?_
        refine a_iload_n (i := 1) dX11_dry_71 rfl rfl ?_
        refine a_icmp_ge (tg := 88) dX11_dry_72 (by decide) (fun c_72 => ?_) (fun c_72 => ?_)
        · refine a_lload (i := 11) dX11_dry_88 rfl ?_
          exact a_lret dX11_dry_90 (by exact ⟨rfl, rfl⟩)
        · exact absurd (Int32.le_refl _) c_72
      | succ k ih =>
        intro i hi
        refine a_iload (i := 13) dX11_dry_69 rfl ?_
        refine a_iload_n (i := 1) dX11_dry_71 rfl rfl ?_
        refine a_icmp_ge (tg := 88) dX11_dry_72 (by decide) (fun c_72 => ?_) (fun c_72 => ?_)
        · exact absurd c_72 (nI_ge (show i < N by omega) (by omega))
        · refine a_lload (i := 11) dX11_dry_75 rfl ?_
          refine a_lload (i := 9) dX11_dry_77 rfl ?_
          refine a_lmul dX11_dry_79 ?_
          rw [lN_mul, ← Nat.pow_succ]
          refine a_lstore (i := 11) dX11_dry_80 (by decide) ?_
          refine a_iincK (i := 13) (u := 1) dX11_dry_82 rfl (by decide) (by decide) ?_
          refine a_goto (tg := 69) dX11_dry_85 (by decide) ?_
          rw [nI_1]; exact a_loc _ rfl (ih (i + 1) (by omega))
    obtain ⟨de1, de2⟩ := dry_eq (T.1 5) (by omega) N hN
    have w2 : 0 ≤ w ∧ w ≤ 1 := zIn2.mpr q2
    have v1 : (100 : Int64) / lN (if gl 100 (100 - T.1 5) 100 < 1 then 1 else gl 100 (100 - T.1 5) 100) = lN (100 / dryG (T.1 5)) := pk_lDiv (a := 100) (b := dryG (T.1 5)) (by decide) g1 (by omega)
    have v2 : lN (100 - T.1 5) / lN (if gl 100 (100 - T.1 5) 100 < 1 then 1 else gl 100 (100 - T.1 5) 100) = lN ((100 - T.1 5) / dryG (T.1 5)) := pk_lDiv (a := 100 - T.1 5) (b := dryG (T.1 5)) (by omega) g1 (by omega)
    refine a_iload_n (i := 1) dX11_dry_0 rfl rfl ?_
    refine a_if_lt (tg := 19) dX11_dry_1 (by decide) (fun c_1 => ?_) (fun c_1 => ?_)
    · exact absurd q7.1 (Int32.not_le.mpr c_1)
    · refine a_iload_n (i := 1) dX11_dry_4 rfl rfl ?_
      refine a_bipush (v := 6) dX11_dry_5 (by decide) ?_
      refine a_icmp_gt (tg := 19) dX11_dry_7 (by decide) (fun c_7 => ?_) (fun c_7 => ?_)
      · exact absurd q7.2 (Int32.not_le.mpr c_7)
      · refine a_iload_n (i := 2) dX11_dry_10 rfl rfl ?_
        refine a_if_lt (tg := 19) dX11_dry_11 (by decide) (fun c_11 => ?_) (fun c_11 => ?_)
        · exact absurd w2.1 (Int32.not_le.mpr c_11)
        · refine a_iload_n (i := 2) dX11_dry_14 rfl rfl ?_
          refine a_iconst (v := 1) dX11_dry_15 (by decide) ?_
          refine a_icmp_le (tg := 23) dX11_dry_16 (by decide) (fun c_16 => ?_) (fun c_16 => ?_)
          · refine a_bipush (v := 100) dX11_dry_23 (by decide) ?_
            refine a_aload_n (i := 0) dX11_dry_25 rfl rfl ?_
            refine gX11_23 rfl dX11_dry_26 (isLH_0 hD) ?_
            rw [hp]
            refine gX11_292 rfl dX11_dry_29 (isT_0 hD ht) ?_
            rw [e5]
            refine a_isub dX11_dry_32 ?_
            refine a_i2l dX11_dry_33 ?_
            rw [dry_i d5]
            refine a_lstore_n (i := 3) dX11_dry_34 rfl (by decide) ?_
            refine a_ldc2 (v := 100) dX11_dry_35 (oX11_295 rfl) ?_
            refine a_lstore (i := 5) dX11_dry_38 (by decide) ?_
            refine a_lload_n (i := 3) dX11_dry_40 rfl rfl ?_
            refine a_lload (i := 5) dX11_dry_41 rfl ?_
            refine kX11_297 rfl dX11_dry_43 (Nat.le_of_ble_eq_true rfl) (c_X11_greatestShared (a := 100 - T.1 5) (b := 100) (by omega) (by decide)) ?_
            refine a_lstore (i := 7) dX11_dry_46 (by decide) ?_
            refine a_iload_n (i := 2) dX11_dry_48 rfl rfl ?_
            refine a_if_ne (tg := 56) dX11_dry_49 (by decide) (fun c_49 => ?_) (fun c_49 => ?_)
            · rw [decide_eq_false c_49, ← de2]
              refine a_lload (i := 5) dX11_dry_56 rfl ?_
              refine a_lload (i := 7) dX11_dry_58 rfl ?_
              refine a_ldiv dX11_dry_60 (by exact lN_ne0 (by show ¬ dryG (T.1 5) = 0; omega) (by show dryG (T.1 5) < 2 ^ 63; omega)) ?_
              first | rw [v1] | rw [v2]
              refine a_lstore (i := 9) dX11_dry_61 (by decide) ?_
              refine a_lconst (v := 1) dX11_dry_63 (by decide) ?_
              refine a_lstore (i := 11) dX11_dry_64 (by decide) ?_
              refine a_iconst (v := 0) dX11_dry_66 (by decide) ?_
              refine a_istore (i := 13) dX11_dry_67 (by decide) ?_
              exact a_loc _ rfl (L _ N 0 (Nat.zero_add _))
            · rw [decide_eq_true c_49, ← de1]
              refine a_lload_n (i := 3) dX11_dry_52 rfl rfl ?_
              refine a_goto (tg := 58) dX11_dry_53 (by decide) ?_
              refine a_lload (i := 7) dX11_dry_58 rfl ?_
              refine a_ldiv dX11_dry_60 (by exact lN_ne0 (by show ¬ dryG (T.1 5) = 0; omega) (by show dryG (T.1 5) < 2 ^ 63; omega)) ?_
              first | rw [v1] | rw [v2]
              refine a_lstore (i := 9) dX11_dry_61 (by decide) ?_
              refine a_lconst (v := 1) dX11_dry_63 (by decide) ?_
              refine a_lstore (i := 11) dX11_dry_64 (by decide) ?_
              refine a_iconst (v := 0) dX11_dry_66 (by decide) ?_
              refine a_istore (i := 13) dX11_dry_67 (by decide) ?_
              exact a_loc _ rfl (L _ N 0 (Nat.zero_add _))
          · exact absurd w2.2 c_16
  · rw [if_neg q]
    refine a_iload_n (i := 1) dX11_dry_0 rfl rfl ?_
    refine a_if_lt (tg := 19) dX11_dry_1 (by decide) (fun c_1 => ?_) (fun c_1 => ?_)
    · refine a_ldc2 (v := (-1)) dX11_dry_19 (oX11_290 rfl) ?_
      exact a_lret dX11_dry_22 (by exact ⟨rfl, rfl⟩)
    · refine a_iload_n (i := 1) dX11_dry_4 rfl rfl ?_
      refine a_bipush (v := 6) dX11_dry_5 (by decide) ?_
      refine a_icmp_gt (tg := 19) dX11_dry_7 (by decide) (fun c_7 => ?_) (fun c_7 => ?_)
      · refine a_ldc2 (v := (-1)) dX11_dry_19 (oX11_290 rfl) ?_
        exact a_lret dX11_dry_22 (by exact ⟨rfl, rfl⟩)
      · refine a_iload_n (i := 2) dX11_dry_10 rfl rfl ?_
        refine a_if_lt (tg := 19) dX11_dry_11 (by decide) (fun c_11 => ?_) (fun c_11 => ?_)
        · refine a_ldc2 (v := (-1)) dX11_dry_19 (oX11_290 rfl) ?_
          exact a_lret dX11_dry_22 (by exact ⟨rfl, rfl⟩)
        · refine a_iload_n (i := 2) dX11_dry_14 rfl rfl ?_
          refine a_iconst (v := 1) dX11_dry_15 (by decide) ?_
          refine a_icmp_le (tg := 23) dX11_dry_16 (by decide) (fun c_16 => ?_) (fun c_16 => ?_)
          · exact absurd ⟨zIn7.mp ⟨Int32.not_lt.mp c_1, Int32.not_lt.mp c_7⟩, zIn2.mp ⟨Int32.not_lt.mp c_11, c_16⟩⟩ q
          · refine a_ldc2 (v := (-1)) dX11_dry_19 (oX11_290 rfl) ?_
            exact a_lret dX11_dry_22 (by exact ⟨rfl, rfl⟩)
set_option maxHeartbeats 4000000 in
set_option maxRecDepth 100000 in
theorem c_X12_dry {n w : Int32} (hM : D 12 = true) (h : mR T W Z x) : aDJ l mX12_dry (d + 1) D [.ref bM, .int n, .int w] x (qDry T n w) (aWr x bM 2 0) := by
  obtain ⟨ok, hZ, hT, hW, hS⟩ := mR_0 h
  refine a_metJ (by decide) (Nat.le_of_ble_eq_true rfl) rfl ?_
  refine a_aload_n (i := 0) dX12_dry_0 rfl rfl ?_
  refine a_iconst (v := 0) dX12_dry_1 (by decide) ?_
  refine pX12_175 rfl dX12_dry_2 (isM_0 hM) ?_
  refine a_loc [(0, .ref bM), (1, .int n), (2, .int w)] rfl ?_
  generalize aWr x bM 2 0 = y at *
  have e5 : y.1 (bM + 26) 0 = nI (T.1 5) := hT.2.2.2.2.2.2.1
  have d5 : T.1 5 ≤ 100 := ok.2.2.2.2.2.1
  unfold qDry
  by_cases q : zIn 7 n ∧ (w = 0 ∨ w = 1)
  · rw [if_pos q]
    obtain ⟨q1, q2⟩ := q
    obtain ⟨N, hN, rfl⟩ := zIn_of (by decide) q1
    rw [nI_clamp (by omega)]
    have u1 := dry_lt (100 - T.1 5) (by omega) N hN
    have u2 := dry_lt 100 (by omega) N hN
    have G : ∀ (k b : Nat), b ≤ k → ∀ a : Nat, 0 < a → a ≤ 1000000000000 → b ≤ 1000000000000 → aV l mX12_dry (d + 1) D none 76 [(2, .int w), (3, .long (lN ((100 - T.1 5) ^ N))), (5, .long (lN (100 ^ N))), (7, .long (lN a)), (9, .long (lN b))] [] y (fun v z => v = some (.long (lN ((if decide (w = 0) then (100 - T.1 5) ^ N else 100 ^ N) / Nat.gcd b a))) ∧ z = y) := by
      intro k
      induction k with
      | zero =>
        intro b hb a ha ha2 _
        have : b = 0 := by omega
        subst this
        rw [Nat.gcd_zero_left]
        have a0 := lN_ne0 (b := a) (by omega) (by omega)
        refine a_lload (i := 9) dX12_dry_76 rfl ?_
        refine a_lconst (v := 0) dX12_dry_78 (by decide) ?_
        refine a_lcmp dX12_dry_79 ?_
        refine a_if_eq (tg := 101) dX12_dry_80 (by decide) (fun c_80 => ?_) (fun c_80 => ?_)
        · refine a_iload_n (i := 2) dX12_dry_101 rfl rfl ?_
          refine a_if_ne (tg := 112) dX12_dry_102 (by decide) (fun c_102 => ?_) (fun c_102 => ?_)
          · rw [decide_eq_false c_102]
            rw [if_neg (by decide)]
            refine a_lload (i := 5) dX12_dry_112 rfl ?_
            refine a_lload (i := 7) dX12_dry_114 rfl ?_
            refine a_ldiv dX12_dry_116 (by exact a0) ?_
            exact a_lret dX12_dry_117 (by exact ⟨by rw [pk_lDiv (by omega) ha (by omega)], rfl⟩)
          · rw [decide_eq_true c_102]
            rw [if_pos rfl]
            refine a_lload_n (i := 3) dX12_dry_105 rfl rfl ?_
            refine a_lload (i := 7) dX12_dry_106 rfl ?_
            refine a_ldiv dX12_dry_108 (by exact a0) ?_
            refine a_goto (tg := 117) dX12_dry_109 (by decide) ?_
            exact a_lret dX12_dry_117 (by exact ⟨by rw [pk_lDiv (by omega) ha (by omega)], rfl⟩)
        · exact absurd ((lg_cmp_eq _ _).mpr rfl) c_80
      | succ k ih =>
        intro b hb a ha ha2 hb2
        by_cases q0 : b = 0
        · exact ih b (by omega) a ha ha2 hb2
        · have b0 := lN_ne0 q0 (by omega)
          have hm := Nat.mod_lt a (show b > 0 by omega)
          have ih2 := ih (a % b) (by omega) b (by omega) hb2 (by omega)
          rw [← Nat.gcd_rec b a] at ih2
          refine a_lload (i := 9) dX12_dry_76 rfl ?_
          refine a_lconst (v := 0) dX12_dry_78 (by decide) ?_
          refine a_lcmp dX12_dry_79 ?_
          refine a_if_eq (tg := 101) dX12_dry_80 (by decide) (fun c_80 => ?_) (fun c_80 => ?_)
          · exact absurd ((lg_cmp_eq _ _).mp c_80) b0
          · refine a_lload (i := 7) dX12_dry_83 rfl ?_
            refine a_lload (i := 9) dX12_dry_85 rfl ?_
            refine a_lrem dX12_dry_87 (by exact b0) ?_
            rw [pk_lRem (by omega) (by omega) (by omega)]
            refine a_lstore (i := 11) dX12_dry_88 (by decide) ?_
            refine a_lload (i := 9) dX12_dry_90 rfl ?_
            refine a_lstore (i := 7) dX12_dry_92 (by decide) ?_
            refine a_lload (i := 11) dX12_dry_94 rfl ?_
            refine a_lstore (i := 9) dX12_dry_96 (by decide) ?_
            refine a_goto (tg := 76) dX12_dry_98 (by decide) ?_
            exact a_loc _ rfl ih2
    have L : ∀ (k i : Nat), i + k = N → aV l mX12_dry (d + 1) D none 36 [(0, .ref bM), (1, .int (nI N)), (2, .int w), (3, .long (lN ((100 - T.1 5) ^ i))), (5, .long (lN (100 ^ i))), (7, .int (nI i))] [] y (fun v z => v = some (.long (lN (dryN (T.1 5) N (decide (w = 0))))) ∧ z = y) := by
      intro k
      induction k with
      | zero =>
        intro i hi
        rw [Nat.add_zero] at hi
        subst hi
        have G0 := G _ _ (Nat.le_refl ((100 - T.1 5) ^ i)) (100 ^ i) (Nat.pow_pos (by decide)) u2 u1
        refine a_iload (i := 7) dX12_dry_36 rfl ?_
        refine a_iload_n (i := 1) dX12_dry_38 rfl rfl ?_
        refine a_icmp_ge (tg := 69) dX12_dry_39 (by decide) (fun c_39 => ?_) (fun c_39 => ?_)
        · refine a_lload (i := 5) dX12_dry_69 rfl ?_
          refine a_lstore (i := 7) dX12_dry_71 (by decide) ?_
          refine a_lload_n (i := 3) dX12_dry_73 rfl rfl ?_
          refine a_lstore (i := 9) dX12_dry_74 (by decide) ?_
          exact a_loc _ rfl G0
        · exact absurd (Int32.le_refl _) c_39
      | succ k ih =>
        intro i hi
        refine a_iload (i := 7) dX12_dry_36 rfl ?_
        refine a_iload_n (i := 1) dX12_dry_38 rfl rfl ?_
        refine a_icmp_ge (tg := 69) dX12_dry_39 (by decide) (fun c_39 => ?_) (fun c_39 => ?_)
        · exact absurd c_39 (nI_ge (show i < N by omega) (by omega))
        · refine a_lload_n (i := 3) dX12_dry_42 rfl rfl ?_
          refine a_bipush (v := 100) dX12_dry_43 (by decide) ?_
          refine a_aload_n (i := 0) dX12_dry_45 rfl rfl ?_
          refine gX12_24 rfl dX12_dry_46 (isM_0 hM) ?_
          refine a_iconst (v := 0) dX12_dry_49 (by decide) ?_
          refine a_ialdN dX12_dry_50 (isM_26 hM) (by first | exact (show (0 : Int32) = nI 0 from rfl) | with_reducible exact rfl | with_reducible exact ix8 _ _ | with_reducible exact ix12 _ _ | exact rfl) (by omega) (by decide) ?_
          rw [e5]
          refine a_isub dX12_dry_51 ?_
          refine a_i2l dX12_dry_52 ?_
          rw [dry_i d5]
          refine a_lmul dX12_dry_53 ?_
          rw [lN_mul, ← Nat.pow_succ]
          refine a_lstore_n (i := 3) dX12_dry_54 rfl (by decide) ?_
          refine a_lload (i := 5) dX12_dry_55 rfl ?_
          refine a_ldc2 (v := 100) dX12_dry_57 (oX12_551 rfl) ?_
          refine a_lmul dX12_dry_60 ?_
          rw [show lN (100 ^ i) * 100 = lN (100 ^ (i + 1)) from lN_mul (100 ^ i) 100]
          refine a_lstore (i := 5) dX12_dry_61 (by decide) ?_
          refine a_iincK (i := 7) (u := 1) dX12_dry_63 rfl (by decide) (by decide) ?_
          refine a_goto (tg := 36) dX12_dry_66 (by decide) ?_
          rw [nI_1]; exact a_loc _ rfl (ih (i + 1) (by omega))
    refine a_iload_n (i := 1) dX12_dry_5 rfl rfl ?_
    refine a_iconst (v := 0) dX12_dry_6 (by decide) ?_
    refine a_bipush (v := 6) dX12_dry_7 (by decide) ?_
    refine kX12_220 rfl dX12_dry_9 (Nat.le_of_ble_eq_true rfl) (c_X12_isIn) ?_
    refine a_if_eq (tg := 24) dX12_dry_12 (by decide) (fun c_12 => ?_) (fun c_12 => ?_)
    · exact absurd c_12 (bI_p.mpr (zIn7.mpr q1))
    · refine a_iload_n (i := 2) dX12_dry_15 rfl rfl ?_
      refine a_iconst (v := 0) dX12_dry_16 (by decide) ?_
      refine a_iconst (v := 1) dX12_dry_17 (by decide) ?_
      refine kX12_220 rfl dX12_dry_18 (Nat.le_of_ble_eq_true rfl) (c_X12_isIn) ?_
      refine a_if_ne (tg := 28) dX12_dry_21 (by decide) (fun c_21 => ?_) (fun c_21 => ?_)
      · refine a_lconst (v := 1) dX12_dry_28 (by decide) ?_
        refine a_lstore_n (i := 3) dX12_dry_29 rfl (by decide) ?_
        refine a_lconst (v := 1) dX12_dry_30 (by decide) ?_
        refine a_lstore (i := 5) dX12_dry_31 (by decide) ?_
        refine a_iconst (v := 0) dX12_dry_33 (by decide) ?_
        refine a_istore (i := 7) dX12_dry_34 (by decide) ?_
        exact a_loc _ rfl (L N 0 (Nat.zero_add _))
      · exact absurd c_21 (bI_p.mpr (zIn2.mpr q2))
  · rw [if_neg q]
    refine a_iload_n (i := 1) dX12_dry_5 rfl rfl ?_
    refine a_iconst (v := 0) dX12_dry_6 (by decide) ?_
    refine a_bipush (v := 6) dX12_dry_7 (by decide) ?_
    refine kX12_220 rfl dX12_dry_9 (Nat.le_of_ble_eq_true rfl) (c_X12_isIn) ?_
    refine a_if_eq (tg := 24) dX12_dry_12 (by decide) (fun c_12 => ?_) (fun c_12 => ?_)
    · refine a_ldc2 (v := (-1)) dX12_dry_24 (oX12_549 rfl) ?_
      exact a_lret dX12_dry_27 (by exact ⟨rfl, rfl⟩)
    · refine a_iload_n (i := 2) dX12_dry_15 rfl rfl ?_
      refine a_iconst (v := 0) dX12_dry_16 (by decide) ?_
      refine a_iconst (v := 1) dX12_dry_17 (by decide) ?_
      refine kX12_220 rfl dX12_dry_18 (Nat.le_of_ble_eq_true rfl) (c_X12_isIn) ?_
      refine a_if_ne (tg := 28) dX12_dry_21 (by decide) (fun c_21 => ?_) (fun c_21 => ?_)
      · exact absurd ⟨zIn7.mp (bI_p.mp c_12), zIn2.mp (bI_p.mp c_21)⟩ q
      · refine a_ldc2 (v := (-1)) dX12_dry_24 (oX12_549 rfl) ?_
        exact a_lret dX12_dry_27 (by exact ⟨rfl, rfl⟩)
end qK
