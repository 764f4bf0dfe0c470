/-! lay, peel, move, undo: the model -/
/-- frame of a call that changes the state of now (its layers and homes) and what was kept -/
def mLy (x y : aS) : Prop := (∀ n j, ¬ (n = bM ∧ (j = 2 ∨ j = 83)) → ¬ n = bM + 85 → ¬ mIn 0 n j → y.1 n j = x.1 n j) ∧ y.2 = x.2
section qP
variable {l : Launch} {d : Nat} {D : Nat → Bool} {T : zT} {W : Nat → zL} {Z : zS} {t : Nat} {x : aS} {u : zU}
theorem mLy_t {y z : aS} (h1 : mLy x y) (h2 : mLy y z) : mLy x z := ⟨fun n j a b c => (h2.1 n j a b c).trans (h1.1 n j a b c), h2.2.trans h1.2⟩
theorem mLy_0 : mLy x (aWr x bM 2 0) := ⟨fun n j a _ _ => aWr_o _ _ (fun e => a ⟨e.1, Or.inl e.2⟩), rfl⟩
theorem mLy_e {y : aS} (h : mRe x y) : mLy x y := ⟨fun n j a b _ => h.1 n j b (fun e => a ⟨e.1, Or.inr e.2⟩), h.2⟩
theorem mLy_w {n j : Nat} {v : Int32} (h : mIn 0 n j) : mLy x (aWr x n j v) := ⟨fun m k _ _ c => aWr_o _ _ (fun e => c (by rw [e.1, e.2]; exact h)), rfl⟩
theorem mQ_s {Y : zS} {y : aS} (h : mQ T W Z x) (hF : mLy x y) (hY : zOk T Y) (hS : rM T Y y 0) (h0 : Y.2 0 0 = Z.2 0 0) (h4 : ∀ m, Y.1 4 m = Z.1 4 m) (h2 : Y.1 0 2 = Z.1 0 2) : mQ T W Y y := by
  obtain ⟨⟨ok, hZ, hT, hW, _⟩, hB, ⟨a, a1, a2, a3⟩, f0, f1, f2, f3, f4⟩ := h
  have ef : ∀ j, 70 ≤ j → j ≤ 74 → y.1 bM j = x.1 bM j := fun j g1 g2 => hF.1 _ _ (by omega) (by omega) (by unfold mIn; omega)
  exact ⟨⟨ok, hY, rTM_o (fun n j g => hF.1 n j (by omega) (by omega) (by unfold mIn; omega)) hT, rWM_o (fun n j g => hF.1 n j (by omega) (by omega) (by unfold mIn; omega)) hW, hS⟩, ⟨by rw [h0]; exact hB.1, fun m hm => by rw [h4]; exact hB.2 m hm⟩, ⟨a, a1, by rw [h2]; exact a2, by rw [hF.2]; exact a3⟩, by rw [ef _ (by decide) (by decide)]; exact f0, by rw [ef _ (by decide) (by decide)]; exact f1, by rw [ef _ (by decide) (by decide)]; exact f2, by rw [ef _ (by decide) (by decide)]; exact f3, by rw [ef _ (by decide) (by decide)]; exact f4⟩
theorem rUM_o {y : aS} (e85 : y.1 (bM + 85) = x.1 (bM + 85)) (e83 : y.1 bM 83 = x.1 bM 83) (h : rUM T u x) : rUM T u y := by
  refine ⟨by rw [e83]; exact h.1, fun k hk => ?_⟩
  have := h.2 k hk
  unfold snap at this ⊢
  rw [e85]
  exact this
theorem rM_re {y : aS} (ok : zTok T) (hZ : zOk T Z) (h : mRe x y) (hS : rM T Z x 0) : rM T Z y 0 := rM_same ok hZ (fun n j hj => h.1 n j (by unfold mIn at hj; omega) (by unfold mIn at hj; omega)) hS
theorem rTM_re {y : aS} (h : mRe x y) (hT : rTM T x) : rTM T y := rTM_o (fun n j g => h.1 n j (by omega) (by omega)) hT
theorem mLy_put {h c z : Nat} {v : Int32} (hh : h < 6) (hc : c < 12) : mLy x (mPut x 0 h c z v) := by
  unfold mPut
  exact mLy_t (mLy_w (by unfold mIn; omega)) (mLy_t (mLy_w (by unfold mIn; omega)) (mLy_w (by unfold mIn; omega)))
theorem mPut_85 {h c z : Nat} {v : Int32} : (mPut x 0 h c z v).1 (bM + 85) = x.1 (bM + 85) ∧ (mPut x 0 h c z v).1 bM = x.1 bM := by
  unfold mPut
  exact ⟨by rw [aWr_n _ _ _ (by decide), aWr_n _ _ _ (by decide), aWr_n _ _ _ (by decide)], by rw [aWr_n _ _ _ (by decide), aWr_n _ _ _ (by decide), aWr_n _ _ _ (by decide)]⟩
theorem zIn20 {v : Int32} : (-20 ≤ v ∧ v ≤ 20) ↔ (-20 ≤ v ∧ v ≤ 20) := Iff.rfl
set_option maxHeartbeats 4000000 in
set_option maxRecDepth 100000 in
theorem c_X12_lay {a z v : Int32} (hM : D 12 = true) (h : mQ T W Z x) (hu : rUM T u x) (hR : uR T Z u) : aCt l mX12_lay (d + 3) D [.ref bM, .int a, .int z, .int v] x (fun r y => (¬ zLyC T Z a z v → r = some (.int (-2147483648)) ∧ y = aWr x bM 2 0) ∧ (zLyC T Z a z v → r = some (.int (zLast (zPut Z a.toNatClampNeg z.toNatClampNeg v) a.toNatClampNeg z.toNatClampNeg)) ∧ mQ T W (zPut Z a.toNatClampNeg z.toNatClampNeg v) y ∧ rUM T (uPush u Z (0, a.toNatClampNeg, z.toNatClampNeg, v)) y ∧ mLy x y)) := by
  have hq := mQ_0 h
  have hL0 : mLy x (aWr x bM 2 0) := mLy_0
  have hu0 : rUM T u (aWr x bM 2 0) := rUM_o (aWr_n _ _ _ (by decide)) (aWr_j _ _ _ (by decide)) hu
  refine a_met (by decide) (Nat.le_of_ble_eq_true rfl) (fun v' y q => Or.inl ⟨rfl, by by_cases g : zLyC T Z a z v; exact ⟨_, (q.2 g).1⟩; exact ⟨_, (q.1 g).1⟩⟩) ?_
  refine a_aload_n (i := 0) dX12_lay_0 rfl rfl ?_
  refine a_iconst (v := 0) dX12_lay_1 (by decide) ?_
  refine pX12_175 rfl dX12_lay_2 (isM_0 hM) ?_
  refine a_loc [(0, .ref bM), (1, .int a), (2, .int z), (3, .int v)] rfl ?_
  generalize aWr x bM 2 0 = X at *
  obtain ⟨ok, hZ, hT, hW, hS⟩ := hq.1
  have h6 := ok.1
  by_cases q1 : zIn (T.1 0) a ∧ zIn 8 z ∧ ¬ v = 0 ∧ -20 ≤ v ∧ v ≤ 20
  · obtain ⟨qa, qz, q0, qm, qp⟩ := q1
    have q1 : zIn (T.1 0) a ∧ zIn 8 z ∧ ¬ v = 0 ∧ -20 ≤ v ∧ v ≤ 20 := ⟨qa, qz, q0, qm, qp⟩
    obtain ⟨A, hA, rfl⟩ := zIn_of (by omega) qa
    obtain ⟨B, hB, rfl⟩ := zIn_of (by decide) qz
    have eA : (nI A).toNatClampNeg = A := nI_clamp (by omega)
    have eB : (nI B).toNatClampNeg = B := nI_clamp (by omega)
    have f1 : X.1 (bM + 63) A = nI (Z.2 1 A) := by have := (hS.2.2.1 A hA).2.1; rwa [Nat.mul_zero, Nat.zero_add] at this
    have c12 := (hZ.2.1 A hA).1
    by_cases q12 : Z.2 1 A < 12
    · have qC : zLyC T Z (nI A) (nI B) v := ⟨q1, by rw [eA]; exact q12⟩
      rw [eA, eB]
      have n12 : ¬ nI (Z.2 1 A) = 12 := fun g => absurd ((nI_eq (a := Z.2 1 A) (b := 12) (by omega) (by decide)).mp g) (by omega)
      have P : ∀ y, rUM T (uPush u Z (0, A, B, v)) y → mRe X y → aV l mX12_lay (d + 3) D none 57 [(0, .ref bM), (1, .int (nI A)), (2, .int (nI B)), (3, .int v)] [] y (fun r y => r = some (.int (zLast (zPut Z A B v) A B)) ∧ mQ T W (zPut Z A B v) y ∧ rUM T (uPush u Z (0, A, B, v)) y ∧ mLy x y) := by
        intro y hU hF
        have S2 := rM_re ok hZ hF hS
        have cA2 := (S2.2.2.1 A hA).2.1
        have S3 := rM_put (z := B) (u := v) ok hZ S2 hA q12
        have Z3 : zOk T (zPut Z A B v) := zOk_put hZ hB q12
        have F3 : mLy X (mPut y 0 A (Z.2 1 A) B v) := mLy_t (mLy_e hF) (mLy_put (by omega) q12)
        have Q3 := mQ_s hq F3 Z3 S3 (by simp [zPut, zuk, zui]) (fun m => by simp [zPut, zuk, zui]) (by simp [zPut, zuk, zui])
        have U3 : rUM T (uPush u Z (0, A, B, v)) (mPut y 0 A (Z.2 1 A) B v) := rUM_o mPut_85.1 (by rw [mPut_85.2]) hU
        refine a_aload_n (i := 0) dX12_lay_57 rfl rfl ?_
        refine a_iconst (v := 0) dX12_lay_58 (by decide) ?_
        refine a_iload_n (i := 1) dX12_lay_59 rfl rfl ?_
        refine a_iload_n (i := 2) dX12_lay_60 rfl rfl ?_
        refine a_iload_n (i := 3) dX12_lay_61 rfl rfl ?_
        refine kX12_459 rfl dX12_lay_62 (Nat.le_of_ble_eq_true rfl) (isM_0 hM) (c_X12_puts (i := 0) hM (by decide) (show A < 6 by omega) cA2 q12) ?_
        refine a_aload_n (i := 0) dX12_lay_65 rfl rfl ?_
        refine a_iconst (v := 0) dX12_lay_66 (by decide) ?_
        refine a_iload_n (i := 1) dX12_lay_67 rfl rfl ?_
        refine a_iload_n (i := 2) dX12_lay_68 rfl rfl ?_
        refine kX12_440 rfl dX12_lay_69 (Nat.le_of_ble_eq_true rfl) (isM_0 hM) (mz_lastAt (i := 0) hM (by decide) ok Z3 S3 hA hB) ?_
        exact a_iret dX12_lay_72 (by exact ⟨rfl, Q3, U3, mLy_t hL0 F3⟩)
      refine a_aload_n (i := 0) dX12_lay_5 rfl rfl ?_
      refine a_iload_n (i := 1) dX12_lay_6 rfl rfl ?_
      refine kX12_498 rfl dX12_lay_7 (Nat.le_of_ble_eq_true rfl) (isM_0 hM) (c_X12_isHouse hM hT) ?_
      refine a_if_eq (tg := 49) dX12_lay_10 (by decide) (fun c_10 => ?_) (fun c_10 => ?_)
      · exact absurd c_10 (bI_p.mpr qa)
      · refine a_iload_n (i := 2) dX12_lay_13 rfl rfl ?_
        refine a_iconst (v := 0) dX12_lay_14 (by decide) ?_
        refine a_bipush (v := 7) dX12_lay_15 (by decide) ?_
        refine kX12_220 rfl dX12_lay_17 (Nat.le_of_ble_eq_true rfl) (c_X12_isIn) ?_
        refine a_if_eq (tg := 49) dX12_lay_20 (by decide) (fun c_20 => ?_) (fun c_20 => ?_)
        · exact absurd c_20 (bI_p.mpr (zIn8.mpr qz))
        · refine a_iload_n (i := 3) dX12_lay_23 rfl rfl ?_
          refine a_bipush (v := (-20)) dX12_lay_24 (by decide) ?_
          refine a_bipush (v := 20) dX12_lay_26 (by decide) ?_
          refine kX12_220 rfl dX12_lay_28 (Nat.le_of_ble_eq_true rfl) (c_X12_isIn) ?_
          refine a_if_eq (tg := 49) dX12_lay_31 (by decide) (fun c_31 => ?_) (fun c_31 => ?_)
          · exact absurd c_31 (bI_p.mpr ⟨qm, qp⟩)
          · refine a_iload_n (i := 3) dX12_lay_34 rfl rfl ?_
            refine a_if_eq (tg := 49) dX12_lay_35 (by decide) (fun c_35 => ?_) (fun c_35 => ?_)
            · exact absurd c_35 q0
            · refine a_aload_n (i := 0) dX12_lay_38 rfl rfl ?_
              refine gX12_115 rfl dX12_lay_39 (isM_0 hM) ?_
              refine a_iload_n (i := 1) dX12_lay_42 rfl rfl ?_
              refine a_ialdN dX12_lay_43 (isM_63 hM) (by first | with_reducible exact rfl | with_reducible exact ix8 _ _ | with_reducible exact ix12 _ _ | exact rfl) (by omega) (by decide) ?_
              rw [f1]
              refine a_bipush (v := 12) dX12_lay_44 (by decide) ?_
              refine a_icmp_ne (tg := 53) dX12_lay_46 (by decide) (fun c_46 => ?_) (fun c_46 => ?_)
              · refine a_aload_n (i := 0) dX12_lay_53 rfl rfl ?_
                refine kgX12_507 rfl dX12_lay_54 (Nat.le_of_ble_eq_true rfl) (isM_0 hM) (c_X12_remember (o := (0, A, B, v)) hM ok hZ hS hu0 hR) ?_
                rintro r y ⟨rfl, hU, hF⟩
                exact a_loc _ rfl (a_wk (P y hU hF) (fun r y g => ⟨fun c => absurd qC c, fun _ => g⟩))
              · exact absurd c_46 n12
    · have qC : ¬ zLyC T Z (nI A) (nI B) v := fun g => q12 (by have := g.2; rwa [eA] at this)
      have n12 : nI (Z.2 1 A) = 12 := by rw [show Z.2 1 A = 12 by omega]; rfl
      refine a_aload_n (i := 0) dX12_lay_5 rfl rfl ?_
      refine a_iload_n (i := 1) dX12_lay_6 rfl rfl ?_
      refine kX12_498 rfl dX12_lay_7 (Nat.le_of_ble_eq_true rfl) (isM_0 hM) (c_X12_isHouse hM hT) ?_
      refine a_if_eq (tg := 49) dX12_lay_10 (by decide) (fun c_10 => ?_) (fun c_10 => ?_)
      · exact absurd c_10 (bI_p.mpr qa)
      · refine a_iload_n (i := 2) dX12_lay_13 rfl rfl ?_
        refine a_iconst (v := 0) dX12_lay_14 (by decide) ?_
        refine a_bipush (v := 7) dX12_lay_15 (by decide) ?_
        refine kX12_220 rfl dX12_lay_17 (Nat.le_of_ble_eq_true rfl) (c_X12_isIn) ?_
        refine a_if_eq (tg := 49) dX12_lay_20 (by decide) (fun c_20 => ?_) (fun c_20 => ?_)
        · exact absurd c_20 (bI_p.mpr (zIn8.mpr qz))
        · refine a_iload_n (i := 3) dX12_lay_23 rfl rfl ?_
          refine a_bipush (v := (-20)) dX12_lay_24 (by decide) ?_
          refine a_bipush (v := 20) dX12_lay_26 (by decide) ?_
          refine kX12_220 rfl dX12_lay_28 (Nat.le_of_ble_eq_true rfl) (c_X12_isIn) ?_
          refine a_if_eq (tg := 49) dX12_lay_31 (by decide) (fun c_31 => ?_) (fun c_31 => ?_)
          · exact absurd c_31 (bI_p.mpr ⟨qm, qp⟩)
          · refine a_iload_n (i := 3) dX12_lay_34 rfl rfl ?_
            refine a_if_eq (tg := 49) dX12_lay_35 (by decide) (fun c_35 => ?_) (fun c_35 => ?_)
            · exact absurd c_35 q0
            · refine a_aload_n (i := 0) dX12_lay_38 rfl rfl ?_
              refine gX12_115 rfl dX12_lay_39 (isM_0 hM) ?_
              refine a_iload_n (i := 1) dX12_lay_42 rfl rfl ?_
              refine a_ialdN dX12_lay_43 (isM_63 hM) (by first | with_reducible exact rfl | with_reducible exact ix8 _ _ | with_reducible exact ix12 _ _ | exact rfl) (by omega) (by decide) ?_
              rw [f1]
              refine a_bipush (v := 12) dX12_lay_44 (by decide) ?_
              refine a_icmp_ne (tg := 53) dX12_lay_46 (by decide) (fun c_46 => ?_) (fun c_46 => ?_)
              · exact absurd n12 c_46
              · refine a_ldcw (v := (-2147483648)) dX12_lay_49 (oX12_501 rfl) ?_
                exact a_iret dX12_lay_52 (by exact ⟨fun _ => ⟨rfl, rfl⟩, fun g => absurd g qC⟩)
  · have qC : ¬ zLyC T Z a z v := fun g => q1 g.1
    refine a_aload_n (i := 0) dX12_lay_5 rfl rfl ?_
    refine a_iload_n (i := 1) dX12_lay_6 rfl rfl ?_
    refine kX12_498 rfl dX12_lay_7 (Nat.le_of_ble_eq_true rfl) (isM_0 hM) (c_X12_isHouse hM hT) ?_
    refine a_if_eq (tg := 49) dX12_lay_10 (by decide) (fun c_10 => ?_) (fun c_10 => ?_)
    · refine a_ldcw (v := (-2147483648)) dX12_lay_49 (oX12_501 rfl) ?_
      exact a_iret dX12_lay_52 (by exact ⟨fun _ => ⟨rfl, rfl⟩, fun g => absurd g qC⟩)
    · refine a_iload_n (i := 2) dX12_lay_13 rfl rfl ?_
      refine a_iconst (v := 0) dX12_lay_14 (by decide) ?_
      refine a_bipush (v := 7) dX12_lay_15 (by decide) ?_
      refine kX12_220 rfl dX12_lay_17 (Nat.le_of_ble_eq_true rfl) (c_X12_isIn) ?_
      refine a_if_eq (tg := 49) dX12_lay_20 (by decide) (fun c_20 => ?_) (fun c_20 => ?_)
      · refine a_ldcw (v := (-2147483648)) dX12_lay_49 (oX12_501 rfl) ?_
        exact a_iret dX12_lay_52 (by exact ⟨fun _ => ⟨rfl, rfl⟩, fun g => absurd g qC⟩)
      · refine a_iload_n (i := 3) dX12_lay_23 rfl rfl ?_
        refine a_bipush (v := (-20)) dX12_lay_24 (by decide) ?_
        refine a_bipush (v := 20) dX12_lay_26 (by decide) ?_
        refine kX12_220 rfl dX12_lay_28 (Nat.le_of_ble_eq_true rfl) (c_X12_isIn) ?_
        refine a_if_eq (tg := 49) dX12_lay_31 (by decide) (fun c_31 => ?_) (fun c_31 => ?_)
        · refine a_ldcw (v := (-2147483648)) dX12_lay_49 (oX12_501 rfl) ?_
          exact a_iret dX12_lay_52 (by exact ⟨fun _ => ⟨rfl, rfl⟩, fun g => absurd g qC⟩)
        · refine a_iload_n (i := 3) dX12_lay_34 rfl rfl ?_
          refine a_if_eq (tg := 49) dX12_lay_35 (by decide) (fun c_35 => ?_) (fun c_35 => ?_)
          · refine a_ldcw (v := (-2147483648)) dX12_lay_49 (oX12_501 rfl) ?_
            exact a_iret dX12_lay_52 (by exact ⟨fun _ => ⟨rfl, rfl⟩, fun g => absurd g qC⟩)
          · exact absurd ⟨bI_p.mp c_10, zIn8.mp (bI_p.mp c_20), c_35, bI_p.mp c_31⟩ q1
theorem rM_pop {h c : Nat} (hS : rM T Z x 0) (hc : Z.2 1 h = c + 1) : rM T (zPop Z h) (aWr x (bM + 63) h (nI c)) 0 := by
  obtain ⟨h1, h2, h3, h4⟩ := hS
  refine ⟨?_, ?_, fun g hg => ⟨fun w hw => ?_, ?_, fun k hk => ?_⟩, fun m hm => ?_⟩
  · rw [aWr_n _ _ _ (by decide), h1]; simp [zPop, zuk]
  · rw [aWr_n _ _ _ (by decide), h2]; simp [zPop, zuk]
  · rw [aWr_n _ _ _ (by decide), (h3 g hg).1 w hw]; simp [zPop, zuk]
  · by_cases e : g = h
    · subst e
      rw [show 6 * 0 + g = g by omega, aWr_s]; simp [zPop, zuk, hc]
    · rw [aWr_j _ _ _ (by omega), (h3 g hg).2.1]; simp [zPop, zuk, e]
  · have hk2 : k < Z.2 1 g := by
      by_cases e : g = h
      · subst e
        have : (zPop Z g).2 1 g = c := by simp [zPop, zuk, hc]
        omega
      · have : (zPop Z h).2 1 g = Z.2 1 g := by simp [zPop, zuk, e]
        omega
    rw [aWr_n _ _ _ (by decide), aWr_n _ _ _ (by decide), ((h3 g hg).2.2 k hk2).1, ((h3 g hg).2.2 k hk2).2]
    simp [zPop, zuk]
  · rw [aWr_n _ _ _ (by decide), aWr_n _ _ _ (by decide), aWr_n _ _ _ (by decide), aWr_n _ _ _ (by decide)]
    have := h4 m hm
    simpa [zPop, zuk] using this
theorem rM_home {m k : Nat} (hS : rM T Z x 0) : rM T (zHome Z m k) (aWr x (bM + 64) m (nI k)) 0 := by
  obtain ⟨h1, h2, h3, h4⟩ := hS
  refine ⟨?_, ?_, fun g hg => ?_, fun n hn => ?_⟩
  · rw [aWr_n _ _ _ (by decide), h1]; simp [zHome, zuk]
  · rw [aWr_n _ _ _ (by decide), h2]; simp [zHome, zuk]
  · rw [aWr_n _ _ _ (by decide), aWr_n _ _ _ (by decide), aWr_n _ _ _ (by decide), aWr_n _ _ _ (by decide)]
    have := h3 g hg
    simpa [zHome, zuk] using this
  · rw [aWr_n (a := bM + 65) _ _ _ (by decide), aWr_n (a := bM + 66) _ _ _ (by decide), aWr_n (a := bM + 67) _ _ _ (by decide)]
    obtain ⟨a, b⟩ := h4 n hn
    refine ⟨?_, by simpa [zHome, zuk] using b⟩
    by_cases e : n = m
    · subst e; rw [show 8 * 0 + n = n by omega, aWr_s]; simp [zHome, zuk]
    · rw [aWr_j _ _ _ (by omega), a]; simp [zHome, zuk, e]
set_option maxHeartbeats 4000000 in
set_option maxRecDepth 100000 in
theorem c_X12_peel {a : Int32} (hM : D 12 = true) (h : mQ T W Z x) (hu : rUM T u x) (hR : uR T Z u) : aCt l mX12_peel (d + 2) D [.ref bM, .int a] x (fun r y => (¬ zPlC T Z a → r = some (.int (-1)) ∧ y = aWr x bM 2 0) ∧ (zPlC T Z a → r = some (.int (nI (Z.2 1 a.toNatClampNeg - 1))) ∧ mQ T W (zPop Z a.toNatClampNeg) y ∧ rUM T (uPush u Z (uPl Z a.toNatClampNeg)) y ∧ mLy x y)) := by
  have hq := mQ_0 h
  have hL0 : mLy x (aWr x bM 2 0) := mLy_0
  have hu0 : rUM T u (aWr x bM 2 0) := rUM_o (aWr_n _ _ _ (by decide)) (aWr_j _ _ _ (by decide)) hu
  refine a_met (by decide) (Nat.le_of_ble_eq_true rfl) (fun v' y q => Or.inl ⟨rfl, by by_cases g : zPlC T Z a; exact ⟨_, (q.2 g).1⟩; exact ⟨_, (q.1 g).1⟩⟩) ?_
  refine a_aload_n (i := 0) dX12_peel_0 rfl rfl ?_
  refine a_iconst (v := 0) dX12_peel_1 (by decide) ?_
  refine pX12_175 rfl dX12_peel_2 (isM_0 hM) ?_
  refine a_loc [(0, .ref bM), (1, .int a)] rfl ?_
  generalize aWr x bM 2 0 = X at *
  obtain ⟨ok, hZ, hT, hW, hS⟩ := hq.1
  have h6 := ok.1
  by_cases qa : zIn (T.1 0) a
  · obtain ⟨A, hA, rfl⟩ := zIn_of (by omega) qa
    have eA : (nI A).toNatClampNeg = A := nI_clamp (by omega)
    have f1 : X.1 (bM + 63) A = nI (Z.2 1 A) := by have := (hS.2.2.1 A hA).2.1; rwa [Nat.mul_zero, Nat.zero_add] at this
    have c12 := (hZ.2.1 A hA).1
    by_cases q0 : 0 < Z.2 1 A
    · have qC : zPlC T Z (nI A) := ⟨qa, by rw [eA]; exact q0⟩
      rw [eA]
      obtain ⟨c, hc⟩ : ∃ c, Z.2 1 A = c + 1 := ⟨Z.2 1 A - 1, by omega⟩
      rw [hc, Nat.add_sub_cancel]
      rw [hc] at f1
      have P : ∀ y, rUM T (uPush u Z (uPl Z A)) y → mRe X y → aV l mX12_peel (d + 2) D none 28 [(0, .ref bM), (1, .int (nI A))] [] y (fun r y => r = some (.int (nI c)) ∧ mQ T W (zPop Z A) y ∧ rUM T (uPush u Z (uPl Z A)) y ∧ mLy x y) := by
        intro y hU hF
        have S2 := rM_re ok hZ hF hS
        have cA2 : y.1 (bM + 63) A = nI (c + 1) := by have := (S2.2.2.1 A hA).2.1; rwa [Nat.mul_zero, Nat.zero_add, hc] at this
        have S3 := rM_pop S2 hc
        have F3 : mLy X (aWr y (bM + 63) A (nI c)) := mLy_t (mLy_e hF) (mLy_w (by unfold mIn; omega))
        have Q3 := mQ_s hq F3 (zOk_pop hZ) S3 (by simp [zPop, zuk]) (fun m => by simp [zPop, zuk]) (by simp [zPop, zuk])
        have U3 : rUM T (uPush u Z (uPl Z A)) (aWr y (bM + 63) A (nI c)) := rUM_o (aWr_n _ _ _ (by decide)) (by rw [aWr_n _ _ _ (by decide)]) hU
        refine a_aload_n (i := 0) dX12_peel_28 rfl rfl ?_
        refine gX12_115 rfl dX12_peel_29 (isM_0 hM) ?_
        refine a_iload_n (i := 1) dX12_peel_32 rfl rfl ?_
        refine a_dup2_11 dX12_peel_33 rfl rfl ?_
        refine a_ialdN dX12_peel_34 (isM_63 hM) (by first | with_reducible exact rfl | with_reducible exact ix8 _ _ | with_reducible exact ix12 _ _ | exact rfl) (by omega) (by decide) ?_
        rw [cA2]
        refine a_iconst (v := 1) dX12_peel_35 (by decide) ?_
        refine a_isub dX12_peel_36 ?_
        rw [nI_pred]
        refine a_iastN dX12_peel_37 (isM_63 hM) (by first | with_reducible exact rfl | with_reducible exact ix8 _ _ | with_reducible exact ix12 _ _ | exact rfl) (by omega) (by decide) ?_
        refine a_aload_n (i := 0) dX12_peel_38 rfl rfl ?_
        refine gX12_115 rfl dX12_peel_39 (isM_0 hM) ?_
        refine a_iload_n (i := 1) dX12_peel_42 rfl rfl ?_
        refine a_ialdN dX12_peel_43 (isM_63 hM) (by first | with_reducible exact rfl | with_reducible exact ix8 _ _ | with_reducible exact ix12 _ _ | exact rfl) (by omega) (by decide) ?_
        rw [aWr_s]
        exact a_iret dX12_peel_44 (by exact ⟨rfl, Q3, U3, mLy_t hL0 F3⟩)
      refine a_aload_n (i := 0) dX12_peel_5 rfl rfl ?_
      refine a_iload_n (i := 1) dX12_peel_6 rfl rfl ?_
      refine kX12_498 rfl dX12_peel_7 (Nat.le_of_ble_eq_true rfl) (isM_0 hM) (c_X12_isHouse hM hT) ?_
      refine a_if_eq (tg := 22) dX12_peel_10 (by decide) (fun c_10 => ?_) (fun c_10 => ?_)
      · exact absurd c_10 (bI_p.mpr qa)
      · refine a_aload_n (i := 0) dX12_peel_13 rfl rfl ?_
        refine gX12_115 rfl dX12_peel_14 (isM_0 hM) ?_
        refine a_iload_n (i := 1) dX12_peel_17 rfl rfl ?_
        refine a_ialdN dX12_peel_18 (isM_63 hM) (by first | with_reducible exact rfl | with_reducible exact ix8 _ _ | with_reducible exact ix12 _ _ | exact rfl) (by omega) (by decide) ?_
        rw [f1]
        refine a_if_ne (tg := 24) dX12_peel_19 (by decide) (fun c_19 => ?_) (fun c_19 => ?_)
        · refine a_aload_n (i := 0) dX12_peel_24 rfl rfl ?_
          refine kgX12_507 rfl dX12_peel_25 (Nat.le_of_ble_eq_true rfl) (isM_0 hM) (c_X12_remember (o := uPl Z A) hM ok hZ hS hu0 hR) ?_
          rintro r y ⟨rfl, hU, hF⟩
          exact a_loc _ rfl (a_wk (P y hU hF) (fun r y g => ⟨fun c => absurd qC c, fun _ => g⟩))
        · exact absurd c_19 (nI_ne0 (by omega) (by omega))
    · have qC : ¬ zPlC T Z (nI A) := fun g => q0 (by have := g.2; rwa [eA] at this)
      rw [show Z.2 1 A = 0 by omega] at f1
      refine a_aload_n (i := 0) dX12_peel_5 rfl rfl ?_
      refine a_iload_n (i := 1) dX12_peel_6 rfl rfl ?_
      refine kX12_498 rfl dX12_peel_7 (Nat.le_of_ble_eq_true rfl) (isM_0 hM) (c_X12_isHouse hM hT) ?_
      refine a_if_eq (tg := 22) dX12_peel_10 (by decide) (fun c_10 => ?_) (fun c_10 => ?_)
      · exact absurd c_10 (bI_p.mpr qa)
      · refine a_aload_n (i := 0) dX12_peel_13 rfl rfl ?_
        refine gX12_115 rfl dX12_peel_14 (isM_0 hM) ?_
        refine a_iload_n (i := 1) dX12_peel_17 rfl rfl ?_
        refine a_ialdN dX12_peel_18 (isM_63 hM) (by first | with_reducible exact rfl | with_reducible exact ix8 _ _ | with_reducible exact ix12 _ _ | exact rfl) (by omega) (by decide) ?_
        rw [f1]
        refine a_if_ne (tg := 24) dX12_peel_19 (by decide) (fun c_19 => ?_) (fun c_19 => ?_)
        · exact absurd rfl c_19
        · refine a_iconst (v := (-1)) dX12_peel_22 (by decide) ?_
          exact a_iret dX12_peel_23 (by exact ⟨fun _ => ⟨rfl, rfl⟩, fun g => absurd g qC⟩)
  · have qC : ¬ zPlC T Z a := fun g => qa g.1
    refine a_aload_n (i := 0) dX12_peel_5 rfl rfl ?_
    refine a_iload_n (i := 1) dX12_peel_6 rfl rfl ?_
    refine kX12_498 rfl dX12_peel_7 (Nat.le_of_ble_eq_true rfl) (isM_0 hM) (c_X12_isHouse hM hT) ?_
    refine a_if_eq (tg := 22) dX12_peel_10 (by decide) (fun c_10 => ?_) (fun c_10 => ?_)
    · refine a_iconst (v := (-1)) dX12_peel_22 (by decide) ?_
      exact a_iret dX12_peel_23 (by exact ⟨fun _ => ⟨rfl, rfl⟩, fun g => absurd g qC⟩)
    · exact absurd (bI_p.mp c_10) qa
set_option maxHeartbeats 4000000 in
set_option maxRecDepth 100000 in
theorem c_X12_move {a c : Int32} (hM : D 12 = true) (h : mQ T W Z x) (hu : rUM T u x) (hR : uR T Z u) : aCt l mX12_move (d + 2) D [.ref bM, .int a, .int c] x (fun r y => (¬ zMvC T Z a c → r = some (.int 0) ∧ y = aWr x bM 2 0) ∧ (zMvC T Z a c → r = some (.int 1) ∧ mQ T W (zHome Z a.toNatClampNeg c.toNatClampNeg) y ∧ rUM T (uPush u Z (2, a.toNatClampNeg, Z.2 3 a.toNatClampNeg, 0)) y ∧ mLy x y)) := by
  have hq := mQ_0 h
  have hL0 : mLy x (aWr x bM 2 0) := mLy_0
  have hu0 : rUM T u (aWr x bM 2 0) := rUM_o (aWr_n _ _ _ (by decide)) (aWr_j _ _ _ (by decide)) hu
  refine a_met (by decide) (Nat.le_of_ble_eq_true rfl) (fun v' y q => Or.inr (Or.inl ⟨rfl, by by_cases g : zMvC T Z a c; exact ⟨_, (q.2 g).1, Or.inr rfl⟩; exact ⟨_, (q.1 g).1, Or.inl rfl⟩⟩)) ?_
  refine a_aload_n (i := 0) dX12_move_0 rfl rfl ?_
  refine a_iconst (v := 0) dX12_move_1 (by decide) ?_
  refine pX12_175 rfl dX12_move_2 (isM_0 hM) ?_
  refine a_loc [(0, .ref bM), (1, .int a), (2, .int c)] rfl ?_
  generalize aWr x bM 2 0 = X at *
  obtain ⟨ok, hZ, hT, hW, hS⟩ := hq.1
  have h6 := ok.1
  have h8 := ok.2.1
  by_cases q1 : zIn (T.1 1) a ∧ zIn (T.1 0) c
  · obtain ⟨qa, qc⟩ := q1
    obtain ⟨A, hA, rfl⟩ := zIn_of (by omega) qa
    obtain ⟨B, hB, rfl⟩ := zIn_of (by omega) qc
    have eA : (nI A).toNatClampNeg = A := nI_clamp (by omega)
    have eB : (nI B).toNatClampNeg = B := nI_clamp (by omega)
    have f1 : X.1 (bM + 64) A = nI (Z.2 3 A) := by have := (hS.2.2.2 A hA).1; rwa [Nat.mul_zero, Nat.zero_add] at this
    have hlt := hZ.2.2 A hA
    by_cases q0 : Z.2 3 A = B
    · have qC : ¬ zMvC T Z (nI A) (nI B) := fun g => g.2.2 (by rw [eA, eB]; exact q0)
      refine a_aload_n (i := 0) dX12_move_5 rfl rfl ?_
      refine a_iload_n (i := 1) dX12_move_6 rfl rfl ?_
      refine kX12_492 rfl dX12_move_7 (Nat.le_of_ble_eq_true rfl) (isM_0 hM) (c_X12_isMan hM hT) ?_
      refine a_if_eq (tg := 31) dX12_move_10 (by decide) (fun c_10 => ?_) (fun c_10 => ?_)
      · exact absurd c_10 (bI_p.mpr qa)
      · refine a_aload_n (i := 0) dX12_move_13 rfl rfl ?_
        refine a_iload_n (i := 2) dX12_move_14 rfl rfl ?_
        refine kX12_498 rfl dX12_move_15 (Nat.le_of_ble_eq_true rfl) (isM_0 hM) (c_X12_isHouse hM hT) ?_
        refine a_if_eq (tg := 31) dX12_move_18 (by decide) (fun c_18 => ?_) (fun c_18 => ?_)
        · exact absurd c_18 (bI_p.mpr qc)
        · refine a_aload_n (i := 0) dX12_move_21 rfl rfl ?_
          refine gX12_118 rfl dX12_move_22 (isM_0 hM) ?_
          refine a_iload_n (i := 1) dX12_move_25 rfl rfl ?_
          refine a_ialdN dX12_move_26 (isM_64 hM) (by first | with_reducible exact rfl | with_reducible exact ix8 _ _ | with_reducible exact ix12 _ _ | exact rfl) (by omega) (by decide) ?_
          rw [f1]
          refine a_iload_n (i := 2) dX12_move_27 rfl rfl ?_
          refine a_icmp_ne (tg := 33) dX12_move_28 (by decide) (fun c_28 => ?_) (fun c_28 => ?_)
          · exact absurd (by rw [q0]) c_28
          · refine a_iconst (v := 0) dX12_move_31 (by decide) ?_
            exact a_iret dX12_move_32 (by exact ⟨fun _ => ⟨rfl, rfl⟩, fun g => absurd g qC⟩)
    · have qC : zMvC T Z (nI A) (nI B) := ⟨qa, qc, by rw [eA, eB]; exact q0⟩
      rw [eA, eB]
      have P : ∀ y, rUM T (uPush u Z (2, A, Z.2 3 A, 0)) y → mRe X y → mQ T W (zHome Z A B) (aWr y (bM + 64) A (nI B)) ∧ rUM T (uPush u Z (2, A, Z.2 3 A, 0)) (aWr y (bM + 64) A (nI B)) ∧ mLy x (aWr y (bM + 64) A (nI B)) := by
        intro y hU hF
        have S2 := rM_re ok hZ hF hS
        have F3 : mLy X (aWr y (bM + 64) A (nI B)) := mLy_t (mLy_e hF) (mLy_w (by unfold mIn; omega))
        exact ⟨mQ_s hq F3 (zOk_home hZ hB) (rM_home S2) (by simp [zHome, zuk]) (fun m => by simp [zHome, zuk]) (by simp [zHome, zuk]), rUM_o (aWr_n _ _ _ (by decide)) (by rw [aWr_n _ _ _ (by decide)]) hU, mLy_t hL0 F3⟩
      refine a_aload_n (i := 0) dX12_move_5 rfl rfl ?_
      refine a_iload_n (i := 1) dX12_move_6 rfl rfl ?_
      refine kX12_492 rfl dX12_move_7 (Nat.le_of_ble_eq_true rfl) (isM_0 hM) (c_X12_isMan hM hT) ?_
      refine a_if_eq (tg := 31) dX12_move_10 (by decide) (fun c_10 => ?_) (fun c_10 => ?_)
      · exact absurd c_10 (bI_p.mpr qa)
      · refine a_aload_n (i := 0) dX12_move_13 rfl rfl ?_
        refine a_iload_n (i := 2) dX12_move_14 rfl rfl ?_
        refine kX12_498 rfl dX12_move_15 (Nat.le_of_ble_eq_true rfl) (isM_0 hM) (c_X12_isHouse hM hT) ?_
        refine a_if_eq (tg := 31) dX12_move_18 (by decide) (fun c_18 => ?_) (fun c_18 => ?_)
        · exact absurd c_18 (bI_p.mpr qc)
        · refine a_aload_n (i := 0) dX12_move_21 rfl rfl ?_
          refine gX12_118 rfl dX12_move_22 (isM_0 hM) ?_
          refine a_iload_n (i := 1) dX12_move_25 rfl rfl ?_
          refine a_ialdN dX12_move_26 (isM_64 hM) (by first | with_reducible exact rfl | with_reducible exact ix8 _ _ | with_reducible exact ix12 _ _ | exact rfl) (by omega) (by decide) ?_
          rw [f1]
          refine a_iload_n (i := 2) dX12_move_27 rfl rfl ?_
          refine a_icmp_ne (tg := 33) dX12_move_28 (by decide) (fun c_28 => ?_) (fun c_28 => ?_)
          · refine a_aload_n (i := 0) dX12_move_33 rfl rfl ?_
            refine kgX12_507 rfl dX12_move_34 (Nat.le_of_ble_eq_true rfl) (isM_0 hM) (c_X12_remember (o := (2, A, Z.2 3 A, 0)) hM ok hZ hS hu0 hR) ?_
            rintro r y ⟨rfl, hU, hF⟩
            obtain ⟨Q3, U3, F3⟩ := P y hU hF
            refine a_aload_n (i := 0) dX12_move_37 rfl rfl ?_
            refine gX12_118 rfl dX12_move_38 (isM_0 hM) ?_
            refine a_iload_n (i := 1) dX12_move_41 rfl rfl ?_
            refine a_iload_n (i := 2) dX12_move_42 rfl rfl ?_
            refine a_iastN dX12_move_43 (isM_64 hM) (by first | with_reducible exact rfl | with_reducible exact ix8 _ _ | with_reducible exact ix12 _ _ | exact rfl) (by omega) (by decide) ?_
            refine a_iconst (v := 1) dX12_move_44 (by decide) ?_
            exact a_iret dX12_move_45 (by exact ⟨fun c => absurd qC c, fun _ => ⟨rfl, Q3, U3, F3⟩⟩)
          · exact absurd ((nI_eq (by omega) (by omega)).mp c_28) q0
  · have qC : ¬ zMvC T Z a c := fun g => q1 ⟨g.1, g.2.1⟩
    refine a_aload_n (i := 0) dX12_move_5 rfl rfl ?_
    refine a_iload_n (i := 1) dX12_move_6 rfl rfl ?_
    refine kX12_492 rfl dX12_move_7 (Nat.le_of_ble_eq_true rfl) (isM_0 hM) (c_X12_isMan hM hT) ?_
    refine a_if_eq (tg := 31) dX12_move_10 (by decide) (fun c_10 => ?_) (fun c_10 => ?_)
    · refine a_iconst (v := 0) dX12_move_31 (by decide) ?_
      exact a_iret dX12_move_32 (by exact ⟨fun _ => ⟨rfl, rfl⟩, fun g => absurd g qC⟩)
    · refine a_aload_n (i := 0) dX12_move_13 rfl rfl ?_
      refine a_iload_n (i := 2) dX12_move_14 rfl rfl ?_
      refine kX12_498 rfl dX12_move_15 (Nat.le_of_ble_eq_true rfl) (isM_0 hM) (c_X12_isHouse hM hT) ?_
      refine a_if_eq (tg := 31) dX12_move_18 (by decide) (fun c_18 => ?_) (fun c_18 => ?_)
      · refine a_iconst (v := 0) dX12_move_31 (by decide) ?_
        exact a_iret dX12_move_32 (by exact ⟨fun _ => ⟨rfl, rfl⟩, fun g => absurd g qC⟩)
      · exact absurd ⟨bI_p.mp c_10, bI_p.mp c_18⟩ q1
/-! take, undo -/
def tOff (m : Nat) : Nat := if m = bM + 61 then 0 else if m = bM + 62 then 72 else if m = bM + 63 then 144 else 150
def tf (a b e g : Nat) : Nat → Nat := fun m => if m = bM + 61 then a else if m = bM + 62 then b else if m = bM + 63 then e else if m = bM + 64 then g else 0
/-- of each row, so many places are taken back -/
def mTk (f : Nat → Nat) (x : aS) (n c : Nat) (y : aS) : Prop := y.2 = x.2 ∧ ∀ m j, y.1 m j = if j < f m then x.1 n (c + tOff m + j) else x.1 m j
theorem mTk_w {f g : Nat → Nat} {n c m k : Nat} {y : aS} {v : Int32} (h : mTk f x n c y) (hk : f m = k) (hv : v = x.1 n (c + tOff m + k)) (h1 : ∀ a, a ≠ m → g a = f a) (h2 : g m = k + 1) : mTk g x n c (aWr y m k v) := by
  refine ⟨h.1, fun a j => ?_⟩
  by_cases e : a = m
  · subst e
    by_cases ej : j = k
    · subst ej; rw [aWr_s, if_pos (by omega), hv]
    · rw [aWr_j _ _ _ ej, h.2]
      by_cases q : j < f a
      · rw [if_pos q, if_pos (by omega)]
      · rw [if_neg q, if_neg (by omega)]
  · rw [aWr_n _ _ _ e, h.2, h1 a e]
theorem mTk_n {f : Nat → Nat} {n c j : Nat} {y : aS} (h : mTk f x n c y) (hn : f n = 0) : y.1 n j = x.1 n j := by rw [h.2, hn, if_neg (by omega)]
set_option maxHeartbeats 4000000 in
set_option maxRecDepth 100000 in
theorem c_X12_take {n c len : Nat} (hM : D 12 = true) (hn : aIs D n 14 len) (hl : len < 2147483648) (hc : c + 158 ≤ len) (hn1 : n ≠ bM + 61 ∧ n ≠ bM + 62 ∧ n ≠ bM + 63 ∧ n ≠ bM + 64) : aCt l mX12_take d D [.ref bM, .ref n, .int (nI c)] x (fun v y => v = none ∧ mTk (tf 72 72 6 8) x n c y) := by
  obtain ⟨n1, n2, n3, n4⟩ := hn1
  have tn : ∀ a b e g, tf a b e g n = 0 := fun a b e g => by simp only [tf, if_neg n1, if_neg n2, if_neg n3, if_neg n4]
  refine a_met (by decide) (Nat.le_of_ble_eq_true rfl) (fun v y q => Or.inr (Or.inr (Or.inr ⟨rfl, q.1⟩))) ?_
  have L3 : ∀ (f i : Nat), i + f = 8 → ∀ y, mTk (tf 72 72 6 i) x n c y → aV l mX12_take d D none 70 [(0, .ref bM), (1, .ref n), (2, .int (nI c)), (3, .int (nI i))] [] y (fun v y => v = none ∧ mTk (tf 72 72 6 8) x n c y) := by
    intro f
    induction f with
    | zero =>
      intro i hi y h
      rw [Nat.add_zero] at hi
      subst hi
      refine a_iload_n (i := 3) dX12_take_70 rfl rfl ?_
      refine a_bipush (v := 8) dX12_take_71 (by decide) ?_
      refine a_icmp_ge (tg := 97) dX12_take_73 (by decide) (fun c_73 => ?_) (fun c_73 => ?_)
      · exact a_vret dX12_take_97 (by exact ⟨rfl, h⟩)
      · exact absurd (Int32.le_refl _) c_73
    | succ f ih =>
      intro i hi y h
      have h1 : mTk (tf 72 72 6 (i + 1)) x n c (aWr y (bM + 64) i (y.1 n (c + (150 + i)))) := mTk_w (k := i) h rfl (by rw [mTk_n h (tn _ _ _ _), ← Nat.add_assoc]; rfl) (fun a ha => by unfold tf; simp only [if_neg ha]) rfl
      refine a_iload_n (i := 3) dX12_take_70 rfl rfl ?_
      refine a_bipush (v := 8) dX12_take_71 (by decide) ?_
      refine a_icmp_ge (tg := 97) dX12_take_73 (by decide) (fun c_73 => ?_) (fun c_73 => ?_)
      · exact absurd c_73 (nI_ge (show i < 8 by omega) (by decide))
      · refine a_aload_n (i := 0) dX12_take_76 rfl rfl ?_
        refine gX12_118 rfl dX12_take_77 (isM_0 hM) ?_
        refine a_iload_n (i := 3) dX12_take_80 rfl rfl ?_
        refine a_aload_n (i := 1) dX12_take_81 rfl rfl ?_
        refine a_iload_n (i := 2) dX12_take_82 rfl rfl ?_
        refine a_sipush (v := 150) dX12_take_83 (by decide) ?_
        refine a_iadd dX12_take_86 ?_
        refine a_iload_n (i := 3) dX12_take_87 rfl rfl ?_
        refine a_iadd dX12_take_88 ?_
        refine a_ialdN dX12_take_89 hn (by first | exact ia3 c 150 i | with_reducible exact rfl | with_reducible exact ix8 _ _ | with_reducible exact ix12 _ _ | exact rfl) (by omega) (by first | decide | exact hl) ?_
        refine a_iastN dX12_take_90 (isM_64 hM) (by first | with_reducible exact rfl | with_reducible exact ix8 _ _ | with_reducible exact ix12 _ _ | exact rfl) (by omega) (by first | decide | exact hl) ?_
        refine a_iincK (i := 3) (u := 1) dX12_take_91 rfl (by decide) (by decide) ?_
        refine a_goto (tg := 70) dX12_take_94 (by decide) ?_
        rw [nI_1]; exact a_loc _ rfl (ih (i + 1) (by omega) _ h1)
  have L2 : ∀ (f i : Nat), i + f = 6 → ∀ y, mTk (tf 72 72 i 0) x n c y → aV l mX12_take d D none 41 [(0, .ref bM), (1, .ref n), (2, .int (nI c)), (3, .int (nI i))] [] y (fun v y => v = none ∧ mTk (tf 72 72 6 8) x n c y) := by
    intro f
    induction f with
    | zero =>
      intro i hi y h
      rw [Nat.add_zero] at hi
      subst hi
      refine a_iload_n (i := 3) dX12_take_41 rfl rfl ?_
      refine a_bipush (v := 6) dX12_take_42 (by decide) ?_
      refine a_icmp_ge (tg := 68) dX12_take_44 (by decide) (fun c_44 => ?_) (fun c_44 => ?_)
      · refine a_iconst (v := 0) dX12_take_68 (by decide) ?_
        refine a_istore_n (i := 3) dX12_take_69 rfl (by decide) ?_
        exact a_loc _ rfl (L3 8 0 rfl y h)
      · exact absurd (Int32.le_refl _) c_44
    | succ f ih =>
      intro i hi y h
      have h1 : mTk (tf 72 72 (i + 1) 0) x n c (aWr y (bM + 63) i (y.1 n (c + (144 + i)))) := mTk_w (k := i) h rfl (by rw [mTk_n h (tn _ _ _ _), ← Nat.add_assoc]; rfl) (fun a ha => by unfold tf; simp only [if_neg ha]) rfl
      refine a_iload_n (i := 3) dX12_take_41 rfl rfl ?_
      refine a_bipush (v := 6) dX12_take_42 (by decide) ?_
      refine a_icmp_ge (tg := 68) dX12_take_44 (by decide) (fun c_44 => ?_) (fun c_44 => ?_)
      · exact absurd c_44 (nI_ge (show i < 6 by omega) (by decide))
      · refine a_aload_n (i := 0) dX12_take_47 rfl rfl ?_
        refine gX12_115 rfl dX12_take_48 (isM_0 hM) ?_
        refine a_iload_n (i := 3) dX12_take_51 rfl rfl ?_
        refine a_aload_n (i := 1) dX12_take_52 rfl rfl ?_
        refine a_iload_n (i := 2) dX12_take_53 rfl rfl ?_
        refine a_sipush (v := 144) dX12_take_54 (by decide) ?_
        refine a_iadd dX12_take_57 ?_
        refine a_iload_n (i := 3) dX12_take_58 rfl rfl ?_
        refine a_iadd dX12_take_59 ?_
        refine a_ialdN dX12_take_60 hn (by first | exact ia3 c 144 i | with_reducible exact rfl | with_reducible exact ix8 _ _ | with_reducible exact ix12 _ _ | exact rfl) (by omega) (by first | decide | exact hl) ?_
        refine a_iastN dX12_take_61 (isM_63 hM) (by first | with_reducible exact rfl | with_reducible exact ix8 _ _ | with_reducible exact ix12 _ _ | exact rfl) (by omega) (by first | decide | exact hl) ?_
        refine a_iincK (i := 3) (u := 1) dX12_take_62 rfl (by decide) (by decide) ?_
        refine a_goto (tg := 41) dX12_take_65 (by decide) ?_
        rw [nI_1]; exact a_loc _ rfl (ih (i + 1) (by omega) _ h1)
  have L1 : ∀ (f i : Nat), i + f = 72 → ∀ y, mTk (tf i i 0 0) x n c y → aV l mX12_take d D none 2 [(0, .ref bM), (1, .ref n), (2, .int (nI c)), (3, .int (nI i))] [] y (fun v y => v = none ∧ mTk (tf 72 72 6 8) x n c y) := by
    intro f
    induction f with
    | zero =>
      intro i hi y h
      rw [Nat.add_zero] at hi
      subst hi
      refine a_iload_n (i := 3) dX12_take_2 rfl rfl ?_
      refine a_bipush (v := 72) dX12_take_3 (by decide) ?_
      refine a_icmp_ge (tg := 39) dX12_take_5 (by decide) (fun c_5 => ?_) (fun c_5 => ?_)
      · refine a_iconst (v := 0) dX12_take_39 (by decide) ?_
        refine a_istore_n (i := 3) dX12_take_40 rfl (by decide) ?_
        exact a_loc _ rfl (L2 6 0 rfl y h)
      · exact absurd (Int32.le_refl _) c_5
    | succ f ih =>
      intro i hi y h
      have h1 : mTk (tf (i + 1) i 0 0) x n c (aWr y (bM + 61) i (y.1 n (c + i))) := mTk_w (k := i) h rfl (by rw [mTk_n h (tn _ _ _ _)]; rfl) (fun a ha => by unfold tf; simp only [if_neg ha]) rfl
      have h2 : mTk (tf (i + 1) (i + 1) 0 0) x n c (aWr (aWr y (bM + 61) i (y.1 n (c + i))) (bM + 62) i ((aWr y (bM + 61) i (y.1 n (c + i))).1 n (c + (72 + i)))) := mTk_w (k := i) h1 rfl (by rw [mTk_n h1 (tn _ _ _ _), ← Nat.add_assoc]; rfl) (fun a ha => by unfold tf; simp only [if_neg ha]) rfl
      refine a_iload_n (i := 3) dX12_take_2 rfl rfl ?_
      refine a_bipush (v := 72) dX12_take_3 (by decide) ?_
      refine a_icmp_ge (tg := 39) dX12_take_5 (by decide) (fun c_5 => ?_) (fun c_5 => ?_)
      · exact absurd c_5 (nI_ge (show i < 72 by omega) (by decide))
      · refine a_aload_n (i := 0) dX12_take_8 rfl rfl ?_
        refine gX12_109 rfl dX12_take_9 (isM_0 hM) ?_
        refine a_iload_n (i := 3) dX12_take_12 rfl rfl ?_
        refine a_aload_n (i := 1) dX12_take_13 rfl rfl ?_
        refine a_iload_n (i := 2) dX12_take_14 rfl rfl ?_
        refine a_iload_n (i := 3) dX12_take_15 rfl rfl ?_
        refine a_iadd dX12_take_16 ?_
        refine a_ialdN dX12_take_17 hn (by first | exact ia2 c i | with_reducible exact rfl | with_reducible exact ix8 _ _ | with_reducible exact ix12 _ _ | exact rfl) (by omega) (by first | decide | exact hl) ?_
        refine a_iastN dX12_take_18 (isM_61 hM) (by first | with_reducible exact rfl | with_reducible exact ix8 _ _ | with_reducible exact ix12 _ _ | exact rfl) (by omega) (by first | decide | exact hl) ?_
        refine a_aload_n (i := 0) dX12_take_19 rfl rfl ?_
        refine gX12_112 rfl dX12_take_20 (isM_0 hM) ?_
        refine a_iload_n (i := 3) dX12_take_23 rfl rfl ?_
        refine a_aload_n (i := 1) dX12_take_24 rfl rfl ?_
        refine a_iload_n (i := 2) dX12_take_25 rfl rfl ?_
        refine a_bipush (v := 72) dX12_take_26 (by decide) ?_
        refine a_iadd dX12_take_28 ?_
        refine a_iload_n (i := 3) dX12_take_29 rfl rfl ?_
        refine a_iadd dX12_take_30 ?_
        refine a_ialdN dX12_take_31 hn (by first | exact ia3 c 72 i | with_reducible exact rfl | with_reducible exact ix8 _ _ | with_reducible exact ix12 _ _ | exact rfl) (by omega) (by first | decide | exact hl) ?_
        refine a_iastN dX12_take_32 (isM_62 hM) (by first | with_reducible exact rfl | with_reducible exact ix8 _ _ | with_reducible exact ix12 _ _ | exact rfl) (by omega) (by first | decide | exact hl) ?_
        refine a_iincK (i := 3) (u := 1) dX12_take_33 rfl (by decide) (by decide) ?_
        refine a_goto (tg := 2) dX12_take_36 (by decide) ?_
        rw [nI_1]; exact a_loc _ rfl (ih (i + 1) (by omega) _ h2)
  refine a_iconst (v := 0) dX12_take_0 (by decide) ?_
  refine a_istore_n (i := 3) dX12_take_1 rfl (by decide) ?_
  exact a_loc _ rfl (L1 72 0 rfl x ⟨rfl, fun m j => by rw [show tf 0 0 0 0 m = 0 from by unfold tf; simp only [ite_self], if_neg (by omega)]⟩)
theorem tf_o {m : Nat} (h1 : m ≠ bM + 61) (h2 : m ≠ bM + 62) (h3 : m ≠ bM + 63) (h4 : m ≠ bM + 64) : tf 72 72 6 8 m = 0 := by simp only [tf, if_neg h1, if_neg h2, if_neg h3, if_neg h4]
theorem rM_take {A : zS} {n c : Nat} {y : aS} (ok : zTok T) (hA : zOk T A) (hs : snap T A x n c) (hS : rM T Z x 0) (h : mTk (tf 72 72 6 8) x n c y) : rM T (zTk Z A) y 0 := by
  obtain ⟨h1, h2, h3, h4⟩ := hS
  have h6 := ok.1
  have h8 := ok.2.1
  have eo : ∀ m j, m ≠ bM + 61 → m ≠ bM + 62 → m ≠ bM + 63 → m ≠ bM + 64 → y.1 m j = x.1 m j := fun m j a b c e => by rw [h.2, tf_o a b c e, if_neg (by omega)]
  have e61 : ∀ j, j < 72 → y.1 (bM + 61) j = x.1 n (c + j) := fun j hj => (h.2 (bM + 61) j).trans (if_pos (show j < tf 72 72 6 8 (bM + 61) from hj))
  have e62 : ∀ j, j < 72 → y.1 (bM + 62) j = x.1 n (c + 72 + j) := fun j hj => (h.2 (bM + 62) j).trans (if_pos (show j < tf 72 72 6 8 (bM + 62) from hj))
  have e63 : ∀ j, j < 6 → y.1 (bM + 63) j = x.1 n (c + 144 + j) := fun j hj => (h.2 (bM + 63) j).trans (if_pos (show j < tf 72 72 6 8 (bM + 63) from hj))
  have e64 : ∀ j, j < 8 → y.1 (bM + 64) j = x.1 n (c + 150 + j) := fun j hj => (h.2 (bM + 64) j).trans (if_pos (show j < tf 72 72 6 8 (bM + 64) from hj))
  refine ⟨?_, ?_, fun g hg => ⟨fun w hw => ?_, ?_, fun k hk => ?_⟩, fun m hm => ?_⟩
  · rw [eo _ _ (by decide) (by decide) (by decide) (by decide), h1]; simp [zTk]
  · rw [eo _ _ (by decide) (by decide) (by decide) (by decide), h2]; simp [zTk]
  · rw [eo _ _ (by decide) (by decide) (by decide) (by decide), (h3 g hg).1 w hw]; simp [zTk]
  · rw [Nat.mul_zero, Nat.zero_add, e63 _ (by omega), (hs.1 g hg).1]; simp [zTk]
  · have hk2 : k < A.2 1 g := by simpa [zTk] using hk
    have c12 := (hA.2.1 g hg).1
    obtain ⟨a, b⟩ := (hs.1 g hg).2 k hk2
    rw [Nat.mul_zero, Nat.zero_add, e61 _ (by omega), e62 _ (by omega), a, b]; simp [zTk]
  · obtain ⟨a, b⟩ := h4 m hm
    rw [eo (bM + 65) _ (by decide) (by decide) (by decide) (by decide), eo (bM + 66) _ (by decide) (by decide) (by decide) (by decide), eo (bM + 67) _ (by decide) (by decide) (by decide) (by decide)]
    refine ⟨?_, by simpa [zTk] using b⟩
    rw [Nat.mul_zero, Nat.zero_add, e64 _ (by omega), hs.2 m hm]; simp [zTk]
theorem mLy_take {n c : Nat} {y : aS} (h : mTk (tf 72 72 6 8) x n c y) : mLy x y := by
  refine ⟨fun m j _ _ g => ?_, h.1⟩
  rw [h.2, if_neg]
  intro q
  refine g ?_
  unfold mIn
  by_cases e1 : m = bM + 61
  · subst e1; rw [show tf 72 72 6 8 (bM + 61) = 72 from rfl] at q; omega
  by_cases e2 : m = bM + 62
  · subst e2; rw [show tf 72 72 6 8 (bM + 62) = 72 from rfl] at q; omega
  by_cases e3 : m = bM + 63
  · subst e3; rw [show tf 72 72 6 8 (bM + 63) = 6 from rfl] at q; omega
  by_cases e4 : m = bM + 64
  · subst e4; rw [show tf 72 72 6 8 (bM + 64) = 8 from rfl] at q; omega
  rw [tf_o e1 e2 e3 e4] at q
  omega
set_option maxHeartbeats 4000000 in
set_option maxRecDepth 100000 in
theorem c_X12_undo (hM : D 12 = true) (h : mQ T W Z x) (hu : rUM T u x) (hR : uR T Z u) : aCt l mX12_undo (d + 1) D [.ref bM] x (fun r y => (u.1 = 0 → r = some (.int (-1)) ∧ y = aWr x bM 2 0) ∧ (¬ u.1 = 0 → r = some (.int (nI (u.1 - 1))) ∧ mQ T W (zTk Z (u.2.1 (u.1 - 1))) y ∧ rUM T (uPop u) y ∧ mLy x y)) := by
  have hq := mQ_0 h
  have hL0 : mLy x (aWr x bM 2 0) := mLy_0
  have hu0 : rUM T u (aWr x bM 2 0) := rUM_o (aWr_n _ _ _ (by decide)) (aWr_j _ _ _ (by decide)) hu
  refine a_met (by decide) (Nat.le_of_ble_eq_true rfl) (fun v' y q => Or.inl ⟨rfl, by by_cases g : u.1 = 0; exact ⟨_, (q.1 g).1⟩; exact ⟨_, (q.2 g).1⟩⟩) ?_
  refine a_aload_n (i := 0) dX12_undo_0 rfl rfl ?_
  refine a_iconst (v := 0) dX12_undo_1 (by decide) ?_
  refine pX12_175 rfl dX12_undo_2 (isM_0 hM) ?_
  refine a_loc [(0, .ref bM)] rfl ?_
  generalize aWr x bM 2 0 = X at *
  have hu1 := hu0.1
  obtain ⟨ok, hZ, hT, hW, hS⟩ := hq.1
  by_cases q : u.1 = 0
  · rw [q] at hu1
    refine a_aload_n (i := 0) dX12_undo_5 rfl rfl ?_
    refine gX12_401 rfl dX12_undo_6 (isM_0 hM) ?_
    rw [hu1]
    refine a_if_ne (tg := 14) dX12_undo_9 (by decide) (fun c_9 => ?_) (fun c_9 => ?_)
    · exact absurd rfl c_9
    · refine a_iconst (v := (-1)) dX12_undo_12 (by decide) ?_
      exact a_iret dX12_undo_13 (by exact ⟨fun _ => ⟨rfl, rfl⟩, fun g => absurd q g⟩)
  · obtain ⟨k, hk⟩ : ∃ k, u.1 = k + 1 := ⟨u.1 - 1, by omega⟩
    have h20 := hR.1
    have hA := (hR.2 k (by omega)).1
    have hs := hu0.2 k (by omega)
    rw [hk, Nat.add_sub_cancel]
    rw [hk] at hu1
    have e85 : (aWr X bM 83 (nI k)).1 (bM + 85) = X.1 (bM + 85) := aWr_n _ _ _ (by decide)
    have hs1 : snap T (u.2.1 k) (aWr X bM 83 (nI k)) (bM + 85) (158 * k) := by unfold snap at hs ⊢; rw [e85]; exact hs
    have L1 : mLy X (aWr X bM 83 (nI k)) := ⟨fun n j a _ _ => aWr_o _ _ (fun e => a ⟨e.1, Or.inr e.2⟩), rfl⟩
    have S1 : rM T Z (aWr X bM 83 (nI k)) 0 := rM_same ok hZ (fun n j hj => by rw [aWr_n _ _ _ (by unfold mIn at hj; omega)]) hS
    have E : ∀ y, mTk (tf 72 72 6 8) (aWr X bM 83 (nI k)) (bM + 85) (158 * k) y → y.1 bM 83 = nI k ∧ mQ T W (zTk Z (u.2.1 k)) y ∧ rUM T (uPop u) y ∧ mLy x y := by
      intro y hy
      have S3 := rM_take ok hA hs1 S1 hy
      have F3 := mLy_t L1 (mLy_take hy)
      have ey : ∀ m, m = bM ∨ m = bM + 85 → y.1 m = (aWr X bM 83 (nI k)).1 m := fun m hm => by
        funext j
        rw [hy.2, tf_o (by omega) (by omega) (by omega) (by omega), if_neg (by omega)]
      refine ⟨by rw [ey _ (Or.inl rfl), aWr_s], mQ_s hq F3 (zOk_tk hZ hA) S3 (by simp [zTk]) (fun m => by simp [zTk]) (by simp [zTk]), ⟨?_, fun j hj => ?_⟩, mLy_t hL0 F3⟩
      · rw [ey _ (Or.inl rfl), aWr_s]
        show nI k = nI (u.1 - 1)
        rw [hk]; rfl
      · have hj2 : j < u.1 - 1 := hj
        have := hu0.2 j (by omega)
        show snap T (u.2.1 j) y (bM + 85) (158 * j)
        unfold snap at this ⊢
        rw [ey _ (Or.inr rfl), e85]
        exact this
    refine a_aload_n (i := 0) dX12_undo_5 rfl rfl ?_
    refine gX12_401 rfl dX12_undo_6 (isM_0 hM) ?_
    rw [hu1]
    refine a_if_ne (tg := 14) dX12_undo_9 (by decide) (fun c_9 => ?_) (fun c_9 => ?_)
    · refine a_aload_n (i := 0) dX12_undo_14 rfl rfl ?_
      refine a_dup dX12_undo_15 rfl ?_
      refine gX12_401 rfl dX12_undo_16 (isM_0 hM) ?_
      rw [hu1]
      refine a_iconst (v := 1) dX12_undo_19 (by decide) ?_
      refine a_isub dX12_undo_20 ?_
      rw [nI_pred]
      refine pX12_401 rfl dX12_undo_21 (isM_0 hM) ?_
      refine a_aload_n (i := 0) dX12_undo_24 rfl rfl ?_
      refine a_aload_n (i := 0) dX12_undo_25 rfl rfl ?_
      refine gX12_157 rfl dX12_undo_26 (isM_0 hM) ?_
      refine a_sipush (v := 158) dX12_undo_29 (by decide) ?_
      refine a_aload_n (i := 0) dX12_undo_32 rfl rfl ?_
      refine gX12_401 rfl dX12_undo_33 (isM_0 hM) ?_
      rw [aWr_s]
      refine a_imul dX12_undo_36 ?_
      rw [i158]
      refine kgX12_574 rfl dX12_undo_37 (Nat.le_of_ble_eq_true rfl) (isM_0 hM) (c_X12_take hM (isM_85 hM) (by decide) (show 158 * k + 158 ≤ 3160 by omega) (by decide)) ?_
      rintro v y ⟨rfl, hy⟩
      obtain ⟨e83, Q3, U3, F3⟩ := E y hy
      refine a_aload_n (i := 0) dX12_undo_40 rfl rfl ?_
      refine gX12_401 rfl dX12_undo_41 (isM_0 hM) ?_
      rw [e83]
      exact a_iret dX12_undo_44 (by exact ⟨fun g => absurd g (by omega), fun _ => ⟨rfl, Q3, U3, F3⟩⟩)
    · exact absurd c_9 (nI_ne0 (by omega) (by omega))
end qP
