/-! LastHouseModel: lawOf, boundLaw -/
def mX (x : aS) (e : Bool) (row : Nat → Int64) : aS := aRw (aWr x bM 58 (bI e)) (bM + 58) row
theorem mX_58 (x : aS) (e : Bool) (row : Nat → Int64) : (mX x e row).1 bM 58 = bI e := aWr_s x bM 58 (bI e)
theorem mX_n {x : aS} {e : Bool} {row : Nat → Int64} {n : Nat} (h : n ≠ bM) : (mX x e row).1 n = x.1 n := aWr_n x 58 (bI e) h
theorem mX_2 (x : aS) (e : Bool) (row : Nat → Int64) : (mX x e row).2 (bM + 58) = row := aRw_at _ _ _
theorem mX_2n {x : aS} {e : Bool} {row : Nat → Int64} {n : Nat} (h : n ≠ bM + 58) : (mX x e row).2 n = x.2 n := by
  show (if n = bM + 58 then row else x.2 n) = x.2 n
  rw [if_neg h]
theorem aWr_wr (x : aS) (n j : Nat) (u v : Int32) : aWr (aWr x n j u) n j v = aWr x n j v := by
  unfold aWr
  congr 1
  funext a
  by_cases h : a = n
  · simp only [h, if_true]
    funext i
    by_cases g : i = j <;> simp [g]
  · simp [h]
theorem mX_e (x : aS) (e e2 : Bool) (row : Nat → Int64) : aWr (mX x e row) bM 58 (bI e2) = mX x e2 row := by
  show aWr (aRw (aWr x bM 58 (bI e)) (bM + 58) row) bM 58 (bI e2) = aRw (aWr x bM 58 (bI e2)) (bM + 58) row
  have : aWr (aRw (aWr x bM 58 (bI e)) (bM + 58) row) bM 58 (bI e2) = aRw (aWr (aWr x bM 58 (bI e)) bM 58 (bI e2)) (bM + 58) row := rfl
  rw [this, aWr_wr]
theorem mX_l (x : aS) (e : Bool) (row : Nat → Int64) (j : Nat) (v : Int64) : aWl (mX x e row) (bM + 58) j v = mX x e (vp_updL row j v) := aRw_wl _ _ _ _ _
theorem mX_0 (x : aS) : mX x false (x.2 (bM + 58)) = aWr x bM 58 0 := by
  unfold mX
  exact aRw_self (aWr x bM 58 0) (bM + 58)
def mGoN (x : aS) (P O : Nat → Nat) (i : Nat) (q : Bool × (Nat → Int64)) : Bool × (Nat → Int64) :=
  ((mNode (x.1 (bM + 46) i) (x.1 (bM + 47) i) (x.2 (bM + 57) (P i)) (q.2 (P i)) (q.2 (O i)) q.1).2, vp_updL q.2 i (mNode (x.1 (bM + 46) i) (x.1 (bM + 47) i) (x.2 (bM + 57) (P i)) (q.2 (P i)) (q.2 (O i)) q.1).1)
def mRun (x : aS) (P O : Nat → Nat) (f s : Nat) : Bool × (Nat → Int64) := lp (mGoN x P O) f s (false, x.2 (bM + 58))
/-- the nodes f .. f + s are well made -/
def mNok (x : aS) (P O : Nat → Nat) (f s : Nat) : Prop := ∀ i, f ≤ i → i < f + s → (¬ x.1 (bM + 46) i = 0 → x.1 (bM + 47) i = nI (P i) ∧ P i < 64 ∧ (x.1 (bM + 46) i = 1 → P i < 7)) ∧ (¬ x.1 (bM + 46) i = 0 → ¬ x.1 (bM + 46) i = 1 → ¬ x.1 (bM + 46) i = 2 → x.1 (bM + 48) i = nI (O i) ∧ O i < 64)
set_option maxHeartbeats 4000000 in
set_option maxRecDepth 100000 in
theorem c_X12_lawOf {l : Launch} {d : Nat} {D : Nat → Bool} {q f s : Nat} {P O : Nat → Nat} {x : aS} (hM : D 12 = true) (hq : q < 3) (hf : x.1 (bM + 44) q = nI f) (hg : x.1 (bM + 45) q = nI (f + s)) (hs : 0 < s) (h64 : f + s ≤ 64) (hN : mNok x P O f s) : aDJ l mX12_lawOf (d + 2) D [.ref bM, .int (nI q)] x (if (mRun x P O f s).1 then 0 else (mRun x P O f s).2 (f + s - 1)) (mX x (mRun x P O f s).1 (mRun x P O f s).2) := by
  have L : ∀ (k i : Nat), i + k = f + s → f ≤ i → ∀ (e : Bool) (row : Nat → Int64), aV l mX12_lawOf (d + 2) D none 12 [(0, .ref bM), (1, .int (nI q)), (2, .int (nI i))] [] (mX x e row) (fun v y => v = some (.long (if (lp (mGoN x P O) i k (e, row)).1 then 0 else (lp (mGoN x P O) i k (e, row)).2 (f + s - 1))) ∧ y = mX x (lp (mGoN x P O) i k (e, row)).1 (lp (mGoN x P O) i k (e, row)).2) := by
    intro k
    induction k with
    | zero =>
      intro i hi hfi e row
      rw [Nat.add_zero] at hi
      refine a_iload_n (i := 2) dX12_lawOf_12 rfl rfl ?_
      refine a_aload_n (i := 0) dX12_lawOf_13 rfl rfl ?_
      refine gX12_81 rfl dX12_lawOf_14 (isM_0 hM) ?_
      refine a_iload_n (i := 1) dX12_lawOf_17 rfl rfl ?_
      refine a_ialdN dX12_lawOf_18 (isM_45 hM) (by first | with_reducible exact rfl | with_reducible exact ix8 _ _ | with_reducible exact ix12 _ _ | exact rfl) (by omega) (by decide) ?_
      rw [mX_n (by omega), hg]
      refine a_icmp_ge (tg := 39) dX12_lawOf_19 (by decide) (fun c_19 => ?_) (fun c_19 => ?_)
      · refine a_aload_n (i := 0) dX12_lawOf_39 rfl rfl ?_
        refine gX12_369 rfl dX12_lawOf_40 (isM_0 hM) ?_
        rw [mX_58]
        refine a_if_eq (tg := 50) dX12_lawOf_43 (by decide) (fun c_43 => ?_) (fun c_43 => ?_)
        · have e0 : e = false := (bI_z e).mp c_43
          refine a_aload_n (i := 0) dX12_lawOf_50 rfl rfl ?_
          refine gX12_103 rfl dX12_lawOf_51 (isM_0 hM) ?_
          refine a_aload_n (i := 0) dX12_lawOf_54 rfl rfl ?_
          refine gX12_81 rfl dX12_lawOf_55 (isM_0 hM) ?_
          refine a_iload_n (i := 1) dX12_lawOf_58 rfl rfl ?_
          refine a_ialdN dX12_lawOf_59 (isM_45 hM) (by first | with_reducible exact rfl | with_reducible exact ix8 _ _ | with_reducible exact ix12 _ _ | exact rfl) (by omega) (by decide) ?_
          rw [mX_n (by omega), hg]
          refine a_iconst (v := 1) dX12_lawOf_60 (by decide) ?_
          refine a_isub dX12_lawOf_61 ?_
          rw [show nI (f + s) - 1 = nI (f + s - 1) from by obtain ⟨r, hr⟩ : ∃ r, f + s = r + 1 := ⟨f + s - 1, by omega⟩; rw [hr, nI_pred]; rfl]
          refine a_laldN dX12_lawOf_62 (isM_58 hM) (by first | with_reducible exact rfl | with_reducible exact ix8 _ _ | with_reducible exact ix12 _ _ | exact rfl) (by omega) (by decide) ?_
          rw [mX_2]
          exact a_lret dX12_lawOf_63 (by subst e0; exact ⟨rfl, rfl⟩)
        · have e0 : e = true := by cases e; exact absurd rfl c_43; rfl
          refine a_lconst (v := 0) dX12_lawOf_46 (by decide) ?_
          refine a_goto (tg := 63) dX12_lawOf_47 (by decide) ?_
          exact a_lret dX12_lawOf_63 (by subst e0; exact ⟨rfl, rfl⟩)
      · exact absurd (by rw [hi]; exact Int32.le_refl _) c_19
    | succ k ih =>
      intro i hi hfi e row
      obtain ⟨n1, n2⟩ := hN i hfi (by omega)
      have hv := c_X12_valueOf (l := l) (d := d) (D := D) (k := i) (P := P i) (O := O i) (c := x.1 (bM + 46) i) (e := e) (x := mX x e row) hM (mX_58 _ _ _) (by omega) (by rw [mX_n (by omega)]) (fun h => by rw [mX_n (by omega)]; exact n1 h) (fun a b c => by rw [mX_n (by omega)]; exact n2 a b c)
      rw [mX_2, mX_2n (by omega), mX_n (show bM + 47 ≠ bM by omega), mX_e] at hv
      refine a_iload_n (i := 2) dX12_lawOf_12 rfl rfl ?_
      refine a_aload_n (i := 0) dX12_lawOf_13 rfl rfl ?_
      refine gX12_81 rfl dX12_lawOf_14 (isM_0 hM) ?_
      refine a_iload_n (i := 1) dX12_lawOf_17 rfl rfl ?_
      refine a_ialdN dX12_lawOf_18 (isM_45 hM) (by first | with_reducible exact rfl | with_reducible exact ix8 _ _ | with_reducible exact ix12 _ _ | exact rfl) (by omega) (by decide) ?_
      rw [mX_n (by omega), hg]
      refine a_icmp_ge (tg := 39) dX12_lawOf_19 (by decide) (fun c_19 => ?_) (fun c_19 => ?_)
      · exact absurd c_19 (nI_ge (show i < f + s by omega) (by omega))
      · refine a_aload_n (i := 0) dX12_lawOf_22 rfl rfl ?_
        refine gX12_103 rfl dX12_lawOf_23 (isM_0 hM) ?_
        refine a_iload_n (i := 2) dX12_lawOf_26 rfl rfl ?_
        refine a_aload_n (i := 0) dX12_lawOf_27 rfl rfl ?_
        refine a_iload_n (i := 2) dX12_lawOf_28 rfl rfl ?_
        refine kX12_446 rfl dX12_lawOf_29 (Nat.le_of_ble_eq_true rfl) (isM_0 hM) (hv) ?_
        refine a_lastN dX12_lawOf_32 (isM_58 hM) (by first | with_reducible exact rfl | with_reducible exact ix8 _ _ | with_reducible exact ix12 _ _ | exact rfl) (by omega) (by decide) ?_
        rw [mX_l]
        refine a_iincK (i := 2) (u := 1) dX12_lawOf_33 rfl (by decide) (by decide) ?_
        refine a_goto (tg := 12) dX12_lawOf_36 (by decide) ?_
        rw [nI_1]; exact a_loc _ rfl (ih (i + 1) (by omega) (by omega) _ _)
  refine a_metJ (by decide) (Nat.le_of_ble_eq_true rfl) rfl ?_
  refine a_aload_n (i := 0) dX12_lawOf_0 rfl rfl ?_
  refine a_iconst (v := 0) dX12_lawOf_1 (by decide) ?_
  refine pX12_369 rfl dX12_lawOf_2 (isM_0 hM) (by first | exact Or.inl rfl | exact Or.inr rfl | assumption) ?_
  refine a_aload_n (i := 0) dX12_lawOf_5 rfl rfl ?_
  refine gX12_78 rfl dX12_lawOf_6 (isM_0 hM) ?_
  refine a_iload_n (i := 1) dX12_lawOf_9 rfl rfl ?_
  refine a_ialdN dX12_lawOf_10 (isM_44 hM) (by first | with_reducible exact rfl | with_reducible exact ix8 _ _ | with_reducible exact ix12 _ _ | exact rfl) (by omega) (by decide) ?_
  rw [aWr_n _ _ _ (by omega), hf]
  refine a_istore_n (i := 2) dX12_lawOf_11 rfl (by decide) ?_
  rw [← mX_0]; exact a_loc _ rfl (L s f rfl (Nat.le_refl f) false (x.2 (bM + 58)))
def zBound (v : Int64) (most : Int32) : Int32 := if v < 0 then 0 else if most.toInt64 < v then most else v.toInt32
set_option maxHeartbeats 4000000 in
set_option maxRecDepth 100000 in
theorem c_X12_boundLaw {l : Launch} {d : Nat} {D : Nat → Bool} {q f s : Nat} {t : Bool} {P O : Nat → Nat} {w most : Int32} {x : aS} (hM : D 12 = true) (hq : q < 3) (ht : x.1 (bM + 43) q = bI t) (hT : t = true → x.1 (bM + 44) q = nI f ∧ x.1 (bM + 45) q = nI (f + s) ∧ 0 < s ∧ f + s ≤ 64 ∧ mNok x P O f s) : aDI l mX12_boundLaw (d + 3) D [.ref bM, .int (nI q), .int w, .int most] x (if t = false ∨ (mRun x P O f s).1 = true then w else zBound ((mRun x P O f s).2 (f + s - 1)) most) (if t = false then x else mX x (mRun x P O f s).1 (mRun x P O f s).2) := by
  refine a_metI (by decide) (Nat.le_of_ble_eq_true rfl) rfl ?_
  cases t with
  | false =>
    rw [if_pos (Or.inl rfl), if_pos rfl]
    refine a_aload_n (i := 0) dX12_boundLaw_0 rfl rfl ?_
    refine gX12_75 rfl dX12_boundLaw_1 (isM_0 hM) ?_
    refine a_iload_n (i := 1) dX12_boundLaw_4 rfl rfl ?_
    refine a_zaldN dX12_boundLaw_5 (isM_43 hM) (by first | with_reducible exact rfl | with_reducible exact ix8 _ _ | with_reducible exact ix12 _ _ | exact rfl) (by omega) (by decide) ?_
    rw [ht]
    refine a_if_ne (tg := 11) dX12_boundLaw_6 (by decide) (fun c_6 => ?_) (fun c_6 => ?_)
    · exact absurd rfl c_6
    · refine a_iload_n (i := 2) dX12_boundLaw_9 rfl rfl ?_
      exact a_iret dX12_boundLaw_10 (by exact ⟨rfl, rfl⟩)
  | true =>
    obtain ⟨hf, hg, hs, h64, hN⟩ := hT rfl
    rw [if_neg (show ¬ true = false by decide)]
    have hc := c_X12_lawOf (l := l) (d := d) (D := D) (x := x) hM hq hf hg hs h64 hN
    obtain ⟨e, he⟩ : ∃ e, (mRun x P O f s).1 = e := ⟨_, rfl⟩
    obtain ⟨row, hr⟩ : ∃ row, (mRun x P O f s).2 = row := ⟨_, rfl⟩
    rw [he, hr] at hc ⊢
    cases e with
    | true =>
      rw [if_pos (Or.inr rfl)]
      refine a_aload_n (i := 0) dX12_boundLaw_0 rfl rfl ?_
      refine gX12_75 rfl dX12_boundLaw_1 (isM_0 hM) ?_
      refine a_iload_n (i := 1) dX12_boundLaw_4 rfl rfl ?_
      refine a_zaldN dX12_boundLaw_5 (isM_43 hM) (by first | with_reducible exact rfl | with_reducible exact ix8 _ _ | with_reducible exact ix12 _ _ | exact rfl) (by omega) (by decide) ?_
      rw [ht]
      refine a_if_ne (tg := 11) dX12_boundLaw_6 (by decide) (fun c_6 => ?_) (fun c_6 => ?_)
      · refine a_aload_n (i := 0) dX12_boundLaw_11 rfl rfl ?_
        refine a_iload_n (i := 1) dX12_boundLaw_12 rfl rfl ?_
        refine kX12_450 rfl dX12_boundLaw_13 (Nat.le_of_ble_eq_true rfl) (isM_0 hM) (hc) ?_
        refine a_lstore (i := 4) dX12_boundLaw_16 (by decide) ?_
        refine a_aload_n (i := 0) dX12_boundLaw_18 rfl rfl ?_
        refine gX12_369 rfl dX12_boundLaw_19 (isM_0 hM) ?_
        rw [mX_58]
        refine a_if_eq (tg := 27) dX12_boundLaw_22 (by decide) (fun c_22 => ?_) (fun c_22 => ?_)
        · exact absurd c_22 (by decide)
        · refine a_iload_n (i := 2) dX12_boundLaw_25 rfl rfl ?_
          exact a_iret dX12_boundLaw_26 (by exact ⟨rfl, rfl⟩)
      · exact absurd c_6 (by decide)
    | false =>
      rw [if_neg (show ¬ (true = false ∨ false = true) by decide)]
      rw [if_neg (show ¬ false = true by decide)] at hc
      refine a_aload_n (i := 0) dX12_boundLaw_0 rfl rfl ?_
      refine gX12_75 rfl dX12_boundLaw_1 (isM_0 hM) ?_
      refine a_iload_n (i := 1) dX12_boundLaw_4 rfl rfl ?_
      refine a_zaldN dX12_boundLaw_5 (isM_43 hM) (by first | with_reducible exact rfl | with_reducible exact ix8 _ _ | with_reducible exact ix12 _ _ | exact rfl) (by omega) (by decide) ?_
      rw [ht]
      refine a_if_ne (tg := 11) dX12_boundLaw_6 (by decide) (fun c_6 => ?_) (fun c_6 => ?_)
      · refine a_aload_n (i := 0) dX12_boundLaw_11 rfl rfl ?_
        refine a_iload_n (i := 1) dX12_boundLaw_12 rfl rfl ?_
        refine kX12_450 rfl dX12_boundLaw_13 (Nat.le_of_ble_eq_true rfl) (isM_0 hM) (hc) ?_
        refine a_lstore (i := 4) dX12_boundLaw_16 (by decide) ?_
        refine a_aload_n (i := 0) dX12_boundLaw_18 rfl rfl ?_
        refine gX12_369 rfl dX12_boundLaw_19 (isM_0 hM) ?_
        rw [mX_58]
        refine a_if_eq (tg := 27) dX12_boundLaw_22 (by decide) (fun c_22 => ?_) (fun c_22 => ?_)
        · refine a_lload (i := 4) dX12_boundLaw_27 rfl ?_
          refine a_lconst (v := 0) dX12_boundLaw_29 (by decide) ?_
          refine a_lcmp dX12_boundLaw_30 ?_
          refine a_if_ge (tg := 38) dX12_boundLaw_31 (by decide) (fun c_31 => ?_) (fun c_31 => ?_)
          · have z0 : ¬ row (f + s - 1) < 0 := l_not_lt.mpr ((lg_cmp_ge _ _).mp c_31)
            refine a_lload (i := 4) dX12_boundLaw_38 rfl ?_
            refine a_iload_n (i := 3) dX12_boundLaw_40 rfl rfl ?_
            refine a_i2l dX12_boundLaw_41 ?_
            refine a_lcmp dX12_boundLaw_42 ?_
            refine a_if_le (tg := 50) dX12_boundLaw_43 (by decide) (fun c_43 => ?_) (fun c_43 => ?_)
            · have z : zBound (row (f + s - 1)) most = (row (f + s - 1)).toInt32 := by rw [zBound, if_neg z0, if_neg (l_not_lt.mpr ((lg_cmp_le _ _).mp c_43))]
              refine a_lload (i := 4) dX12_boundLaw_50 rfl ?_
              refine a_l2i dX12_boundLaw_52 ?_
              exact a_iret dX12_boundLaw_53 (by rw [z]; exact ⟨rfl, rfl⟩)
            · have z : zBound (row (f + s - 1)) most = most := by rw [zBound, if_neg z0, if_pos (l_not_le.mp (fun h => c_43 ((lg_cmp_le _ _).mpr h)))]
              refine a_iload_n (i := 3) dX12_boundLaw_46 rfl rfl ?_
              refine a_goto (tg := 53) dX12_boundLaw_47 (by decide) ?_
              exact a_iret dX12_boundLaw_53 (by rw [z]; exact ⟨rfl, rfl⟩)
          · have z : zBound (row (f + s - 1)) most = 0 := if_pos (l_not_le.mp (fun h => c_31 ((lg_cmp_ge _ _).mpr h)))
            refine a_iconst (v := 0) dX12_boundLaw_34 (by decide) ?_
            refine a_goto (tg := 53) dX12_boundLaw_35 (by decide) ?_
            exact a_iret dX12_boundLaw_53 (by rw [z]; exact ⟨rfl, rfl⟩)
        · exact absurd rfl c_22
      · exact absurd c_6 (by decide)
