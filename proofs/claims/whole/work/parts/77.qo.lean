/-! what the model keeps: put, take, remember -/
/-- layers and homes of A, kept in the row n from c on -/
def snap (T : zT) (A : zS) (x : aS) (n c : Nat) : Prop := (∀ h, h < T.1 0 → x.1 n (c + 144 + h) = nI (A.2 1 h) ∧ ∀ j, j < A.2 1 h → x.1 n (c + (12 * h + j)) = nI (A.2 2 (h * 12 + j)) ∧ x.1 n (c + 72 + (12 * h + j)) = A.1 2 (h * 12 + j)) ∧ ∀ m, m < T.1 1 → x.1 n (c + 150 + m) = nI (A.2 3 m)
def rUM (T : zT) (u : zU) (x : aS) : Prop := x.1 bM 83 = nI u.1 ∧ ∀ k, k < u.1 → snap T (u.2.1 k) x (bM + 85) (158 * k)
/-- what stands at the place q of what is kept -/
def mSrc (x : aS) (q : Nat) : Int32 := if q < 72 then x.1 (bM + 61) q else if q < 144 then x.1 (bM + 62) (q - 72) else if q < 150 then x.1 (bM + 63) (q - 144) else x.1 (bM + 64) (q - 150)
/-- places below a, and from 72 up to b, are kept -/
def mPw (a b : Nat) (x : aS) (n c : Nat) (y : aS) : Prop := y.2 = x.2 ∧ (∀ m, m ≠ n → y.1 m = x.1 m) ∧ ∀ j, y.1 n j = if c ≤ j ∧ (j - c < a ∨ (72 ≤ j - c ∧ j - c < b)) then mSrc x (j - c) else x.1 n j
section qO
variable {l : Launch} {d : Nat} {D : Nat → Bool} {T : zT} {W : Nat → zL} {Z : zS} {t : Nat} {x : aS} {u : zU}
theorem mPw_w {a b a' b' n c q : Nat} {y : aS} {v : Int32} (h : mPw a b x n c y) (hv : v = mSrc x q) (hq : ∀ r, (r < a' ∨ (72 ≤ r ∧ r < b')) ↔ ((r < a ∨ (72 ≤ r ∧ r < b)) ∨ r = q)) : mPw a' b' x n c (aWr y n (c + q) v) := by
  obtain ⟨h1, h2, h3⟩ := h
  refine ⟨h1, fun m hm => by rw [aWr_n _ _ _ hm, h2 m hm], fun j => ?_⟩
  by_cases e : j = c + q
  · subst e
    rw [aWr_s, hv, if_pos ⟨by omega, by rw [hq]; exact Or.inr (by omega)⟩, Nat.add_sub_cancel_left]
  · rw [aWr_j _ _ _ e, h3]
    by_cases g : c ≤ j ∧ (j - c < a ∨ (72 ≤ j - c ∧ j - c < b))
    · rw [if_pos g, if_pos ⟨g.1, (hq _).mpr (Or.inl g.2)⟩]
    · rw [if_neg g, if_neg (fun k => (hq _).mp k.2 |>.elim (fun w => g ⟨k.1, w⟩) (fun w => e (by omega)))]
theorem mPw_r {n c : Nat} : mPw 0 72 x n c x := ⟨rfl, fun _ _ => rfl, fun j => by rw [if_neg (by omega)]⟩
theorem mSrc_1 {q : Nat} (h : q < 72) : mSrc x q = x.1 (bM + 61) q := if_pos h
theorem mSrc_2 {q : Nat} (h : q < 72) : mSrc x (72 + q) = x.1 (bM + 62) q := by rw [mSrc, if_neg (by omega), if_pos (by omega), Nat.add_sub_cancel_left]
theorem mSrc_3 {q : Nat} (h : q < 6) : mSrc x (144 + q) = x.1 (bM + 63) q := by rw [mSrc, if_neg (by omega), if_neg (by omega), if_pos (by omega), Nat.add_sub_cancel_left]
theorem mSrc_4 {q : Nat} : mSrc x (150 + q) = x.1 (bM + 64) q := by rw [mSrc, if_neg (by omega), if_neg (by omega), if_neg (by omega), Nat.add_sub_cancel_left]
theorem ia2 (c k : Nat) : nI c + nI k = nI (c + k) := nI_add c k
theorem ia3 (c q k : Nat) : nI c + nI q + nI k = nI (c + (q + k)) := by rw [nI_add, nI_add, Nat.add_assoc]
set_option maxHeartbeats 4000000 in
set_option maxRecDepth 100000 in
theorem c_X12_put {n c len : Nat} (hM : D 12 = true) (hn : aIs D n 14 len) (hl : len < 2147483648) (hc : c + 158 ≤ len) (hn1 : n ≠ bM + 61 ∧ n ≠ bM + 62 ∧ n ≠ bM + 63 ∧ n ≠ bM + 64) : aCt l mX12_put d D [.ref bM, .ref n, .int (nI c)] x (fun v y => v = none ∧ mPw 72 158 x n c y) := by
  obtain ⟨n1, n2, n3, n4⟩ := hn1
  refine a_met (by decide) (Nat.le_of_ble_eq_true rfl) (fun v y q => Or.inr (Or.inr (Or.inr ⟨rfl, q.1⟩))) ?_
  have L3 : ∀ (f i : Nat), i + f = 8 → ∀ y, mPw 72 (150 + i) x n c y → aV l mX12_put d D none 70 [(0, .ref bM), (1, .ref n), (2, .int (nI c)), (3, .int (nI i))] [] y (fun v y => v = none ∧ mPw 72 158 x n c y) := by
    intro f
    induction f with
    | zero =>
      intro i hi y h
      rw [Nat.add_zero] at hi
      subst hi
      refine a_iload_n (i := 3) dX12_put_70 rfl rfl ?_
      refine a_bipush (v := 8) dX12_put_71 (by decide) ?_
      refine a_icmp_ge (tg := 97) dX12_put_73 (by decide) (fun c_73 => ?_) (fun c_73 => ?_)
      · exact a_vret dX12_put_97 (by exact ⟨rfl, h⟩)
      · exact absurd (Int32.le_refl _) c_73
    | succ f ih =>
      intro i hi y h
      have es : y.1 (bM + 64) i = mSrc x (150 + i) := by rw [h.2.1 _ (Ne.symm n4), mSrc_4]
      refine a_iload_n (i := 3) dX12_put_70 rfl rfl ?_
      refine a_bipush (v := 8) dX12_put_71 (by decide) ?_
      refine a_icmp_ge (tg := 97) dX12_put_73 (by decide) (fun c_73 => ?_) (fun c_73 => ?_)
      · exact absurd c_73 (nI_ge (show i < 8 by omega) (by decide))
      · refine a_aload_n (i := 1) dX12_put_76 rfl rfl ?_
        refine a_iload_n (i := 2) dX12_put_77 rfl rfl ?_
        refine a_sipush (v := 150) dX12_put_78 (by decide) ?_
        refine a_iadd dX12_put_81 ?_
        refine a_iload_n (i := 3) dX12_put_82 rfl rfl ?_
        refine a_iadd dX12_put_83 ?_
        refine a_aload_n (i := 0) dX12_put_84 rfl rfl ?_
        refine gX12_118 rfl dX12_put_85 (isM_0 hM) ?_
        refine a_iload_n (i := 3) dX12_put_88 rfl rfl ?_
        refine a_ialdN dX12_put_89 (isM_64 hM) (by first | with_reducible exact rfl | with_reducible exact ix8 _ _ | with_reducible exact ix12 _ _ | exact rfl) (by omega) (by first | decide | exact hl) ?_
        refine a_iastN dX12_put_90 hn (by first | exact ia3 c 150 i | with_reducible exact rfl | with_reducible exact ix8 _ _ | with_reducible exact ix12 _ _ | exact rfl) (by omega) (by first | decide | exact hl) ?_
        refine a_iincK (i := 3) (u := 1) dX12_put_91 rfl (by decide) (by decide) ?_
        refine a_goto (tg := 70) dX12_put_94 (by decide) ?_
        rw [nI_1]; exact a_loc _ rfl (ih (i + 1) (by omega) _ (mPw_w (q := 150 + i) h es (fun r => by omega)))
  have L2 : ∀ (f i : Nat), i + f = 6 → ∀ y, mPw 72 (144 + i) x n c y → aV l mX12_put d D none 41 [(0, .ref bM), (1, .ref n), (2, .int (nI c)), (3, .int (nI i))] [] y (fun v y => v = none ∧ mPw 72 158 x n c y) := by
    intro f
    induction f with
    | zero =>
      intro i hi y h
      rw [Nat.add_zero] at hi
      subst hi
      refine a_iload_n (i := 3) dX12_put_41 rfl rfl ?_
      refine a_bipush (v := 6) dX12_put_42 (by decide) ?_
      refine a_icmp_ge (tg := 68) dX12_put_44 (by decide) (fun c_44 => ?_) (fun c_44 => ?_)
      · refine a_iconst (v := 0) dX12_put_68 (by decide) ?_
        refine a_istore_n (i := 3) dX12_put_69 rfl (by decide) ?_
        exact a_loc _ rfl (L3 8 0 rfl y h)
      · exact absurd (Int32.le_refl _) c_44
    | succ f ih =>
      intro i hi y h
      have es : y.1 (bM + 63) i = mSrc x (144 + i) := by rw [h.2.1 _ (Ne.symm n3), mSrc_3 (by omega)]
      refine a_iload_n (i := 3) dX12_put_41 rfl rfl ?_
      refine a_bipush (v := 6) dX12_put_42 (by decide) ?_
      refine a_icmp_ge (tg := 68) dX12_put_44 (by decide) (fun c_44 => ?_) (fun c_44 => ?_)
      · exact absurd c_44 (nI_ge (show i < 6 by omega) (by decide))
      · refine a_aload_n (i := 1) dX12_put_47 rfl rfl ?_
        refine a_iload_n (i := 2) dX12_put_48 rfl rfl ?_
        refine a_sipush (v := 144) dX12_put_49 (by decide) ?_
        refine a_iadd dX12_put_52 ?_
        refine a_iload_n (i := 3) dX12_put_53 rfl rfl ?_
        refine a_iadd dX12_put_54 ?_
        refine a_aload_n (i := 0) dX12_put_55 rfl rfl ?_
        refine gX12_115 rfl dX12_put_56 (isM_0 hM) ?_
        refine a_iload_n (i := 3) dX12_put_59 rfl rfl ?_
        refine a_ialdN dX12_put_60 (isM_63 hM) (by first | with_reducible exact rfl | with_reducible exact ix8 _ _ | with_reducible exact ix12 _ _ | exact rfl) (by omega) (by first | decide | exact hl) ?_
        refine a_iastN dX12_put_61 hn (by first | exact ia3 c 144 i | with_reducible exact rfl | with_reducible exact ix8 _ _ | with_reducible exact ix12 _ _ | exact rfl) (by omega) (by first | decide | exact hl) ?_
        refine a_iincK (i := 3) (u := 1) dX12_put_62 rfl (by decide) (by decide) ?_
        refine a_goto (tg := 41) dX12_put_65 (by decide) ?_
        rw [nI_1]; exact a_loc _ rfl (ih (i + 1) (by omega) _ (mPw_w (q := 144 + i) h es (fun r => by omega)))
  have L1 : ∀ (f i : Nat), i + f = 72 → ∀ y, mPw i (72 + i) x n c y → aV l mX12_put d D none 2 [(0, .ref bM), (1, .ref n), (2, .int (nI c)), (3, .int (nI i))] [] y (fun v y => v = none ∧ mPw 72 158 x n c y) := by
    intro f
    induction f with
    | zero =>
      intro i hi y h
      rw [Nat.add_zero] at hi
      subst hi
      refine a_iload_n (i := 3) dX12_put_2 rfl rfl ?_
      refine a_bipush (v := 72) dX12_put_3 (by decide) ?_
      refine a_icmp_ge (tg := 39) dX12_put_5 (by decide) (fun c_5 => ?_) (fun c_5 => ?_)
      · refine a_iconst (v := 0) dX12_put_39 (by decide) ?_
        refine a_istore_n (i := 3) dX12_put_40 rfl (by decide) ?_
        exact a_loc _ rfl (L2 6 0 rfl y h)
      · exact absurd (Int32.le_refl _) c_5
    | succ f ih =>
      intro i hi y h
      have es : y.1 (bM + 61) i = mSrc x i := by rw [h.2.1 _ (Ne.symm n1), mSrc_1 (by omega)]
      have h1 : mPw (i + 1) (72 + i) x n c (aWr y n (c + i) (y.1 (bM + 61) i)) := mPw_w (q := i) h es (fun r => by omega)
      have es2 : (aWr y n (c + i) (y.1 (bM + 61) i)).1 (bM + 62) i = mSrc x (72 + i) := by rw [h1.2.1 _ (Ne.symm n2), mSrc_2 (by omega)]
      refine a_iload_n (i := 3) dX12_put_2 rfl rfl ?_
      refine a_bipush (v := 72) dX12_put_3 (by decide) ?_
      refine a_icmp_ge (tg := 39) dX12_put_5 (by decide) (fun c_5 => ?_) (fun c_5 => ?_)
      · exact absurd c_5 (nI_ge (show i < 72 by omega) (by decide))
      · refine a_aload_n (i := 1) dX12_put_8 rfl rfl ?_
        refine a_iload_n (i := 2) dX12_put_9 rfl rfl ?_
        refine a_iload_n (i := 3) dX12_put_10 rfl rfl ?_
        refine a_iadd dX12_put_11 ?_
        refine a_aload_n (i := 0) dX12_put_12 rfl rfl ?_
        refine gX12_109 rfl dX12_put_13 (isM_0 hM) ?_
        refine a_iload_n (i := 3) dX12_put_16 rfl rfl ?_
        refine a_ialdN dX12_put_17 (isM_61 hM) (by first | with_reducible exact rfl | with_reducible exact ix8 _ _ | with_reducible exact ix12 _ _ | exact rfl) (by omega) (by first | decide | exact hl) ?_
        refine a_iastN dX12_put_18 hn (by first | exact ia2 c i | with_reducible exact rfl | with_reducible exact ix8 _ _ | with_reducible exact ix12 _ _ | exact rfl) (by omega) (by first | decide | exact hl) ?_
        refine a_aload_n (i := 1) dX12_put_19 rfl rfl ?_
        refine a_iload_n (i := 2) dX12_put_20 rfl rfl ?_
        refine a_bipush (v := 72) dX12_put_21 (by decide) ?_
        refine a_iadd dX12_put_23 ?_
        refine a_iload_n (i := 3) dX12_put_24 rfl rfl ?_
        refine a_iadd dX12_put_25 ?_
        refine a_aload_n (i := 0) dX12_put_26 rfl rfl ?_
        refine gX12_112 rfl dX12_put_27 (isM_0 hM) ?_
        refine a_iload_n (i := 3) dX12_put_30 rfl rfl ?_
        refine a_ialdN dX12_put_31 (isM_62 hM) (by first | with_reducible exact rfl | with_reducible exact ix8 _ _ | with_reducible exact ix12 _ _ | exact rfl) (by omega) (by first | decide | exact hl) ?_
        refine a_iastN dX12_put_32 hn (by first | exact ia3 c 72 i | with_reducible exact rfl | with_reducible exact ix8 _ _ | with_reducible exact ix12 _ _ | exact rfl) (by omega) (by first | decide | exact hl) ?_
        refine a_iincK (i := 3) (u := 1) dX12_put_33 rfl (by decide) (by decide) ?_
        refine a_goto (tg := 2) dX12_put_36 (by decide) ?_
        rw [nI_1]; exact a_loc _ rfl (ih (i + 1) (by omega) _ (mPw_w (q := 72 + i) h1 es2 (fun r => by omega)))
  refine a_iconst (v := 0) dX12_put_0 (by decide) ?_
  refine a_istore_n (i := 3) dX12_put_1 rfl (by decide) ?_
  exact a_loc _ rfl (L1 72 0 rfl x mPw_r)
/-- what was kept is the state's -/
theorem snap_put {n c : Nat} {y : aS} (ok : zTok T) (hZ : zOk T Z) (hS : rM T Z x 0) (h : mPw 72 158 x n c y) : snap T Z y n c := by
  obtain ⟨h1, h2, h3⟩ := h
  have h6 := ok.1
  have h8 := ok.2.1
  have e : ∀ q, q < 158 → y.1 n (c + q) = mSrc x q := fun q hq => by rw [h3, if_pos ⟨by omega, by omega⟩, Nat.add_sub_cancel_left]
  refine ⟨fun h hh => ⟨?_, fun j hj => ?_⟩, fun m hm => ?_⟩
  · rw [Nat.add_assoc, e _ (by omega), mSrc_3 (by omega)]
    have := (hS.2.2.1 h hh).2.1
    rwa [Nat.mul_zero, Nat.zero_add] at this
  · have c12 := (hZ.2.1 h hh).1
    obtain ⟨a, b⟩ := (hS.2.2.1 h hh).2.2 j hj
    rw [Nat.mul_zero, Nat.zero_add] at a b
    rw [e _ (by omega), mSrc_1 (by omega), Nat.add_assoc, e _ (by omega), mSrc_2 (by omega)]
    exact ⟨a, b⟩
  · rw [Nat.add_assoc, e _ (by omega), mSrc_4]
    have := (hS.2.2.2 m hm).1
    rwa [Nat.mul_zero, Nat.zero_add] at this
theorem snap_same {A : zS} {n c : Nat} {y : aS} (ok : zTok T) (hA : zOk T A) (h : ∀ q, q < 158 → y.1 n (c + q) = x.1 n (c + q)) (hs : snap T A x n c) : snap T A y n c := by
  have h6 := ok.1
  have h8 := ok.2.1
  refine ⟨fun g hg => ⟨?_, fun j hj => ?_⟩, fun m hm => ?_⟩
  · rw [Nat.add_assoc, h _ (by omega), ← Nat.add_assoc]; exact (hs.1 g hg).1
  · have c12 := (hA.2.1 g hg).1
    rw [h _ (by omega), Nat.add_assoc c 72, h _ (by omega), ← Nat.add_assoc c 72]
    exact (hs.1 g hg).2 j hj
  · rw [Nat.add_assoc, h _ (by omega), ← Nat.add_assoc]; exact hs.2 m hm
/-- frame of remember -/
def mRe (x y : aS) : Prop := (∀ n j, ¬ n = bM + 85 → ¬ (n = bM ∧ j = 83) → y.1 n j = x.1 n j) ∧ y.2 = x.2
theorem i158 (a : Nat) : 158 * nI a = nI (158 * a) := by rw [show (158 : Int32) = nI 158 from rfl, pk_mul]
set_option maxHeartbeats 4000000 in
set_option maxRecDepth 100000 in
theorem c_X12_remember {o : zO} (hM : D 12 = true) (ok : zTok T) (hZ : zOk T Z) (hS : rM T Z x 0) (hu : rUM T u x) (hR : uR T Z u) : aCt l mX12_remember (d + 1) D [.ref bM] x (fun v y => v = none ∧ rUM T (uPush u Z o) y ∧ mRe x y) := by
  refine a_met (by decide) (Nat.le_of_ble_eq_true rfl) (fun v y q => Or.inr (Or.inr (Or.inr ⟨rfl, q.1⟩))) ?_
  have hu1 := hu.1
  have K : ∀ (y : aS) (S : Nat), y.1 bM 83 = nI S → S < 20 → aV l mX12_remember (d + 1) D none 50 [(0, .ref bM)] [] y (fun v z => v = none ∧ ∃ w, mPw 72 158 y (bM + 85) (158 * S) w ∧ z = aWr w bM 83 (nI (S + 1))) := by
    intro y S hs hS
    refine a_aload_n (i := 0) dX12_remember_50 rfl rfl ?_
    refine a_aload_n (i := 0) dX12_remember_51 rfl rfl ?_
    refine gX12_157 rfl dX12_remember_52 (isM_0 hM) ?_
    refine a_sipush (v := 158) dX12_remember_55 (by decide) ?_
    refine a_aload_n (i := 0) dX12_remember_58 rfl rfl ?_
    refine gX12_401 rfl dX12_remember_59 (isM_0 hM) ?_
    rw [hs]
    refine a_imul dX12_remember_62 ?_
    rw [i158]
    refine kgX12_571 rfl dX12_remember_63 (Nat.le_of_ble_eq_true rfl) (isM_0 hM) (c_X12_put hM (isM_85 hM) (by decide) (by omega) (by decide)) ?_
    rintro v w ⟨rfl, hw⟩
    have es : w.1 bM 83 = nI S := by rw [hw.2.1 _ (by decide)]; exact hs
    refine a_aload_n (i := 0) dX12_remember_66 rfl rfl ?_
    refine a_dup dX12_remember_67 rfl ?_
    refine gX12_401 rfl dX12_remember_68 (isM_0 hM) ?_
    rw [es]
    refine a_iconst (v := 1) dX12_remember_71 (by decide) ?_
    refine a_iadd dX12_remember_72 ?_
    rw [nI_1]
    refine pX12_401 rfl dX12_remember_73 (isM_0 hM) ?_
    exact a_vret dX12_remember_76 (by exact ⟨rfl, w, hw, rfl⟩)
  unfold uPush
  by_cases q : u.1 < 20
  · rw [if_pos q]
    have K1 := a_wk (K x u.1 hu1 q) (Q := fun v y => v = none ∧ rUM T (u.1 + 1, (fun k => if k = u.1 then Z else u.2.1 k), (fun k => if k = u.1 then o else u.2.2 k)) y ∧ mRe x y) (fun v y g => by
      obtain ⟨rfl, w, hw, rfl⟩ := g
      have e85 : (aWr w bM 83 (nI (u.1 + 1))).1 (bM + 85) = w.1 (bM + 85) := aWr_n _ _ _ (by decide)
      refine ⟨rfl, ⟨aWr_s _ _ _ _, fun k hk => ?_⟩, fun n j h1 h2 => ?_, ?_⟩
      · have hk2 : k < u.1 + 1 := hk
        by_cases e : k = u.1
        · subst e
          simp only [if_true]
          have := snap_put ok hZ hS hw
          unfold snap at this ⊢
          rw [e85]
          exact this
        · simp only [if_neg e]
          refine snap_same (x := x) ok (hR.2 k (by omega)).1 (fun r hr => ?_) (hu.2 k (by omega))
          rw [e85, hw.2.2, if_neg (by omega)]
      · rw [aWr_o _ _ h2, hw.2.1 _ h1]
      · show w.2 = _
        exact hw.1)
    have n20 : ¬ nI u.1 = 20 := fun g => absurd ((nI_eq (a := u.1) (b := 20) (by omega) (by decide)).mp g) (by omega)
    refine a_aload_n (i := 0) dX12_remember_0 rfl rfl ?_
    refine gX12_401 rfl dX12_remember_1 (isM_0 hM) ?_
    rw [hu1]
    refine a_bipush (v := 20) dX12_remember_4 (by decide) ?_
    refine a_icmp_ne (tg := 50) dX12_remember_6 (by decide) (fun c_6 => ?_) (fun c_6 => ?_)
    · exact a_loc _ rfl K1
    · exact absurd c_6 n20
  · rw [if_neg q]
    have e20 : u.1 = 20 := by have := hR.1; omega
    rw [e20] at hu1
    have K2 : ∀ X : aS, X.2 = x.2 → (∀ n j, ¬ n = bM + 85 → ¬ (n = bM ∧ j = 83) → X.1 n j = x.1 n j) → X.1 bM 83 = nI 19 → (∀ j, j < 3002 → X.1 (bM + 85) j = x.1 (bM + 85) (j + 158)) → aV l mX12_remember (d + 1) D none 50 [(0, .ref bM)] [] X (fun v y => v = none ∧ rUM T (20, (fun k => if k = 19 then Z else u.2.1 (k + 1)), (fun k => if k = 19 then o else u.2.2 (k + 1))) y ∧ mRe x y) := by
      intro X hX2 hXo hX83 hX85
      have SX : rM T Z X 0 := rM_same ok hZ (fun n j hj => hXo n j (by unfold mIn at hj; omega) (by unfold mIn at hj; omega)) hS
      refine a_wk (K X 19 hX83 (by decide)) (fun v y g => ?_)
      obtain ⟨rfl, w, hw, rfl⟩ := g
      have e85 : (aWr w bM 83 (nI 20)).1 (bM + 85) = w.1 (bM + 85) := aWr_n _ _ _ (by decide)
      refine ⟨rfl, ⟨aWr_s _ _ _ _, fun k hk => ?_⟩, fun n j h1 h2 => ?_, ?_⟩
      · have hk2 : k < 20 := hk
        by_cases e : k = 19
        · subst e
          simp only [if_true]
          have := snap_put ok hZ SX hw
          unfold snap at this ⊢
          rw [e85]
          exact this
        · simp only [if_neg e]
          have h0 := hu.2 (k + 1) (by omega)
          have hz0 := (hR.2 (k + 1) (by omega)).1
          have h6 := ok.1
          have h8 := ok.2.1
          have em : ∀ r, r < 158 → (aWr w bM 83 (nI 20)).1 (bM + 85) (158 * k + r) = x.1 (bM + 85) (158 * (k + 1) + r) := fun r hr => by
            rw [e85, hw.2.2, if_neg (by omega), hX85 _ (by omega)]
            exact congrArg (x.1 (bM + 85)) (by omega)
          refine ⟨fun g hg => ⟨?_, fun j hj => ?_⟩, fun m hm => ?_⟩
          · rw [Nat.add_assoc, em _ (by omega), ← Nat.add_assoc]; exact (h0.1 g hg).1
          · have c12 := (hz0.2.1 g hg).1
            rw [em _ (by omega), Nat.add_assoc (158 * k) 72, em _ (by omega), ← Nat.add_assoc (158 * (k + 1)) 72]
            exact (h0.1 g hg).2 j hj
          · rw [Nat.add_assoc, em _ (by omega), ← Nat.add_assoc]; exact h0.2 m hm
      · rw [aWr_o _ _ h2, hw.2.1 _ h1]
        exact hXo n j h1 h2
      · show w.2 = _
        rw [hw.1]; exact hX2
    have L : ∀ (f i : Nat), i + f = 3002 → ∀ y : aS, y.2 = x.2 → (∀ n, ¬ n = bM + 85 → y.1 n = x.1 n) → (∀ j, y.1 (bM + 85) j = if j < i then x.1 (bM + 85) (j + 158) else x.1 (bM + 85) j) → aV l mX12_remember (d + 1) D none 11 [(0, .ref bM), (1, .int (nI i))] [] y (fun v y => v = none ∧ rUM T (20, (fun k => if k = 19 then Z else u.2.1 (k + 1)), (fun k => if k = 19 then o else u.2.2 (k + 1))) y ∧ mRe x y) := by
      intro f
      induction f with
      | zero =>
        intro i hi y h1 h2 h3
        rw [Nat.add_zero] at hi
        subst hi
        have e83 : y.1 bM 83 = nI 20 := by rw [h2 _ (by decide)]; exact hu1
        have K3 := K2 (aWr y bM 83 (nI 19)) h1 (fun n j a b => by rw [aWr_o _ _ b, h2 _ a]) (aWr_s _ _ _ _) (fun j hj => by rw [aWr_n _ _ _ (by decide), h3, if_pos hj])
        refine a_iload_n (i := 1) dX12_remember_11 rfl rfl ?_
        refine a_sipush (v := 3002) dX12_remember_12 (by decide) ?_
        refine a_icmp_ge (tg := 40) dX12_remember_15 (by decide) (fun c_15 => ?_) (fun c_15 => ?_)
        · refine a_aload_n (i := 0) dX12_remember_40 rfl rfl ?_
          refine a_dup dX12_remember_41 rfl ?_
          refine gX12_401 rfl dX12_remember_42 (isM_0 hM) ?_
          rw [e83]
          refine a_iconst (v := 1) dX12_remember_45 (by decide) ?_
          refine a_isub dX12_remember_46 ?_
          rw [show nI 20 - 1 = nI 19 from nI_pred 19]
          refine pX12_401 rfl dX12_remember_47 (isM_0 hM) ?_
          exact a_loc _ rfl K3
        · exact absurd (Int32.le_refl _) c_15
      | succ f ih =>
        intro i hi y h1 h2 h3
        have ih2 := ih (i + 1) (by omega) (aWr y (bM + 85) i (y.1 (bM + 85) (i + 158))) h1 (fun n hn => by rw [aWr_n _ _ _ hn, h2 n hn]) (fun j => by
          by_cases e : j = i
          · subst e; rw [aWr_s, if_pos (by omega), h3, if_neg (by omega)]
          · rw [aWr_j _ _ _ e, h3]
            by_cases g : j < i
            · rw [if_pos g, if_pos (by omega)]
            · rw [if_neg g, if_neg (by omega)])
        refine a_iload_n (i := 1) dX12_remember_11 rfl rfl ?_
        refine a_sipush (v := 3002) dX12_remember_12 (by decide) ?_
        refine a_icmp_ge (tg := 40) dX12_remember_15 (by decide) (fun c_15 => ?_) (fun c_15 => ?_)
        · exact absurd c_15 (nI_ge (show i < 3002 by omega) (by decide))
        · refine a_aload_n (i := 0) dX12_remember_18 rfl rfl ?_
          refine gX12_157 rfl dX12_remember_19 (isM_0 hM) ?_
          refine a_iload_n (i := 1) dX12_remember_22 rfl rfl ?_
          refine a_aload_n (i := 0) dX12_remember_23 rfl rfl ?_
          refine gX12_157 rfl dX12_remember_24 (isM_0 hM) ?_
          refine a_iload_n (i := 1) dX12_remember_27 rfl rfl ?_
          refine a_sipush (v := 158) dX12_remember_28 (by decide) ?_
          refine a_iadd dX12_remember_31 ?_
          refine a_ialdN dX12_remember_32 (isM_85 hM) (by first | exact nI_add i 158 | with_reducible exact rfl | with_reducible exact ix8 _ _ | with_reducible exact ix12 _ _ | exact rfl) (by omega) (by decide) ?_
          refine a_iastN dX12_remember_33 (isM_85 hM) (by first | with_reducible exact rfl | with_reducible exact ix8 _ _ | with_reducible exact ix12 _ _ | exact rfl) (by omega) (by decide) ?_
          refine a_iincK (i := 1) (u := 1) dX12_remember_34 rfl (by decide) (by decide) ?_
          refine a_goto (tg := 11) dX12_remember_37 (by decide) ?_
          rw [nI_1]; exact a_loc _ rfl ih2
    refine a_aload_n (i := 0) dX12_remember_0 rfl rfl ?_
    refine gX12_401 rfl dX12_remember_1 (isM_0 hM) ?_
    rw [hu1]
    refine a_bipush (v := 20) dX12_remember_4 (by decide) ?_
    refine a_icmp_ne (tg := 50) dX12_remember_6 (by decide) (fun c_6 => ?_) (fun c_6 => ?_)
    · exact absurd rfl c_6
    · refine a_iconst (v := 0) dX12_remember_9 (by decide) ?_
      refine a_istore_n (i := 1) dX12_remember_10 rfl (by decide) ?_
      exact a_loc _ rfl (L 3002 0 rfl x rfl (fun _ _ => rfl) (fun j => by rw [if_neg (by omega)]))
end qO
