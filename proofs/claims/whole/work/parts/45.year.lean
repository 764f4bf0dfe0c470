/-! LastHouse$Years: the year -/
/-- y is x but for the State at b and the Years -/
def aFy (b : Nat) (x y : aS) : Prop := ∀ n, n / 256 ≠ b / 256 → n / 256 ≠ 8 → y.1 n = x.1 n ∧ y.2 n = x.2 n
theorem aFy_r {b : Nat} {x : aS} : aFy b x x := fun _ _ _ => ⟨rfl, rfl⟩
theorem aFy_t {b : Nat} {x y z : aS} (h1 : aFy b x y) (h2 : aFy b y z) : aFy b x z := fun n a c => ⟨(h2 n a c).1.trans (h1 n a c).1, (h2 n a c).2.trans (h1 n a c).2⟩
theorem aFy_sq {b : Nat} {x y : aS} (h : aSq x y) : aFy b x y := fun n _ c => ⟨h.1 n (fun e => c (by rw [e]; rfl)), h.2 n (fun e => c (by rw [e]; rfl))⟩
theorem aFy_T {b t : Nat} {x y : aS} (hb : aStB b) (ht : aTdB t) (h : aFy b x y) : ∀ k, k < 256 → y.1 (t + k) = x.1 (t + k) := by
  intro k hk
  refine (h (t + k) ?_ ?_).1
  · rcases ht with rfl | rfl <;> rcases hb with rfl | rfl | rfl <;> omega
  · rcases ht with rfl | rfl <;> omega
theorem aSq_S {b : Nat} {x y : aS} (hb : aStB b) (h : aSq x y) : ∀ k, k < 256 → y.1 (b + k) = x.1 (b + k) := fun k hk => h.1 _ (yb_ne hb hk)
theorem aFy_w {b n j : Nat} {x : aS} {v : Int32} (h : n / 256 = b / 256) : aFy b x (aWr x n j v) := fun a h1 _ => ⟨aWr_n _ _ _ (fun e => h1 (by rw [e, h])), rfl⟩
theorem bd {b k : Nat} (hb : aStB b) (hk : k < 256) : (b + k) / 256 = b / 256 := by
  rcases hb with rfl | rfl | rfl <;> omega
theorem aFy_lp {b : Nat} {g : Nat → aS → aS} (h : ∀ i y, aFy b y (g i y)) : ∀ (k i : Nat) (x : aS), aFy b x (lp g i k x) := by
  intro k
  induction k with
  | zero => intro i x; exact aFy_r
  | succ k ih => intro i x; exact aFy_t (h i x) (ih _ _)
theorem aFy_drop {b h : Nat} {x : aS} (hb : aStB b) : aFy b x (sDrop x b h) := aFy_t (aFy_w (bd hb (by decide))) (aFy_lp (fun i y => aFy_w (bd hb (by decide))) 8 0 _)
theorem aFy_bare {t b h : Nat} {x : aS} (hb : aStB b) : aFy b x (sBare x t b h) := aFy_t (aFy_lp (fun i y => aFy_w (bd hb (by decide))) 8 0 _) (aFy_drop hb)
theorem aFy_bareAll {t b N : Nat} {x : aS} (hb : aStB b) : aFy b x (sBareAll x t b N) := aFy_lp (fun i y => aFy_bare hb) N 0 x
theorem aFy_swell {b N : Nat} {x : aS} (hb : aStB b) : aFy b x (sSwell x b N) := aFy_lp (fun i y => by unfold sSwell1; split; exact aFy_r; exact aFy_w (bd hb (by decide))) _ 0 x
theorem aFy_put {b h c z : Nat} {u : Int32} {x : aS} (hb : aStB b) : aFy b x (sPut x b h c z u) := aFy_t (aFy_t (aFy_t (aFy_w (bd hb (by decide))) (aFy_w (bd hb (by decide)))) (aFy_w (bd hb (by decide)))) (aFy_w (bd hb (by decide)))
theorem aFy_marry {b m n k1 k2 : Nat} {x : aS} (hb : aStB b) : aFy b x (sMarry x b m n k1 k2) := aFy_t (aFy_t (aFy_t (aFy_lp (fun i y => aFy_w (bd hb (by decide))) 8 0 _) (aFy_drop hb)) (aFy_w (bd hb (by decide)))) (aFy_w rfl)
/-- refused, once more -/
def zRef (Z : zS) : zS := zui Z 0 1 (Z.1 0 1 + 1)
theorem zOk_ui {T : zT} {Z : zS} {f i : Nat} {v : Int32} (hZ : zOk T Z) : zOk T (zui Z f i v) := hZ
theorem zLsum_ui {Z : zS} {f i h z : Nat} {v : Int32} (hf : f ≠ 2) : zLsum (zui Z f i v) h z = zLsum Z h z := zLsum_same rfl (fun k _ => ⟨rfl, by simp only [zui]; rw [if_neg (fun e => hf e.1.symm)]⟩)
/-- an int of the object itself is written -/
theorem rS_w0 {T : zT} {Z : zS} {x : aS} {b i : Nat} {v : Int32} (hi : i < 3) (hS : rS T Z x b) : rS T (zui Z 0 i v) (aWr x b i v) b := by
  obtain ⟨q1, q2, q3, q4⟩ := hS
  refine ⟨fun j hj => ?_, ?_, fun g hg => ?_, fun m hm => ?_⟩
  · by_cases e : j = i
    · subst e; rw [aWr_s]; simp [zui]
    · rw [aWr_j _ _ _ e, q1 j hj]; simp [zui, e]
  · rw [aWr_j _ _ _ (by omega)]; exact q2
  · rw [aWr_n _ _ _ (by omega), aWr_n _ _ _ (by omega), aWr_n _ _ _ (by omega), aWr_n _ _ _ (by omega), aWr_n _ _ _ (by omega)]
    obtain ⟨a1, a2, a3⟩ := q3 g hg
    refine ⟨fun z hz => ⟨by rw [(a1 z hz).1]; simp [zui], by rw [(a1 z hz).2, zLsum_ui (by decide)]⟩, a2, fun k hk => ⟨(a3 k hk).1, by rw [(a3 k hk).2]; simp [zui]⟩⟩
  · rw [aWr_n _ _ _ (by omega), aWr_n _ _ _ (by omega), aWr_n _ _ _ (by omega)]
    obtain ⟨a1, a2, a3⟩ := q4 m hm
    exact ⟨a1, by rw [a2]; simp [zui], by rw [a3]; simp [zui]⟩
/-- a deed -/
def zDeed (T : zT) (W : Nat → zL) (i : Nat) (Z : zS) : zS :=
  if T.2.1 6 i = Z.1 0 0 then
    (if Z.2 1 (T.2.2 2 i) < 12 then zPut Z (T.2.2 2 i) (T.2.2 3 i) (if T.2.2 4 i = 0 then zCut (vWorth (W 0) (zNmD T Z i)) 20 (T.2.1 5 i) else -zCut (vWorth (W 0) (zNmD T Z i)) 20 (T.2.1 5 i)) else zRef Z)
  else Z
theorem zOk_deed {T : zT} {W : Nat → zL} {Z : zS} {i : Nat} (ok : zTok T) (hZ : zOk T Z) (hi : i < T.1 2) : zOk T (zDeed T W i Z) := by
  unfold zDeed
  split
  · split
    · exact zOk_put hZ (ok.2.2.2.2.2.2.2.2.1 i hi).2.1 (by assumption)
    · exact zOk_ui hZ
  · exact hZ
def zDeeds (T : zT) (W : Nat → zL) (Z : zS) : zS := lp (zDeed T W) 0 (T.1 2) Z
set_option maxHeartbeats 4000000 in
set_option maxRecDepth 100000 in
theorem c_X10_doDeeds {l : Launch} {d : Nat} {D : Nat → Bool} {T : zT} {W : Nat → zL} {Z : zS} {t b : Nat} {x : aS} (hD : aDC D) (hb : aStB b) (ht : aTdB t) (ok : zTok T) (hZ : zOk T Z) (hT : rT T x t) (hW : rW W x t) (hS : rS T Z x b) : aCt l mX10_doDeeds (d + 3) D [.ref bYr, .ref t, .ref b] x (fun v y => v = none ∧ rS T (zDeeds T W Z) y b ∧ zOk T (zDeeds T W Z) ∧ aFy b x y) := by
  have L : ∀ (k i : Nat), i + k = T.1 2 → ∀ (Z : zS) (y : aS), zOk T Z → rS T Z y b → aFy b x y → aV l mX10_doDeeds (d + 3) D none 2 [(0, .ref bYr), (1, .ref t), (2, .ref b), (3, .int (nI i))] [] y (fun v y => v = none ∧ rS T (lp (zDeed T W) i k Z) y b ∧ zOk T (lp (zDeed T W) i k Z) ∧ aFy b x y) := by
    intro k
    induction k with
    | zero =>
      intro i hi Z y hZ hS hF
      rw [Nat.add_zero] at hi
      have hTy := rT_same (aFy_T hb ht hF) ok hT
      have h10 : y.1 t 10 = nI i := by rw [hi]; exact hTy.2.2.1
      refine a_iload_n (i := 3) dX10_doDeeds_2 rfl rfl ?_
      refine a_aload_n (i := 1) dX10_doDeeds_3 rfl rfl ?_
      refine gX10_56 rfl dX10_doDeeds_4 (isT_0 hD ht) ?_
      rw [h10]
      refine a_icmp_ge (tg := 98) dX10_doDeeds_7 (by decide) (fun c_7 => ?_) (fun c_7 => ?_)
      · exact a_vret dX10_doDeeds_98 (by exact ⟨rfl, hS, hZ, hF⟩)
      · exact absurd (Int32.le_refl _) c_7
    | succ k ih =>
      intro i hi Z y hZ hS hF
      have hTy := rT_same (aFy_T hb ht hF) ok hT
      have hWy := rW_same (aFy_T hb ht hF) hW
      have hi2 : i < T.1 2 := by omega
      have hi14 : i < 14 := by have := ok.2.2.1; omega
      have h10 : y.1 t 10 = nI (T.1 2) := hTy.2.2.1
      have h14 := ok.2.2.1
      obtain ⟨e0, e1, e2, e3, e4⟩ := hTy.2.2.2.2.2.2.2.2.2.2.2.1 i hi2
      obtain ⟨o1, o2, o3⟩ := ok.2.2.2.2.2.2.2.2.1 i hi2
      have o6 : T.2.2 2 i < 6 := by have := ok.1; omega
      have ey : y.1 b 0 = Z.1 0 0 := hS.1 0 (by decide)
      have nx : ∀ (Z' : zS) (y' : aS), zDeed T W i Z = Z' → zOk T Z' → rS T Z' y' b → aFy b x y' → aV l mX10_doDeeds (d + 3) D none 92 [(0, .ref bYr), (1, .ref t), (2, .ref b), (3, .int (nI i))] [] y' (fun v y => v = none ∧ rS T (lp (zDeed T W) i (k + 1) Z) y b ∧ zOk T (lp (zDeed T W) i (k + 1) Z) ∧ aFy b x y) := by
        intro Z' y' ez hz' hs' hf'
        show aV l mX10_doDeeds (d + 3) D none 92 _ [] y' (fun v y => v = none ∧ rS T (lp (zDeed T W) (i + 1) k (zDeed T W i Z)) y b ∧ zOk T (lp (zDeed T W) (i + 1) k (zDeed T W i Z)) ∧ aFy b x y)
        rw [ez]
        refine a_iincK (i := 3) (u := 1) dX10_doDeeds_92 rfl (by decide) (by decide) ?_
        refine a_goto (tg := 2) dX10_doDeeds_95 (by decide) ?_
        rw [nI_1]; exact a_loc _ rfl (ih (i + 1) (by omega) Z' y' hz' hs' hf')
      by_cases hy : T.2.1 6 i = Z.1 0 0
      · have hput : ∀ y1 : aS, aSq y y1 → ∀ u, (u = if T.2.2 4 i = 0 then zCut (vWorth (W 0) (zNmD T Z i)) 20 (T.2.1 5 i) else -zCut (vWorth (W 0) (zNmD T Z i)) 20 (T.2.1 5 i)) → aV l mX10_doDeeds (d + 3) D none 76 [(0, .ref bYr), (1, .ref t), (2, .ref b), (3, .int (nI i))] [.int u, .int (nI (T.2.2 3 i)), .int (nI (T.2.2 2 i)), .ref b] y1 (fun v y => v = none ∧ rS T (lp (zDeed T W) i (k + 1) Z) y b ∧ zOk T (lp (zDeed T W) i (k + 1) Z) ∧ aFy b x y) := by
          intro y1 hq u eu
          have hS1 := rS_same (aSq_S hb hq) hS
          have hF1 : aFy b x y1 := aFy_t hF (aFy_sq hq)
          have hc : y1.1 (b + 7) (T.2.2 2 i) = nI (Z.2 1 (T.2.2 2 i)) := (hS1.2.2.1 _ o1).2.1
          have hc12 := (hZ.2.1 _ o1).1
          by_cases hlt : Z.2 1 (T.2.2 2 i) < 12
          · have ed : zDeed T W i Z = zPut Z (T.2.2 2 i) (T.2.2 3 i) u := by rw [zDeed, if_pos hy, if_pos hlt, eu]
            have hc1 := c_X6_putOn (l := l) (d := d + 2) (D := D) (u := u) (z := T.2.2 3 i) hD hb o6 o2 hc hc12
            rw [if_pos hlt, if_pos hlt] at hc1
            refine kX10_87 rfl dX10_doDeeds_76 (Nat.le_of_ble_eq_true rfl) (by exact isS_0 hD hb) (hc1) ?_
            refine a_if_ne (tg := 92) dX10_doDeeds_79 (by decide) (fun c_79 => ?_) (fun c_79 => ?_)
            · exact a_loc _ rfl (nx _ _ ed (zOk_put hZ o2 hlt) (rS_put hS1 hZ o1 o2 hlt) (aFy_t hF1 (aFy_put hb)))
            · exact absurd c_79 (by decide)
          · have ed : zDeed T W i Z = zRef Z := by rw [zDeed, if_pos hy, if_neg hlt]
            have hc1 := c_X6_putOn (l := l) (d := d + 2) (D := D) (u := u) (z := T.2.2 3 i) hD hb o6 o2 hc hc12
            rw [if_neg hlt, if_neg hlt] at hc1
            refine kX10_87 rfl dX10_doDeeds_76 (Nat.le_of_ble_eq_true rfl) (by exact isS_0 hD hb) (hc1) ?_
            refine a_if_ne (tg := 92) dX10_doDeeds_79 (by decide) (fun c_79 => ?_) (fun c_79 => ?_)
            · exact absurd rfl c_79
            · refine a_aload_n (i := 2) dX10_doDeeds_82 rfl rfl ?_
              refine a_dup dX10_doDeeds_83 rfl ?_
              refine gX10_91 rfl dX10_doDeeds_84 (isS_0 hD hb) ?_
              rw [hS1.1 1 (by decide)]
              refine a_iconst (v := 1) dX10_doDeeds_87 (by decide) ?_
              refine a_iadd dX10_doDeeds_88 ?_
              refine pX10_91 rfl dX10_doDeeds_89 (isS_0 hD hb) ?_
              exact a_loc _ rfl (nx _ _ ed (zOk_ui hZ) (rS_w0 (by decide) hS1) (aFy_t hF1 (aFy_w rfl)))
        refine a_iload_n (i := 3) dX10_doDeeds_2 rfl rfl ?_
        refine a_aload_n (i := 1) dX10_doDeeds_3 rfl rfl ?_
        refine gX10_56 rfl dX10_doDeeds_4 (isT_0 hD ht) ?_
        rw [h10]
        refine a_icmp_ge (tg := 98) dX10_doDeeds_7 (by decide) (fun c_7 => ?_) (fun c_7 => ?_)
        · exact absurd c_7 (nI_ge hi2 (by omega))
        · refine a_aload_n (i := 1) dX10_doDeeds_10 rfl rfl ?_
          refine gX10_59 rfl dX10_doDeeds_11 (isT_0 hD ht) ?_
          refine a_iload_n (i := 3) dX10_doDeeds_14 rfl rfl ?_
          refine a_adeedN dX10_doDeeds_15 (isT_12 hD ht) (by first | with_reducible exact rfl | with_reducible exact ix8 _ _ | with_reducible exact ix12 _ _ | exact rfl) (by exact hi14) (by decide) ?_
          refine a_astore (i := 4) dX10_doDeeds_16 (by decide) ?_
          refine a_aload (i := 4) dX10_doDeeds_18 rfl ?_
          refine gX10_63 rfl dX10_doDeeds_20 (isDe hD ht hi14) ?_
          rw [e3]
          refine a_aload_n (i := 2) dX10_doDeeds_23 rfl rfl ?_
          refine gX10_46 rfl dX10_doDeeds_24 (isS_0 hD hb) ?_
          rw [ey]
          refine a_icmp_ne (tg := 92) dX10_doDeeds_27 (by decide) (fun c_27 => ?_) (fun c_27 => ?_)
          · exact absurd hy c_27
          · refine a_aload_n (i := 0) dX10_doDeeds_30 rfl rfl ?_
            refine a_aload_n (i := 1) dX10_doDeeds_31 rfl rfl ?_
            refine a_aload_n (i := 2) dX10_doDeeds_32 rfl rfl ?_
            refine a_iload_n (i := 3) dX10_doDeeds_33 rfl rfl ?_
            refine kgX10_66 rfl dX10_doDeeds_34 (Nat.le_of_ble_eq_true rfl) (isYr_0 hD) (c_X10_thickOf hD hb ht ok hZ hTy hWy hS hi2) ?_
            rintro v y1 ⟨rfl, hq⟩
            have hd : ∀ j, y1.1 (t + 12 + 88 + i) j = y.1 (t + 12 + 88 + i) j := fun j => by rw [hq.1 _ (yd_ne ht hi14)]
            refine a_bipush (v := 20) dX10_doDeeds_37 (by decide) ?_
            refine a_aload (i := 4) dX10_doDeeds_39 rfl ?_
            refine gX10_70 rfl dX10_doDeeds_41 (isDe hD ht hi14) ?_
            rw [hd, e2]
            refine kX10_73 rfl dX10_doDeeds_44 (Nat.le_of_ble_eq_true rfl) (c_X10_cut) ?_
            refine a_istore (i := 5) dX10_doDeeds_47 (by decide) ?_
            refine a_aload_n (i := 2) dX10_doDeeds_49 rfl rfl ?_
            refine a_aload (i := 4) dX10_doDeeds_50 rfl ?_
            refine gX10_77 rfl dX10_doDeeds_52 (isDe hD ht hi14) ?_
            rw [hd, e0]
            refine a_aload (i := 4) dX10_doDeeds_55 rfl ?_
            refine gX10_80 rfl dX10_doDeeds_57 (isDe hD ht hi14) ?_
            rw [hd, e1]
            refine a_aload (i := 4) dX10_doDeeds_60 rfl ?_
            refine gX10_83 rfl dX10_doDeeds_62 (isDe hD ht hi14) ?_
            rw [hd, e4]
            refine a_if_eq (tg := 74) dX10_doDeeds_65 (by decide) (fun c_65 => ?_) (fun c_65 => ?_)
            · have s0 : T.2.2 4 i = 0 := (nI_eq (by omega) (by decide)).mp c_65
              refine a_iload (i := 5) dX10_doDeeds_74 rfl ?_
              refine a_loc _ rfl (hput y1 hq _ ?_); simp [s0]
            · have s0 : ¬ T.2.2 4 i = 0 := fun h => c_65 (by rw [h]; rfl)
              refine a_iload (i := 5) dX10_doDeeds_68 rfl ?_
              refine a_ineg dX10_doDeeds_70 ?_
              refine a_goto (tg := 76) dX10_doDeeds_71 (by decide) ?_
              refine a_loc _ rfl (hput y1 hq _ ?_); simp [s0]
      · have ed : zDeed T W i Z = Z := by rw [zDeed, if_neg hy]
        refine a_iload_n (i := 3) dX10_doDeeds_2 rfl rfl ?_
        refine a_aload_n (i := 1) dX10_doDeeds_3 rfl rfl ?_
        refine gX10_56 rfl dX10_doDeeds_4 (isT_0 hD ht) ?_
        rw [h10]
        refine a_icmp_ge (tg := 98) dX10_doDeeds_7 (by decide) (fun c_7 => ?_) (fun c_7 => ?_)
        · exact absurd c_7 (nI_ge hi2 (by omega))
        · refine a_aload_n (i := 1) dX10_doDeeds_10 rfl rfl ?_
          refine gX10_59 rfl dX10_doDeeds_11 (isT_0 hD ht) ?_
          refine a_iload_n (i := 3) dX10_doDeeds_14 rfl rfl ?_
          refine a_adeedN dX10_doDeeds_15 (isT_12 hD ht) (by first | with_reducible exact rfl | with_reducible exact ix8 _ _ | with_reducible exact ix12 _ _ | exact rfl) (by exact hi14) (by decide) ?_
          refine a_astore (i := 4) dX10_doDeeds_16 (by decide) ?_
          refine a_aload (i := 4) dX10_doDeeds_18 rfl ?_
          refine gX10_63 rfl dX10_doDeeds_20 (isDe hD ht hi14) ?_
          rw [e3]
          refine a_aload_n (i := 2) dX10_doDeeds_23 rfl rfl ?_
          refine gX10_46 rfl dX10_doDeeds_24 (isS_0 hD hb) ?_
          rw [ey]
          refine a_icmp_ne (tg := 92) dX10_doDeeds_27 (by decide) (fun c_27 => ?_) (fun c_27 => ?_)
          · exact a_loc _ rfl (nx _ _ ed hZ hS hF)
          · exact absurd c_27 hy
  refine a_met (by decide) (Nat.le_of_ble_eq_true rfl) (fun v y q => Or.inr (Or.inr (Or.inr ⟨rfl, q.1⟩))) ?_
  refine a_iconst (v := 0) dX10_doDeeds_0 (by decide) ?_
  refine a_istore_n (i := 3) dX10_doDeeds_1 rfl (by decide) ?_
  exact a_loc _ rfl (L _ 0 (Nat.zero_add _) Z x hZ hS aFy_r)
