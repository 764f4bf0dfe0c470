/-! LastHouseModel: yearGoes -/
theorem lp_or (p : Nat → Bool) : ∀ (n : Nat) (s : Bool), lp (fun k s => s || p k) 0 n s = (s || (List.range n).any p) := by
  intro n s
  induction n with
  | zero => simp [lp]
  | succ n ih => rw [lp_snoc, ih, List.range_succ, List.any_append]; simp [Bool.or_assoc]
theorem zDeed_do {T : zT} {W : Nat → zL} {k : Nat} {Z : zS} : zDeed T W k Z = if T.2.1 6 k = Z.1 0 0 then zDo T W k Z else Z := rfl
theorem zWed_do {T : zT} {k : Nat} {Z : zS} : zWed T k Z = if T.2.1 7 k = Z.1 0 0 then zWd T k Z else Z := rfl
/-- what a step keeps: the number, the corns' bound -/
def zKp (T : zT) (Z Y : zS) : Prop := Y.1 0 2 = Z.1 0 2 ∧ ((∀ m, m < T.1 1 → Z.1 4 m ≤ 999) → ∀ m, m < T.1 1 → Y.1 4 m ≤ 999)
theorem zKp_r {T : zT} {Z : zS} : zKp T Z Z := ⟨rfl, fun h => h⟩
theorem zKp_t {T : zT} {X Y Z : zS} (h1 : zKp T X Y) (h2 : zKp T Y Z) : zKp T X Z := ⟨h2.1.trans h1.1, fun h => h2.2 (h1.2 h)⟩
theorem zKp_of {T : zT} {Z Y : zS} (h0 : Y.1 0 2 = Z.1 0 2) (h4 : ∀ m, Y.1 4 m = Z.1 4 m) : zKp T Z Y := ⟨h0, fun h m hm => by rw [h4]; exact h m hm⟩
theorem zKp_put {T : zT} {Z : zS} {h z : Nat} {u : Int32} : zKp T Z (zPut Z h z u) := zKp_of (by simp [zPut, zuk, zui]) (fun m => by simp [zPut, zuk, zui])
theorem zKp_ref {T : zT} {Z : zS} : zKp T Z (zRef Z) := zKp_of (by simp [zRef, zui]) (fun m => by simp [zRef, zui])
theorem zKp_set {T : zT} {Z : zS} {h : Nat} {w : Nat → Int32} : zKp T Z (zSet Z h w) := zKp_of (by simp [zSet]) (fun m => by simp [zSet])
theorem zKp_marry {T : zT} {Z : zS} {m n : Nat} : zKp T Z (zMarry Z m n) := zKp_of (by simp [zMarry, zuk, zSet]) (fun m => by simp [zMarry, zuk, zSet])
theorem zKp_swell {T : zT} {Z : zS} : zKp T Z (zSwell T Z) := zKp_of (by simp [zSwell]) (fun m => by simp [zSwell])
theorem zKp_do {T : zT} {W : Nat → zL} {k : Nat} {Z : zS} : zKp T Z (zDo T W k Z) := by
  unfold zDo
  split
  · exact zKp_put
  · exact zKp_ref
theorem zKp_wd {T : zT} {k : Nat} {Z : zS} : zKp T Z (zWd T k Z) := by
  unfold zWd
  split
  · exact zKp_marry
  · exact zKp_ref
theorem jmin_le (a b : Int32) : jmin a b ≤ a := by
  unfold jmin
  split
  · rename_i h; exact Int32.le_of_lt h
  · exact Int32.le_refl _
theorem zKp_wear {T : zT} {W : Nat → zL} {way m : Nat} {Z : zS} : zKp T Z (zWear T W way m Z) := by
  unfold zWear
  split
  · exact zKp_r
  · split
    · exact zKp_r
    · refine ⟨by simp [zCorn, zui], fun h k hk => ?_⟩
      by_cases e : k = m
      · subst e
        rw [show (zCorn T W k Z).1 4 k = jmin 999 (Z.1 4 k + 1) from by simp [zCorn, zui]]
        exact jmin_le _ _
      · rw [show (zCorn T W m Z).1 4 k = Z.1 4 k from by simp [zCorn, zui, e]]
        exact h k hk
/-- what yearGoes keeps -/
def yJ (T : zT) (way i : Nat) (x : aS) (Z : zS) (y : aS) : Prop := zOk T Z ∧ rM T Z y i ∧ (∀ m, m < T.1 1 → Z.1 4 m ≤ 999) ∧ aFi i x y ∧ (way = 6 → rNum Z y) ∧ (¬ way = 6 → y.2 bM 69 = x.2 bM 69)
theorem yJ_j {T : zT} {way i : Nat} {x y y' : aS} {Z Z' : zS} (h : yJ T way i x Z y) (hS : rM T Z' y' i) (hZ : zOk T Z') (hF : aFj i y y') (hK : zKp T Z Z') : yJ T way i x Z' y' := by
  obtain ⟨h1, h2, h3, h4, h5, h6⟩ := h
  refine ⟨hZ, hS, hK.2 h3, aFi_t h4 hF.1, fun w => ?_, fun w => hF.2.trans (h6 w)⟩
  obtain ⟨a, a1, a2, a3⟩ := h5 w
  exact ⟨a, a1, hK.1.trans a2, hF.2.trans a3⟩
theorem rFl_i {way i : Nat} {x y : aS} (hF : aFi i x y) (h : rFl way x) : rFl way y := by
  obtain ⟨f0, f1, f2, f3, f4⟩ := h
  have e : ∀ j, j ≠ 58 → y.1 bM j = x.1 bM j := fun j hj => hF.1 bM j (by unfold mIn; omega) (by omega)
  exact ⟨by rw [e _ (by decide)]; exact f0, by rw [e _ (by decide)]; exact f1, by rw [e _ (by decide)]; exact f2, by rw [e _ (by decide)]; exact f3, by rw [e _ (by decide)]; exact f4⟩
theorem rM_bare {T : zT} {Z : zS} {x : aS} {i h : Nat} (hT : rTM T x) (hS : rM T Z x i) (hh : h < T.1 0) : rM T (zSet Z h (fun _ => T.2.1 1 h)) (mBare x i h) i := by
  obtain ⟨q1, q2, q3, q4⟩ := hS
  obtain ⟨w1, w2⟩ := lp_fill (n := bM + 60) (c := 8 * (6 * i + h)) (K := 8) (f := fun _ y => y.1 (bM + 28) h) (x := x) (fun _ => T.2.1 1 h) (fun z y _ ha _ => by rw [ha (bM + 28) (by omega)]; exact (hT.2.2.2.2.2.2.2.2.1 h hh).2) 8 0 rfl x (fun _ _ => rfl) (fun j => by rw [if_neg (by omega)])
  unfold mBare
  refine ⟨?_, ?_, fun g hg => ⟨fun z hz => ?_, ?_, fun k hk => ?_⟩, fun m hm => ?_⟩
  · rw [aWr_n _ _ _ (by omega), w1 _ (by omega), q1]; simp [zSet]
  · rw [aWr_n _ _ _ (by omega), w1 _ (by omega), q2]; simp [zSet]
  · rw [aWr_n _ _ _ (by omega), w2, (q3 g hg).1 z hz]
    simp only [zSet]
    by_cases e : g = h
    · rw [if_pos (by omega), if_pos ⟨trivial, by omega⟩]
    · rw [if_neg (by omega), if_neg (by omega)]
  · by_cases e : g = h
    · subst e; rw [aWr_s]; simp [zSet]; rfl
    · rw [aWr_j _ _ _ (by omega), w1 _ (by omega), (q3 g hg).2.1]; simp [zSet, e]
  · have e : g ≠ h := by
      intro e
      subst e
      simp [zSet] at hk
    rw [show (zSet Z h (fun _ => T.2.1 1 h)).2 1 g = Z.2 1 g from by simp [zSet, e]] at hk
    rw [aWr_n _ _ _ (by omega), aWr_n _ _ _ (by omega), w1 _ (by omega), w1 _ (by omega), ((q3 g hg).2.2 k hk).1, ((q3 g hg).2.2 k hk).2]
    exact ⟨by simp [zSet], by simp [zSet]⟩
  · rw [aWr_n _ _ _ (by omega), aWr_n _ _ _ (by omega), aWr_n _ _ _ (by omega), aWr_n _ _ _ (by omega), w1 _ (by omega), w1 _ (by omega), w1 _ (by omega), w1 _ (by omega)]
    obtain ⟨a1, a2, a3, a4⟩ := q4 m hm
    exact ⟨by rw [a1]; simp [zSet], by rw [a2]; simp [zSet], by rw [a3]; simp [zSet], by rw [a4]; simp [zSet]⟩
theorem aFj_bare {i h : Nat} {x : aS} (hh : h < 6) : aFj i x (mBare x i h) := by
  unfold mBare
  exact aFj_t ⟨aFi_lp (N := 8) (fun z y hz => aFi_w (by unfold mIn; omega)) 8 0 _ rfl, by exact congrFun (congrFun (lp_keep2 (fun _ _ => rfl) 8 0 _) bM) 69⟩ (aFj_w (by unfold mIn; omega))
def mSw (s : Bool) (w : Int32) : Int32 := w + (if s = true ∧ ¬ 999 ≤ w then 1 else 0)
theorem mSw_t (w : Int32) : mSw true w = jup w := by
  unfold mSw jup
  by_cases h : 999 ≤ w
  · rw [if_pos h, if_neg (fun g => g.2 h), Int32.add_zero]
  · rw [if_neg h, if_pos ⟨rfl, h⟩]
theorem mSw_f (w : Int32) : mSw false w = w := by
  unfold mSw
  rw [if_neg (fun g => absurd g.1 (by decide)), Int32.add_zero]
/-- the first q zones have swollen -/
def mSq (s : Bool) (i q : Nat) (x y : aS) : Prop := y.2 = x.2 ∧ (∀ a, a ≠ bM + 60 → y.1 a = x.1 a) ∧ ∀ j, y.1 (bM + 60) j = if 48 * i ≤ j ∧ j < 48 * i + q then mSw s (x.1 (bM + 60) j) else x.1 (bM + 60) j
theorem mSq_s {s : Bool} {i q : Nat} {x y : aS} (h : mSq s i q x y) : mSq s i (q + 1) x (aWr y (bM + 60) (48 * i + q) (mSw s (y.1 (bM + 60) (48 * i + q)))) := by
  obtain ⟨h1, h2, h3⟩ := h
  refine ⟨h1, fun a ha => by rw [aWr_n _ _ _ ha]; exact h2 a ha, fun j => ?_⟩
  by_cases e : j = 48 * i + q
  · subst e
    rw [aWr_s, h3, if_neg (by omega), if_pos (by omega)]
  · rw [aWr_j _ _ _ e, h3]
    by_cases g : 48 * i ≤ j ∧ j < 48 * i + q
    · rw [if_pos g, if_pos (by omega)]
    · rw [if_neg g, if_neg (by omega)]
theorem mSq_j {s : Bool} {i q : Nat} {x y : aS} (hq : q ≤ 48) (h : mSq s i q x y) : aFj i x y := by
  obtain ⟨h1, h2, h3⟩ := h
  refine ⟨⟨fun n j h4 _ => ?_, fun _ _ _ _ _ => by rw [h1]⟩, by rw [h1]⟩
  by_cases e : n = bM + 60
  · subst e
    rw [h3, if_neg (fun g => h4 (by unfold mIn; omega))]
  · rw [h2 n e]
theorem rM_swell {T : zT} {Z : zS} {s : Bool} {i : Nat} {x y : aS} (hS : rM T Z x i) (h : mSq s i (8 * T.1 0) x y) : rM T (if s then zSwell T Z else Z) y i := by
  obtain ⟨h1, h2, h3⟩ := h
  obtain ⟨q1, q2, q3, q4⟩ := hS
  have e2 : (if s then zSwell T Z else Z).2 = Z.2 := by split <;> rfl
  have e1 : ∀ g j, g ≠ 1 → (if s then zSwell T Z else Z).1 g j = Z.1 g j := by
    intro g j hg
    split
    · simp [zSwell, hg]
    · rfl
  refine ⟨?_, ?_, fun g hg => ⟨fun z hz => ?_, ?_, fun k hk => ?_⟩, fun m hm => ?_⟩
  · rw [h2 _ (by omega), q1, e1 _ _ (by decide)]
  · rw [h2 _ (by omega), q2, e1 _ _ (by decide)]
  · rw [h3, if_pos (by omega), (q3 g hg).1 z hz]
    cases s
    · exact mSw_f _
    · rw [mSw_t]
      show _ = (if 1 = 1 ∧ g * 8 + z < T.1 0 * 8 then jup (Z.1 1 (g * 8 + z)) else Z.1 1 (g * 8 + z))
      rw [if_pos ⟨rfl, by omega⟩]
  · rw [h2 _ (by omega), e2]; exact (q3 g hg).2.1
  · rw [e2] at hk ⊢
    rw [h2 _ (by omega), h2 _ (by omega), e1 _ _ (by decide)]
    exact (q3 g hg).2.2 k hk
  · rw [h2 _ (by omega), h2 _ (by omega), h2 _ (by omega), h2 _ (by omega), e2, e1 _ _ (by decide), e1 _ _ (by decide)]
    exact q4 m hm
set_option maxHeartbeats 8000000 in
set_option maxRecDepth 100000 in
theorem c_X12_yearGoes {l : Launch} {d : Nat} {D : Nat → Bool} {T : zT} {W : Nat → zL} {Z : zS} {i way : Nat} {x : aS} (hM : D 12 = true) (hi : i < 2) (ok : zTok T) (hT : rTM T x) (hW : rWM W x) (hF : rFl way x) (hJ : yJ T way i x Z x) : aCt l mX12_yearGoes (d + 6) D [.ref bM, .int (nI i)] x (fun v y => v = none ∧ yJ T way i x (zYear T W way Z) y) := by
  have h6 := ok.1
  have h8 := ok.2.1
  have h14 := ok.2.2.1
  have h36 := ok.2.2.2.1
  have h44 := ok.2.2.2.2.1
  have fT : ∀ {Z y}, yJ T way i x Z y → rTM T y := fun h => rTM_i h.2.2.2.1 hT
  have fW : ∀ {Z y}, yJ T way i x Z y → rWM W y := fun h => rWM_i h.2.2.2.1 hW
  have fF : ∀ {Z y}, yJ T way i x Z y → rFl way y := fun h => rFl_i h.2.2.2.1 hF
  have P268 : ∀ (Z : zS) (y : aS), yJ T way i x Z y → aV l mX12_yearGoes (d + 6) D none 268 [(0, .ref bM), (1, .int (nI i))] [] y (fun v y => v = none ∧ yJ T way i x (zY5 Z) y) := by
    intro Z y h
    refine a_aload_n (i := 0) dX12_yearGoes_268 rfl rfl ?_
    refine gX12_133 rfl dX12_yearGoes_269 (isM_0 hM) ?_
    refine a_iload_n (i := 1) dX12_yearGoes_272 rfl rfl ?_
    refine a_dup2_11 dX12_yearGoes_273 rfl rfl ?_
    refine a_ialdN dX12_yearGoes_274 (isM_69 hM) (by first | with_reducible exact rfl | with_reducible exact ix8 _ _ | with_reducible exact ix12 _ _ | exact rfl) (by omega) (by decide) ?_
    rw [h.2.1.1]
    refine a_iconst (v := 1) dX12_yearGoes_275 (by decide) ?_
    refine a_iadd dX12_yearGoes_276 ?_
    refine a_iastN dX12_yearGoes_277 (isM_69 hM) (by first | with_reducible exact rfl | with_reducible exact ix8 _ _ | with_reducible exact ix12 _ _ | exact rfl) (by omega) (by decide) ?_
    exact a_vret dX12_yearGoes_278 (by exact ⟨rfl, yJ_j h (rM_year h.2.1) (zOk_ui h.1) (aFj_w (by unfold mIn; omega)) (zKp_of (by simp [zY5, zui]) (fun m => by simp [zY5, zui]))⟩)
  have P242 : ∀ (k g : Nat), g + k = T.1 0 → ∀ (Z : zS) (y : aS), yJ T way i x Z y → aV l mX12_yearGoes (d + 6) D none 242 [(0, .ref bM), (1, .int (nI i)), (3, .int 1), (4, .int (nI g))] [] y (fun v y => v = none ∧ yJ T way i x (zY5 (lp (fun h Z => zSet Z h (fun _ => T.2.1 1 h)) g k Z)) y) := by
    intro k
    induction k with
    | zero =>
      intro g hg Z y h
      rw [Nat.add_zero] at hg
      have e : y.1 bM 12 = nI g := by rw [hg]; exact (fT h).1
      refine a_iload (i := 4) dX12_yearGoes_242 rfl ?_
      refine a_aload_n (i := 0) dX12_yearGoes_244 rfl rfl ?_
      refine gX12_258 rfl dX12_yearGoes_245 (isM_0 hM) ?_
      rw [e]
      refine a_icmp_ge (tg := 268) dX12_yearGoes_248 (by decide) (fun c_248 => ?_) (fun c_248 => ?_)
      · exact a_loc _ rfl (P268 _ _ h)
      · exact absurd (Int32.le_refl _) c_248
    | succ k ih =>
      intro g hg Z y h
      have e : y.1 bM 12 = nI (T.1 0) := (fT h).1
      have hg2 : g < T.1 0 := by omega
      refine a_iload (i := 4) dX12_yearGoes_242 rfl ?_
      refine a_aload_n (i := 0) dX12_yearGoes_244 rfl rfl ?_
      refine gX12_258 rfl dX12_yearGoes_245 (isM_0 hM) ?_
      rw [e]
      refine a_icmp_ge (tg := 268) dX12_yearGoes_248 (by decide) (fun c_248 => ?_) (fun c_248 => ?_)
      · exact absurd c_248 (nI_ge hg2 (by omega))
      · refine a_iload_n (i := 3) dX12_yearGoes_251 rfl rfl ?_
        refine a_if_eq (tg := 268) dX12_yearGoes_252 (by decide) (fun c_252 => ?_) (fun c_252 => ?_)
        · exact absurd c_252 (by decide)
        · refine a_aload_n (i := 0) dX12_yearGoes_255 rfl rfl ?_
          refine a_iload_n (i := 1) dX12_yearGoes_256 rfl rfl ?_
          refine a_iload (i := 4) dX12_yearGoes_257 rfl ?_
          refine kX12_407 rfl dX12_yearGoes_259 (Nat.le_of_ble_eq_true rfl) (isM_0 hM) (c_X12_bares hM hi (show g < 6 by omega)) ?_
          refine a_iincK (i := 4) (u := 1) dX12_yearGoes_262 rfl (by decide) (by decide) ?_
          refine a_goto (tg := 242) dX12_yearGoes_265 (by decide) ?_
          rw [nI_1]; exact a_loc _ rfl (ih (g + 1) (by omega) _ _ (yJ_j h (rM_bare (fT h) h.2.1 hg2) (zOk_set h.1) (aFj_bare (by omega)) zKp_set))
  have P239 : ∀ (Z : zS) (y : aS) (s : Bool), yJ T way i x Z y → aV l mX12_yearGoes (d + 6) D none 239 [(0, .ref bM), (1, .int (nI i)), (3, .int (bI s))] [] y (fun v y => v = none ∧ yJ T way i x (zY5 (if s then zBareAll T Z else Z)) y) := by
    intro Z y s h
    cases s
    · refine a_iconst (v := 0) dX12_yearGoes_239 (by decide) ?_
      refine a_istore (i := 4) dX12_yearGoes_240 (by decide) ?_
      refine a_iload (i := 4) dX12_yearGoes_242 rfl ?_
      refine a_aload_n (i := 0) dX12_yearGoes_244 rfl rfl ?_
      refine gX12_258 rfl dX12_yearGoes_245 (isM_0 hM) ?_
      refine a_icmp_ge (tg := 268) dX12_yearGoes_248 (by decide) (fun c_248 => ?_) (fun c_248 => ?_)
      · exact a_loc _ rfl (P268 _ _ h)
      · refine a_iload_n (i := 3) dX12_yearGoes_251 rfl rfl ?_
        refine a_if_eq (tg := 268) dX12_yearGoes_252 (by decide) (fun c_252 => ?_) (fun c_252 => ?_)
        · exact a_loc _ rfl (P268 _ _ h)
        · exact absurd rfl c_252
    · refine a_iconst (v := 0) dX12_yearGoes_239 (by decide) ?_
      refine a_istore (i := 4) dX12_yearGoes_240 (by decide) ?_
      exact a_loc _ rfl (P242 _ 0 (Nat.zero_add _) Z y h)
  have P193 : ∀ (Z : zS) (y : aS), yJ T way i x Z y → aV l mX12_yearGoes (d + 6) D none 193 [(0, .ref bM), (1, .int (nI i))] [] y (fun v y => v = none ∧ yJ T way i x (zY4 T Z) y) := by
    intro Z y h
    have e : y.1 bM 16 = nI (T.1 4) := (fT h).2.2.2.2.1
    have es : zStripIn T (Z.1 0 0) = lp (fun k s => s || decide (T.2.1 8 k = Z.1 0 0)) 0 (T.1 4) false := by rw [lp_or]; rfl
    unfold zY4
    rw [es]
    refine a_iconst (v := 0) dX12_yearGoes_193 (by decide) ?_
    refine a_istore_n (i := 3) dX12_yearGoes_194 rfl (by decide) ?_
    refine a_iconst (v := 0) dX12_yearGoes_195 (by decide) ?_
    refine a_istore (i := 4) dX12_yearGoes_196 (by decide) ?_
    refine a_loc [(0, .ref bM), (1, .int (nI i)), (3, .int (bI false)), (4, .int (nI 0))] rfl ?_
    refine lp_rule (P := fun k s => aV l mX12_yearGoes (d + 6) D none 198 [(0, .ref bM), (1, .int (nI i)), (3, .int (bI s)), (4, .int (nI k))] [] y _) (fun k s => s || decide (T.2.1 8 k = Z.1 0 0)) ?_ (T.1 4) 0 false (Nat.zero_add _) ?_
    · intro k s hk ih
      have ek : y.1 (bM + 42) k = T.2.1 8 k := (fT h).2.2.2.2.2.2.2.2.2.2.2.2 k hk
      refine a_iload (i := 4) dX12_yearGoes_198 rfl ?_
      refine a_aload_n (i := 0) dX12_yearGoes_200 rfl rfl ?_
      refine gX12_270 rfl dX12_yearGoes_201 (isM_0 hM) ?_
      rw [e]
      refine a_icmp_ge (tg := 239) dX12_yearGoes_204 (by decide) (fun c_204 => ?_) (fun c_204 => ?_)
      · exact absurd c_204 (nI_ge hk (by omega))
      · refine a_iload_n (i := 3) dX12_yearGoes_207 rfl rfl ?_
        refine a_if_ne (tg := 227) dX12_yearGoes_208 (by decide) (fun c_208 => ?_) (fun c_208 => ?_)
        · have es : s = true := by cases s; exact absurd rfl c_208; rfl
          subst es
          refine a_iconst (v := 1) dX12_yearGoes_227 (by decide) ?_
          refine a_goto (tg := 232) dX12_yearGoes_228 (by decide) ?_
          refine a_istore_n (i := 3) dX12_yearGoes_232 rfl (by decide) ?_
          refine a_iincK (i := 4) (u := 1) dX12_yearGoes_233 rfl (by decide) (by decide) ?_
          refine a_goto (tg := 198) dX12_yearGoes_236 (by decide) ?_
          rw [nI_1]; exact a_loc _ rfl ih
        · have es : s = false := by cases s; rfl; exact absurd c_208 (by decide)
          subst es
          refine a_aload_n (i := 0) dX12_yearGoes_211 rfl rfl ?_
          refine gX12_72 rfl dX12_yearGoes_212 (isM_0 hM) ?_
          refine a_iload (i := 4) dX12_yearGoes_215 rfl ?_
          refine a_ialdN dX12_yearGoes_217 (isM_42 hM) (by first | with_reducible exact rfl | with_reducible exact ix8 _ _ | with_reducible exact ix12 _ _ | exact rfl) (by omega) (by decide) ?_
          rw [ek]
          refine a_aload_n (i := 0) dX12_yearGoes_218 rfl rfl ?_
          refine gX12_133 rfl dX12_yearGoes_219 (isM_0 hM) ?_
          refine a_iload_n (i := 1) dX12_yearGoes_222 rfl rfl ?_
          refine a_ialdN dX12_yearGoes_223 (isM_69 hM) (by first | with_reducible exact rfl | with_reducible exact ix8 _ _ | with_reducible exact ix12 _ _ | exact rfl) (by omega) (by decide) ?_
          rw [h.2.1.1]
          refine a_icmp_ne (tg := 231) dX12_yearGoes_224 (by decide) (fun c_224 => ?_) (fun c_224 => ?_)
          · rw [decide_eq_false c_224] at ih
            refine a_iconst (v := 0) dX12_yearGoes_231 (by decide) ?_
            refine a_istore_n (i := 3) dX12_yearGoes_232 rfl (by decide) ?_
            refine a_iincK (i := 4) (u := 1) dX12_yearGoes_233 rfl (by decide) (by decide) ?_
            refine a_goto (tg := 198) dX12_yearGoes_236 (by decide) ?_
            rw [nI_1]; exact a_loc _ rfl ih
          · rw [decide_eq_true c_224] at ih
            refine a_iconst (v := 1) dX12_yearGoes_227 (by decide) ?_
            refine a_goto (tg := 232) dX12_yearGoes_228 (by decide) ?_
            refine a_istore_n (i := 3) dX12_yearGoes_232 rfl (by decide) ?_
            refine a_iincK (i := 4) (u := 1) dX12_yearGoes_233 rfl (by decide) (by decide) ?_
            refine a_goto (tg := 198) dX12_yearGoes_236 (by decide) ?_
            rw [nI_1]; exact a_loc _ rfl ih
    · refine a_iload (i := 4) dX12_yearGoes_198 rfl ?_
      refine a_aload_n (i := 0) dX12_yearGoes_200 rfl rfl ?_
      refine gX12_270 rfl dX12_yearGoes_201 (isM_0 hM) ?_
      rw [e]
      refine a_icmp_ge (tg := 239) dX12_yearGoes_204 (by decide) (fun c_204 => ?_) (fun c_204 => ?_)
      · exact a_loc _ rfl (P239 _ _ _ h)
      · exact absurd (Int32.le_refl _) c_204
  have P115 : ∀ (Z : zS) (y : aS) (s : Bool), yJ T way i x Z y → aV l mX12_yearGoes (d + 6) D none 115 [(0, .ref bM), (1, .int (nI i)), (2, .int (bI s))] [] y (fun v y => v = none ∧ yJ T way i x (zY4 T (if s then zSwell T Z else Z)) y) := by
    intro Z y s h
    have e : y.1 bM 12 = nI (T.1 0) := (fT h).1
    have O : ∀ (n g : Nat), g + n = T.1 0 → ∀ w, mSq s i (8 * g) y w → aV l mX12_yearGoes (d + 6) D none 117 [(0, .ref bM), (1, .int (nI i)), (2, .int (bI s)), (3, .int (nI g))] [] w (fun v y => v = none ∧ yJ T way i x (zY4 T (if s then zSwell T Z else Z)) y) := by
      refine dn_rule (P := fun g => ∀ w, mSq s i (8 * g) y w → aV l mX12_yearGoes (d + 6) D none 117 [(0, .ref bM), (1, .int (nI i)), (2, .int (bI s)), (3, .int (nI g))] [] w (fun v y => v = none ∧ yJ T way i x (zY4 T (if s then zSwell T Z else Z)) y)) ?_ ?_
      · intro w hw
        have ew : w.1 bM 12 = nI (T.1 0) := by rw [hw.2.1 _ (by omega)]; exact e
        have hz : zOk T (if s then zSwell T Z else Z) := by split; exact h.1; exact h.1
        have hk : zKp T Z (if s then zSwell T Z else Z) := by split; exact zKp_swell; exact zKp_r
        refine a_iload_n (i := 3) dX12_yearGoes_117 rfl rfl ?_
        refine a_aload_n (i := 0) dX12_yearGoes_118 rfl rfl ?_
        refine gX12_258 rfl dX12_yearGoes_119 (isM_0 hM) ?_
        rw [ew]
        refine a_icmp_ge (tg := 193) dX12_yearGoes_122 (by decide) (fun c_122 => ?_) (fun c_122 => ?_)
        · exact a_loc _ rfl (P193 _ _ (yJ_j h (rM_swell h.2.1 hw) hz (mSq_j (by omega) hw) hk))
        · exact absurd (Int32.le_refl _) c_122
      · intro g hg ih w hw
        have ew : w.1 bM 12 = nI (T.1 0) := by rw [hw.2.1 _ (by omega)]; exact e
        have I : ∀ (n z : Nat), z + n = 8 → ∀ w, mSq s i (8 * g + z) y w → aV l mX12_yearGoes (d + 6) D none 128 [(0, .ref bM), (1, .int (nI i)), (2, .int (bI s)), (3, .int (nI g)), (4, .int (nI z))] [] w (fun v y => v = none ∧ yJ T way i x (zY4 T (if s then zSwell T Z else Z)) y) := by
          refine dn_rule (P := fun z => ∀ w, mSq s i (8 * g + z) y w → aV l mX12_yearGoes (d + 6) D none 128 [(0, .ref bM), (1, .int (nI i)), (2, .int (bI s)), (3, .int (nI g)), (4, .int (nI z))] [] w (fun v y => v = none ∧ yJ T way i x (zY4 T (if s then zSwell T Z else Z)) y)) ?_ ?_
          · intro w hw
            refine a_iload (i := 4) dX12_yearGoes_128 rfl ?_
            refine a_bipush (v := 8) dX12_yearGoes_130 (by decide) ?_
            refine a_icmp_ge (tg := 187) dX12_yearGoes_132 (by decide) (fun c_132 => ?_) (fun c_132 => ?_)
            · refine a_iincK (i := 3) (u := 1) dX12_yearGoes_187 rfl (by decide) (by decide) ?_
              refine a_goto (tg := 117) dX12_yearGoes_190 (by decide) ?_
              rw [nI_1]; exact a_loc _ rfl (ih w (by rw [show 8 * (g + 1) = 8 * g + 8 by omega]; exact hw))
            · exact absurd (Int32.le_refl _) c_132
          · intro z hz ih2 w hw
            have hs := mSq_s hw
            have ej : 48 * i + (8 * g + z) = 8 * (6 * i + g) + z := by omega
            rw [ej] at hs
            refine a_iload (i := 4) dX12_yearGoes_128 rfl ?_
            refine a_bipush (v := 8) dX12_yearGoes_130 (by decide) ?_
            refine a_icmp_ge (tg := 187) dX12_yearGoes_132 (by decide) (fun c_132 => ?_) (fun c_132 => ?_)
            · exact absurd c_132 (nI_ge hz (by decide))
            · refine a_bipush (v := 8) dX12_yearGoes_135 (by decide) ?_
              refine a_bipush (v := 6) dX12_yearGoes_137 (by decide) ?_
              refine a_iload_n (i := 1) dX12_yearGoes_139 rfl rfl ?_
              refine a_imul dX12_yearGoes_140 ?_
              refine a_iload_n (i := 3) dX12_yearGoes_141 rfl rfl ?_
              refine a_iadd dX12_yearGoes_142 ?_
              refine a_imul dX12_yearGoes_143 ?_
              refine a_iload (i := 4) dX12_yearGoes_144 rfl ?_
              refine a_iadd dX12_yearGoes_146 ?_
              rw [il86]
              refine a_istore (i := 5) dX12_yearGoes_147 (by decide) ?_
              refine a_aload_n (i := 0) dX12_yearGoes_149 rfl rfl ?_
              refine gX12_106 rfl dX12_yearGoes_150 (isM_0 hM) ?_
              refine a_iload (i := 5) dX12_yearGoes_153 rfl ?_
              refine a_dup2_11 dX12_yearGoes_155 rfl rfl ?_
              refine a_ialdN dX12_yearGoes_156 (isM_60 hM) (by first | with_reducible exact rfl | with_reducible exact ix8 _ _ | with_reducible exact ix12 _ _ | exact rfl) (by omega) (by decide) ?_
              refine a_iload_n (i := 2) dX12_yearGoes_157 rfl rfl ?_
              refine a_if_eq (tg := 178) dX12_yearGoes_158 (by decide) (fun c_158 => ?_) (fun c_158 => ?_)
              · have es : s = false := by cases s; rfl; exact absurd c_158 (by decide)
                subst es
                rw [mSw, if_neg (fun g => absurd g.1 (by decide))] at hs
                refine a_iconst (v := 0) dX12_yearGoes_178 (by decide) ?_
                refine a_iadd dX12_yearGoes_179 ?_
                refine a_iastN dX12_yearGoes_180 (isM_60 hM) (by first | with_reducible exact rfl | with_reducible exact ix8 _ _ | with_reducible exact ix12 _ _ | exact rfl) (by omega) (by decide) ?_
                refine a_iincK (i := 4) (u := 1) dX12_yearGoes_181 rfl (by decide) (by decide) ?_
                refine a_goto (tg := 128) dX12_yearGoes_184 (by decide) ?_
                rw [nI_1]; exact a_loc _ rfl (ih2 _ (by rw [Nat.add_assoc] at hs; exact hs))
              · have es : s = true := by cases s; exact absurd rfl c_158; rfl
                subst es
                refine a_aload_n (i := 0) dX12_yearGoes_161 rfl rfl ?_
                refine gX12_106 rfl dX12_yearGoes_162 (isM_0 hM) ?_
                refine a_iload (i := 5) dX12_yearGoes_165 rfl ?_
                refine a_ialdN dX12_yearGoes_167 (isM_60 hM) (by first | with_reducible exact rfl | with_reducible exact ix8 _ _ | with_reducible exact ix12 _ _ | exact rfl) (by omega) (by decide) ?_
                refine a_sipush (v := 999) dX12_yearGoes_168 (by decide) ?_
                refine a_icmp_ge (tg := 178) dX12_yearGoes_171 (by decide) (fun c_171 => ?_) (fun c_171 => ?_)
                · rw [mSw, if_neg (fun g => g.2 c_171)] at hs
                  refine a_iconst (v := 0) dX12_yearGoes_178 (by decide) ?_
                  refine a_iadd dX12_yearGoes_179 ?_
                  refine a_iastN dX12_yearGoes_180 (isM_60 hM) (by first | with_reducible exact rfl | with_reducible exact ix8 _ _ | with_reducible exact ix12 _ _ | exact rfl) (by omega) (by decide) ?_
                  refine a_iincK (i := 4) (u := 1) dX12_yearGoes_181 rfl (by decide) (by decide) ?_
                  refine a_goto (tg := 128) dX12_yearGoes_184 (by decide) ?_
                  rw [nI_1]; exact a_loc _ rfl (ih2 _ (by rw [Nat.add_assoc] at hs; exact hs))
                · rw [mSw, if_pos ⟨rfl, c_171⟩] at hs
                  refine a_iconst (v := 1) dX12_yearGoes_174 (by decide) ?_
                  refine a_goto (tg := 179) dX12_yearGoes_175 (by decide) ?_
                  refine a_iadd dX12_yearGoes_179 ?_
                  refine a_iastN dX12_yearGoes_180 (isM_60 hM) (by first | with_reducible exact rfl | with_reducible exact ix8 _ _ | with_reducible exact ix12 _ _ | exact rfl) (by omega) (by decide) ?_
                  refine a_iincK (i := 4) (u := 1) dX12_yearGoes_181 rfl (by decide) (by decide) ?_
                  refine a_goto (tg := 128) dX12_yearGoes_184 (by decide) ?_
                  rw [nI_1]; exact a_loc _ rfl (ih2 _ (by rw [Nat.add_assoc] at hs; exact hs))
        refine a_iload_n (i := 3) dX12_yearGoes_117 rfl rfl ?_
        refine a_aload_n (i := 0) dX12_yearGoes_118 rfl rfl ?_
        refine gX12_258 rfl dX12_yearGoes_119 (isM_0 hM) ?_
        rw [ew]
        refine a_icmp_ge (tg := 193) dX12_yearGoes_122 (by decide) (fun c_122 => ?_) (fun c_122 => ?_)
        · exact absurd c_122 (nI_ge hg (by omega))
        · refine a_iconst (v := 0) dX12_yearGoes_125 (by decide) ?_
          refine a_istore (i := 4) dX12_yearGoes_126 (by decide) ?_
          exact a_loc _ rfl (I 8 0 rfl w hw)
    refine a_iconst (v := 0) dX12_yearGoes_115 (by decide) ?_
    refine a_istore_n (i := 3) dX12_yearGoes_116 rfl (by decide) ?_
    exact a_loc _ rfl (O _ 0 (Nat.zero_add _) y ⟨rfl, fun _ _ => rfl, fun j => by rw [if_neg (by omega)]⟩)
  have P110 : ∀ (Z : zS) (y : aS), yJ T way i x Z y → aV l mX12_yearGoes (d + 6) D none 110 [(0, .ref bM), (1, .int (nI i))] [] y (fun v y => v = none ∧ yJ T way i x (zY3 T way Z) y) := by
    intro Z y h
    obtain ⟨y', hc, hS', hF', h1', hN', hN2'⟩ := c_X12_isDamp (l := l) (d := d + 4) (D := D) (way := way) hM ok (fT h) h.2.1 (fF h) h.2.2.2.2.1
    have h4 : ∀ m, (zDamp T way Z).2.1 4 m = Z.1 4 m := by
      intro m
      unfold zDamp
      split
      · rfl
      · split
        · rfl
        · split
          · simp [zui]
          · rfl
    have hJ' : yJ T way i x (zDamp T way Z).2 y' := ⟨zOk_damp h.1, hS', fun m hm => by rw [h4]; exact h.2.2.1 m hm, aFi_t h.2.2.2.1 hF', hN', fun w => (hN2' w).trans (h.2.2.2.2.2 w)⟩
    refine a_aload_n (i := 0) dX12_yearGoes_110 rfl rfl ?_
    refine kX12_486 rfl dX12_yearGoes_111 (Nat.le_of_ble_eq_true rfl) (isM_0 hM) (hc) ?_
    refine a_istore_n (i := 2) dX12_yearGoes_114 rfl (by decide) ?_
    exact a_loc _ rfl (P115 _ _ _ hJ')
  have P90 : ∀ (k m : Nat), m + k = T.1 1 → ∀ (Z : zS) (y : aS), yJ T way i x Z y → aV l mX12_yearGoes (d + 6) D none 90 [(0, .ref bM), (1, .int (nI i)), (2, .int (nI m))] [] y (fun v y => v = none ∧ yJ T way i x (zY3 T way (lp (zWear T W way) m k Z)) y) := by
    intro k
    induction k with
    | zero =>
      intro m hm Z y h
      rw [Nat.add_zero] at hm
      have e : y.1 bM 13 = nI m := by rw [hm]; exact (fT h).2.1
      refine a_iload_n (i := 2) dX12_yearGoes_90 rfl rfl ?_
      refine a_aload_n (i := 0) dX12_yearGoes_91 rfl rfl ?_
      refine gX12_261 rfl dX12_yearGoes_92 (isM_0 hM) ?_
      rw [e]
      refine a_icmp_ge (tg := 110) dX12_yearGoes_95 (by decide) (fun c_95 => ?_) (fun c_95 => ?_)
      · exact a_loc _ rfl (P110 _ _ h)
      · exact absurd (Int32.le_refl _) c_95
    | succ k ih =>
      intro m hm Z y h
      have e : y.1 bM 13 = nI (T.1 1) := (fT h).2.1
      have hm2 : m < T.1 1 := by omega
      obtain ⟨y', hc, hS', hZ', hF'⟩ := c_X12_pinches (l := l) (d := d) (D := D) (way := way) hM hi ok h.1 (fT h) (fW h) h.2.1 hm2 (h.2.2.1 m hm2) (fF h).2.2.2.2
      refine a_iload_n (i := 2) dX12_yearGoes_90 rfl rfl ?_
      refine a_aload_n (i := 0) dX12_yearGoes_91 rfl rfl ?_
      refine gX12_261 rfl dX12_yearGoes_92 (isM_0 hM) ?_
      rw [e]
      refine a_icmp_ge (tg := 110) dX12_yearGoes_95 (by decide) (fun c_95 => ?_) (fun c_95 => ?_)
      · exact absurd c_95 (nI_ge hm2 (by omega))
      · refine a_aload_n (i := 0) dX12_yearGoes_98 rfl rfl ?_
        refine a_iload_n (i := 1) dX12_yearGoes_99 rfl rfl ?_
        refine a_iload_n (i := 2) dX12_yearGoes_100 rfl rfl ?_
        refine kX12_483 rfl dX12_yearGoes_101 (Nat.le_of_ble_eq_true rfl) (isM_0 hM) (hc) ?_
        refine a_iincK (i := 2) (u := 1) dX12_yearGoes_104 rfl (by decide) (by decide) ?_
        refine a_goto (tg := 90) dX12_yearGoes_107 (by decide) ?_
        rw [nI_1]; exact a_loc _ rfl (ih (m + 1) (by omega) _ _ (yJ_j h hS' hZ' hF' zKp_wear))
  have P88 : ∀ (Z : zS) (y : aS), yJ T way i x Z y → aV l mX12_yearGoes (d + 6) D none 88 [(0, .ref bM), (1, .int (nI i))] [] y (fun v y => v = none ∧ yJ T way i x (zY2 T W way Z) y) := by
    intro Z y h
    refine a_iconst (v := 0) dX12_yearGoes_88 (by decide) ?_
    refine a_istore_n (i := 2) dX12_yearGoes_89 rfl (by decide) ?_
    exact a_loc _ rfl (P90 _ 0 (Nat.zero_add _) Z y h)
  have P46 : ¬ way = 3 → ∀ (k w : Nat), w + k = T.1 3 → ∀ (Z : zS) (y : aS), yJ T way i x Z y → aV l mX12_yearGoes (d + 6) D none 46 [(0, .ref bM), (1, .int (nI i)), (2, .int (nI w))] [] y (fun v y => v = none ∧ yJ T way i x (zY2 T W way (lp (zWed T) w k Z)) y) := by
    intro w3 k
    induction k with
    | zero =>
      intro w hw Z y h
      rw [Nat.add_zero] at hw
      have e : y.1 bM 15 = nI w := by rw [hw]; exact (fT h).2.2.2.1
      refine a_iload_n (i := 2) dX12_yearGoes_46 rfl rfl ?_
      refine a_aload_n (i := 0) dX12_yearGoes_47 rfl rfl ?_
      refine gX12_267 rfl dX12_yearGoes_48 (isM_0 hM) ?_
      rw [e]
      refine a_icmp_ge (tg := 88) dX12_yearGoes_51 (by decide) (fun c_51 => ?_) (fun c_51 => ?_)
      · exact a_loc _ rfl (P88 _ _ h)
      · exact absurd (Int32.le_refl _) c_51
    | succ k ih =>
      intro w hw Z y h
      have e : y.1 bM 15 = nI (T.1 3) := (fT h).2.2.2.1
      have hw2 : w < T.1 3 := by omega
      have f3 : y.1 bM 73 = 0 := by rw [(fF h).2.2.2.1, bI_f w3]
      obtain ⟨e0, e1, e2⟩ := (fT h).2.2.2.2.2.2.2.2.2.2.2.1 w hw2
      show aV l mX12_yearGoes (d + 6) D none 46 _ [] y (fun v y => v = none ∧ yJ T way i x (zY2 T W way (lp (zWed T) (w + 1) k (zWed T w Z))) y)
      obtain ⟨y', hc, hS', hZ', hF'⟩ := c_X12_weds2 (l := l) (d := d + 1) (D := D) hM hi ok h.1 (fT h) h.2.1 hw2
      refine a_iload_n (i := 2) dX12_yearGoes_46 rfl rfl ?_
      refine a_aload_n (i := 0) dX12_yearGoes_47 rfl rfl ?_
      refine gX12_267 rfl dX12_yearGoes_48 (isM_0 hM) ?_
      rw [e]
      refine a_icmp_ge (tg := 88) dX12_yearGoes_51 (by decide) (fun c_51 => ?_) (fun c_51 => ?_)
      · exact absurd c_51 (nI_ge hw2 (by omega))
      · refine a_aload_n (i := 0) dX12_yearGoes_54 rfl rfl ?_
        refine gX12_420 rfl dX12_yearGoes_55 (isM_0 hM) ?_
        rw [f3]
        refine a_if_ne (tg := 88) dX12_yearGoes_58 (by decide) (fun c_58 => ?_) (fun c_58 => ?_)
        · exact absurd rfl c_58
        · refine a_aload_n (i := 0) dX12_yearGoes_61 rfl rfl ?_
          refine gX12_69 rfl dX12_yearGoes_62 (isM_0 hM) ?_
          refine a_iload_n (i := 2) dX12_yearGoes_65 rfl rfl ?_
          refine a_ialdN dX12_yearGoes_66 (isM_41 hM) (by first | with_reducible exact rfl | with_reducible exact ix8 _ _ | with_reducible exact ix12 _ _ | exact rfl) (by omega) (by decide) ?_
          rw [e2]
          refine a_aload_n (i := 0) dX12_yearGoes_67 rfl rfl ?_
          refine gX12_133 rfl dX12_yearGoes_68 (isM_0 hM) ?_
          refine a_iload_n (i := 1) dX12_yearGoes_71 rfl rfl ?_
          refine a_ialdN dX12_yearGoes_72 (isM_69 hM) (by first | with_reducible exact rfl | with_reducible exact ix8 _ _ | with_reducible exact ix12 _ _ | exact rfl) (by omega) (by decide) ?_
          rw [h.2.1.1]
          refine a_icmp_ne (tg := 82) dX12_yearGoes_73 (by decide) (fun c_73 => ?_) (fun c_73 => ?_)
          · rw [zWed_do, if_neg c_73]
            refine a_iincK (i := 2) (u := 1) dX12_yearGoes_82 rfl (by decide) (by decide) ?_
            refine a_goto (tg := 46) dX12_yearGoes_85 (by decide) ?_
            rw [nI_1]; first | exact a_loc _ rfl (ih (w + 1) (by omega) _ _ (yJ_j h hS' hZ' hF' zKp_wd)) | exact a_loc _ rfl (ih (w + 1) (by omega) _ _ h)
          · rw [zWed_do, if_pos c_73]
            refine a_aload_n (i := 0) dX12_yearGoes_76 rfl rfl ?_
            refine a_iload_n (i := 1) dX12_yearGoes_77 rfl rfl ?_
            refine a_iload_n (i := 2) dX12_yearGoes_78 rfl rfl ?_
            refine kX12_480 rfl dX12_yearGoes_79 (Nat.le_of_ble_eq_true rfl) (isM_0 hM) (hc) ?_
            refine a_iincK (i := 2) (u := 1) dX12_yearGoes_82 rfl (by decide) (by decide) ?_
            refine a_goto (tg := 46) dX12_yearGoes_85 (by decide) ?_
            rw [nI_1]; first | exact a_loc _ rfl (ih (w + 1) (by omega) _ _ (yJ_j h hS' hZ' hF' zKp_wd)) | exact a_loc _ rfl (ih (w + 1) (by omega) _ _ h)
  have P44 : ∀ (Z : zS) (y : aS), yJ T way i x Z y → aV l mX12_yearGoes (d + 6) D none 44 [(0, .ref bM), (1, .int (nI i))] [] y (fun v y => v = none ∧ yJ T way i x (zY2 T W way (if way = 3 then Z else zWeds T Z)) y) := by
    intro Z y h
    by_cases w3 : way = 3
    · rw [if_pos w3]
      have f3 : y.1 bM 73 = 1 := by rw [(fF h).2.2.2.1, bI_t w3]
      refine a_iconst (v := 0) dX12_yearGoes_44 (by decide) ?_
      refine a_istore_n (i := 2) dX12_yearGoes_45 rfl (by decide) ?_
      refine a_iload_n (i := 2) dX12_yearGoes_46 rfl rfl ?_
      refine a_aload_n (i := 0) dX12_yearGoes_47 rfl rfl ?_
      refine gX12_267 rfl dX12_yearGoes_48 (isM_0 hM) ?_
      refine a_icmp_ge (tg := 88) dX12_yearGoes_51 (by decide) (fun c_51 => ?_) (fun c_51 => ?_)
      · exact a_loc _ rfl (P88 _ _ h)
      · refine a_aload_n (i := 0) dX12_yearGoes_54 rfl rfl ?_
        refine gX12_420 rfl dX12_yearGoes_55 (isM_0 hM) ?_
        rw [f3]
        refine a_if_ne (tg := 88) dX12_yearGoes_58 (by decide) (fun c_58 => ?_) (fun c_58 => ?_)
        · exact a_loc _ rfl (P88 _ _ h)
        · exact absurd c_58 (by decide)
    · rw [if_neg w3]
      refine a_iconst (v := 0) dX12_yearGoes_44 (by decide) ?_
      refine a_istore_n (i := 2) dX12_yearGoes_45 rfl (by decide) ?_
      exact a_loc _ rfl (P46 w3 _ 0 (Nat.zero_add _) Z y h)
  have P2 : ¬ way = 1 → ∀ (k w : Nat), w + k = T.1 2 → ∀ (Z : zS) (y : aS), yJ T way i x Z y → aV l mX12_yearGoes (d + 6) D none 2 [(0, .ref bM), (1, .int (nI i)), (2, .int (nI w))] [] y (fun v y => v = none ∧ yJ T way i x (zY2 T W way (if way = 3 then lp (zDeed T W) w k Z else zWeds T (lp (zDeed T W) w k Z))) y) := by
    intro w1 k
    induction k with
    | zero =>
      intro w hw Z y h
      rw [Nat.add_zero] at hw
      have e : y.1 bM 14 = nI w := by rw [hw]; exact (fT h).2.2.1
      refine a_iload_n (i := 2) dX12_yearGoes_2 rfl rfl ?_
      refine a_aload_n (i := 0) dX12_yearGoes_3 rfl rfl ?_
      refine gX12_264 rfl dX12_yearGoes_4 (isM_0 hM) ?_
      rw [e]
      refine a_icmp_ge (tg := 44) dX12_yearGoes_7 (by decide) (fun c_7 => ?_) (fun c_7 => ?_)
      · exact a_loc _ rfl (P44 _ _ h)
      · exact absurd (Int32.le_refl _) c_7
    | succ k ih =>
      intro w hw Z y h
      have e : y.1 bM 14 = nI (T.1 2) := (fT h).2.2.1
      have hw2 : w < T.1 2 := by omega
      have f3 : y.1 bM 72 = 0 := by rw [(fF h).2.2.1, bI_f w1]
      obtain ⟨e0, e1, e2, e3, e4⟩ := (fT h).2.2.2.2.2.2.2.2.2.2.1 w hw2
      show aV l mX12_yearGoes (d + 6) D none 2 _ [] y (fun v y => v = none ∧ yJ T way i x (zY2 T W way (if way = 3 then lp (zDeed T W) (w + 1) k (zDeed T W w Z) else zWeds T (lp (zDeed T W) (w + 1) k (zDeed T W w Z)))) y)
      obtain ⟨y', hc, hS', hZ', hF'⟩ := c_X12_does (l := l) (d := d + 1) (D := D) hM hi ok h.1 (fT h) (fW h) h.2.1 hw2
      refine a_iload_n (i := 2) dX12_yearGoes_2 rfl rfl ?_
      refine a_aload_n (i := 0) dX12_yearGoes_3 rfl rfl ?_
      refine gX12_264 rfl dX12_yearGoes_4 (isM_0 hM) ?_
      rw [e]
      refine a_icmp_ge (tg := 44) dX12_yearGoes_7 (by decide) (fun c_7 => ?_) (fun c_7 => ?_)
      · exact absurd c_7 (nI_ge hw2 (by omega))
      · refine a_aload_n (i := 0) dX12_yearGoes_10 rfl rfl ?_
        refine gX12_417 rfl dX12_yearGoes_11 (isM_0 hM) ?_
        rw [f3]
        refine a_if_ne (tg := 44) dX12_yearGoes_14 (by decide) (fun c_14 => ?_) (fun c_14 => ?_)
        · exact absurd rfl c_14
        · refine a_aload_n (i := 0) dX12_yearGoes_17 rfl rfl ?_
          refine gX12_60 rfl dX12_yearGoes_18 (isM_0 hM) ?_
          refine a_iload_n (i := 2) dX12_yearGoes_21 rfl rfl ?_
          refine a_ialdN dX12_yearGoes_22 (isM_38 hM) (by first | with_reducible exact rfl | with_reducible exact ix8 _ _ | with_reducible exact ix12 _ _ | exact rfl) (by omega) (by decide) ?_
          rw [e4]
          refine a_aload_n (i := 0) dX12_yearGoes_23 rfl rfl ?_
          refine gX12_133 rfl dX12_yearGoes_24 (isM_0 hM) ?_
          refine a_iload_n (i := 1) dX12_yearGoes_27 rfl rfl ?_
          refine a_ialdN dX12_yearGoes_28 (isM_69 hM) (by first | with_reducible exact rfl | with_reducible exact ix8 _ _ | with_reducible exact ix12 _ _ | exact rfl) (by omega) (by decide) ?_
          rw [h.2.1.1]
          refine a_icmp_ne (tg := 38) dX12_yearGoes_29 (by decide) (fun c_29 => ?_) (fun c_29 => ?_)
          · rw [zDeed_do, if_neg c_29]
            refine a_iincK (i := 2) (u := 1) dX12_yearGoes_38 rfl (by decide) (by decide) ?_
            refine a_goto (tg := 2) dX12_yearGoes_41 (by decide) ?_
            rw [nI_1]; first | exact a_loc _ rfl (ih (w + 1) (by omega) _ _ (yJ_j h hS' hZ' hF' zKp_do)) | exact a_loc _ rfl (ih (w + 1) (by omega) _ _ h)
          · rw [zDeed_do, if_pos c_29]
            refine a_aload_n (i := 0) dX12_yearGoes_32 rfl rfl ?_
            refine a_iload_n (i := 1) dX12_yearGoes_33 rfl rfl ?_
            refine a_iload_n (i := 2) dX12_yearGoes_34 rfl rfl ?_
            refine kX12_477 rfl dX12_yearGoes_35 (Nat.le_of_ble_eq_true rfl) (isM_0 hM) (hc) ?_
            refine a_iincK (i := 2) (u := 1) dX12_yearGoes_38 rfl (by decide) (by decide) ?_
            refine a_goto (tg := 2) dX12_yearGoes_41 (by decide) ?_
            rw [nI_1]; first | exact a_loc _ rfl (ih (w + 1) (by omega) _ _ (yJ_j h hS' hZ' hF' zKp_do)) | exact a_loc _ rfl (ih (w + 1) (by omega) _ _ h)
  refine a_met (by decide) (Nat.le_of_ble_eq_true rfl) (fun v y q => Or.inr (Or.inr (Or.inr ⟨rfl, q.1⟩))) ?_
  unfold zYear
  by_cases w1 : way = 1
  · rw [if_pos w1]
    have f3 : x.1 bM 72 = 1 := by rw [hF.2.2.1, bI_t w1]
    refine a_iconst (v := 0) dX12_yearGoes_0 (by decide) ?_
    refine a_istore_n (i := 2) dX12_yearGoes_1 rfl (by decide) ?_
    refine a_iload_n (i := 2) dX12_yearGoes_2 rfl rfl ?_
    refine a_aload_n (i := 0) dX12_yearGoes_3 rfl rfl ?_
    refine gX12_264 rfl dX12_yearGoes_4 (isM_0 hM) ?_
    refine a_icmp_ge (tg := 44) dX12_yearGoes_7 (by decide) (fun c_7 => ?_) (fun c_7 => ?_)
    · exact a_loc _ rfl (P44 _ _ hJ)
    · refine a_aload_n (i := 0) dX12_yearGoes_10 rfl rfl ?_
      refine gX12_417 rfl dX12_yearGoes_11 (isM_0 hM) ?_
      rw [f3]
      refine a_if_ne (tg := 44) dX12_yearGoes_14 (by decide) (fun c_14 => ?_) (fun c_14 => ?_)
      · exact a_loc _ rfl (P44 _ _ hJ)
      · exact absurd c_14 (by decide)
  · rw [if_neg w1]
    refine a_iconst (v := 0) dX12_yearGoes_0 (by decide) ?_
    refine a_istore_n (i := 2) dX12_yearGoes_1 rfl (by decide) ?_
    exact a_loc _ rfl (P2 w1 _ 0 (Nat.zero_add _) Z x hJ)
