/-! THE LAW: text -/
section qBQ
variable {T : zT} {W : Nat → zL} {Z Y : zS} {p : Nat × zG} {k : Int32} {u : zU} {im : Bool} {f7 f8 : Int32} {t t2 N : Nat} {B : Nat → Nat} {x y : aS} {R : pS}
theorem rTM_h (ok : zTok T) (h : rTM T x) (e : ∀ m j, (m = bM ∧ 12 ≤ j ∧ j ≤ 17) ∨ (bM + 26 ≤ m ∧ m ≤ bM + 48 ∧ j < hlf (m - bM)) → y.1 m j = x.1 m j) : rTM T y := by
  obtain ⟨b0, b1, b2, b3, b4, -⟩ := ok
  have g : ∀ c j, 26 ≤ c → c ≤ 48 → j < hlf c → y.1 (bM + c) j = x.1 (bM + c) j := fun c j h1 h2 h3 => e _ _ (Or.inr ⟨by omega, by omega, by rw [show bM + c - bM = c by omega]; exact h3⟩)
  have f : ∀ j, 12 ≤ j ∧ j ≤ 17 → y.1 bM j = x.1 bM j := fun j hj => e _ _ (Or.inl ⟨rfl, hj⟩)
  obtain ⟨h1, h2, h3, h4, h5, h6, h7, h8, h9, h10, h11, h12, h13⟩ := h
  refine ⟨(f 12 (by decide)).trans h1, (f 13 (by decide)).trans h2, (f 14 (by decide)).trans h3, (f 15 (by decide)).trans h4, (f 16 (by decide)).trans h5, (f 17 (by decide)).trans h6, (g 26 0 (by decide) (by decide) (by decide)).trans h7, (g 26 1 (by decide) (by decide) (by decide)).trans h8, fun i hi => ?_, fun i hi => ?_, fun i hi => ?_, fun i hi => ?_, fun i hi => ?_⟩
  · rw [g 27 i (by decide) (by decide) (by rw [hlf_27 _ (by decide) (by decide)]; omega), g 28 i (by decide) (by decide) (by rw [hlf_27 _ (by decide) (by decide)]; omega)]; exact h9 i hi
  · rw [g 29 i (by decide) (by decide) (by rw [hlf_29 _ (by decide) (by decide)]; omega), g 30 i (by decide) (by decide) (by rw [hlf_29 _ (by decide) (by decide)]; omega), g 31 i (by decide) (by decide) (by rw [hlf_29 _ (by decide) (by decide)]; omega), g 32 i (by decide) (by decide) (by rw [hlf_29 _ (by decide) (by decide)]; omega), g 33 i (by decide) (by decide) (by rw [hlf_29 _ (by decide) (by decide)]; omega)]; exact h10 i hi
  · rw [g 34 i (by decide) (by decide) (by rw [hlf_34 _ (by decide) (by decide)]; omega), g 35 i (by decide) (by decide) (by rw [hlf_34 _ (by decide) (by decide)]; omega), g 36 i (by decide) (by decide) (by rw [hlf_34 _ (by decide) (by decide)]; omega), g 37 i (by decide) (by decide) (by rw [hlf_34 _ (by decide) (by decide)]; omega), g 38 i (by decide) (by decide) (by rw [hlf_34 _ (by decide) (by decide)]; omega)]; exact h11 i hi
  · rw [g 39 i (by decide) (by decide) (by rw [hlf_39 _ (by decide) (by decide)]; omega), g 40 i (by decide) (by decide) (by rw [hlf_39 _ (by decide) (by decide)]; omega), g 41 i (by decide) (by decide) (by rw [hlf_39 _ (by decide) (by decide)]; omega)]; exact h12 i hi
  · rw [g 42 i (by decide) (by decide) (by rw [hlf_42 _ (by decide) (by decide)]; omega)]; exact h13 i hi
theorem rWM_h (h : rWM W x) (e : ∀ m j, bM + 26 ≤ m ∧ m ≤ bM + 48 ∧ j < hlf (m - bM) → y.1 m j = x.1 m j) : rWM W y := by
  have g : ∀ c j, 26 ≤ c → c ≤ 48 → j < hlf c → y.1 (bM + c) j = x.1 (bM + c) j := fun c j h1 h2 h3 => e _ _ ⟨by omega, by omega, by rw [show bM + c - bM = c by omega]; exact h3⟩
  intro q hq
  obtain ⟨a1, a2⟩ := h q hq
  refine ⟨(g 43 q (by decide) (by decide) hq).trans a1, fun hp => ?_⟩
  obtain ⟨f, P, O, b1, b2, b3⟩ := a2 hp
  refine ⟨f, P, O, (g 44 q (by decide) (by decide) hq).trans b1, (g 45 q (by decide) (by decide) hq).trans b2, rLM_f b3 (fun m j h1 h2 h3 => ?_)⟩
  have := b3.1
  obtain ⟨c, rfl⟩ : ∃ c, m = bM + c := ⟨m - bM, by omega⟩
  refine g c j (by omega) (by omega) ?_
  rcases (by omega : c = 46 ∨ c = 47 ∨ c = 48) with e | e | e
  · rw [e, show hlf 46 = 64 from rfl]; omega
  · rw [e, show hlf 47 = 64 from rfl]; omega
  · rw [e, show hlf 48 = 64 from rfl]; omega
theorem mQ_h (h : mQ T W Z x) (e : ∀ m j, (m = bM ∧ ((12 ≤ j ∧ j ≤ 17) ∨ (70 ≤ j ∧ j ≤ 74))) ∨ (bM + 26 ≤ m ∧ m ≤ bM + 48 ∧ j < hlf (m - bM)) ∨ mIn 0 m j → y.1 m j = x.1 m j) (e2 : y.2 bM 69 = x.2 bM 69) : mQ T W Z y := by
  obtain ⟨⟨ok, hZ, hT, hW, hS⟩, hB, ⟨a, a1, a2, a3⟩, f0, f1, f2, f3, f4⟩ := h
  have ef : ∀ j, 70 ≤ j → j ≤ 74 → y.1 bM j = x.1 bM j := fun j h1 h2 => e _ _ (Or.inl ⟨rfl, Or.inr ⟨h1, h2⟩⟩)
  exact ⟨⟨ok, hZ, rTM_h ok hT (fun m j g => e m j (by rcases g with g | g; exact Or.inl ⟨g.1, Or.inl g.2⟩; exact Or.inr (Or.inl g))), rWM_h hW (fun m j g => e m j (Or.inr (Or.inl g))), rM_same ok hZ (fun n j g => e n j (Or.inr (Or.inr g))) hS⟩, hB, ⟨a, a1, a2, by rw [e2]; exact a3⟩, by rw [ef _ (by decide) (by decide)]; exact f0, by rw [ef _ (by decide) (by decide)]; exact f1, by rw [ef _ (by decide) (by decide)]; exact f2, by rw [ef _ (by decide) (by decide)]; exact f3, by rw [ef _ (by decide) (by decide)]; exact f4⟩
theorem zB_first : zB T (zFirst T) := ⟨by show 0 < 2 ^ T.1 1; exact Nat.two_pow_pos _, fun m _ => by show (0 : Int32) ≤ 999; decide⟩
theorem zCo_first : zCo T (zFirst T) := fun m _ => ⟨0, by decide, rfl⟩
theorem gC_tx (ht : aTdB t) (h : ¬ t = t2) (X : cTx R t t2 x y) : gC R.1 R.2.1 (zFirst R.1) Y (0, p.2) (-1) (0, u.2) false 0 (-1) t2 t 0 B y := by
  obtain ⟨a1, a2, a3, a4, a5, a6, a7, a8, a9, -⟩ := X
  exact ⟨a1, ⟨⟨ht, fun e => h e.symm, a2⟩, ⟨a7, fun j hj => absurd hj (Nat.not_lt_zero j)⟩, a8, a9⟩, ⟨⟨a3, fun j hj => absurd hj (Nat.not_lt_zero j)⟩, a4⟩, rU_0 a5, ⟨a6, fun e => absurd e Bool.false_ne_true⟩⟩
theorem gM_tx (w : ∀ j, j < 108 → x.1 (bM + 4) j = nI (wd j)) (X : mTx R x y) : gM R.1 R.2.1 (zFirst R.1) Y (0, p.2) (-1) (0, u.2) false 0 (-1) 0 B y := by
  obtain ⟨a1, a2, a3, a4, a5, a6, a7, a8, a9, a10, a11, a12, a13⟩ := X
  exact ⟨⟨a1, zB_first, a2, a3⟩, ⟨⟨a8, fun j hj => absurd hj (Nat.not_lt_zero j)⟩, fun j hj => by rw [a12 _ _ (Or.inr rfl)]; exact w j hj, a10, a11⟩, ⟨⟨a4, fun j hj => absurd hj (Nat.not_lt_zero j)⟩, a5⟩, rUM_0 a6, ⟨a7, fun e => absurd e Bool.false_ne_true⟩⟩
theorem gP_tx (g : tG R.1) : gPu R.1 (zFirst R.1) Y (0, p.2) (-1) (0, u.2) false 0 B := ⟨zWb_first g.2, zCo_first, g.2, ⟨Nat.zero_le _, fun j hj => absurd hj (Nat.not_lt_zero j)⟩, Or.inl rfl, uR_0, fun j hj => absurd hj (Nat.not_lt_zero j), fun e => absurd e Bool.false_ne_true, Nat.zero_le _, fun j hj => absurd hj (Nat.not_lt_zero j)⟩
theorem gC_tf (h : gC T W Z Y p k u im f7 f8 t t2 N B x) (X : cTf R t2 x y) : gC T W Z Y p k u im (nI R.2.2.2.2.1) (nI R.2.2.2.2.2) t t2 0 B y := by
  obtain ⟨a1, a2, a3, a4, a5⟩ := h
  obtain ⟨x1, x2, x3, x4, x5⟩ := X
  have n := nb0
  have h2 : t2 = 768 ∨ t2 = 1024 := a2.1.1
  have h1 : t = 768 ∨ t = 1024 := a1.1
  have h3 := a2.1.2.1
  have e : ∀ m, ¬ m = bTp → ¬ m = bRd → ¬ m = bRd + 5 → ¬ (t2 ≤ m ∧ m < t2 + 256) → y.1 m = x.1 m := fun m b c d f => funext (fun j => x4 m j (fun g => b g.1) (fun g => c g.1) d f)
  refine ⟨?_, ⟨⟨a2.1.1, a2.1.2.1, by rw [x4 bRd 1 (by omega) (by omega) (by omega) (by omega)]; exact a2.1.2.2⟩, ⟨x1, fun j hj => absurd hj (Nat.not_lt_zero j)⟩, x2, x3⟩, cS0_f a3 (fun m g _ => e m (by omega) (by omega) (by omega) (by omega)), rU_o (fun m g => e m (by omega) (by omega) (by omega) (by omega)) a4, cI0_f a5 (by rw [e bLH (by omega) (by omega) (by omega) (by omega)]) (fun m g => e m (by omega) (by omega) (by omega) (by omega))⟩
  obtain ⟨b1, b2, b3, b4, b5, b6, b7⟩ := a1
  exact ⟨b1, by rw [e bLH (by omega) (by omega) (by omega) (by omega)]; exact b2, b3, b4, rT_same (fun q hq => e _ (by omega) (by omega) (by omega) (by omega)) b3 b5, rW_same (fun q hq => e _ (by omega) (by omega) (by omega) (by omega)) b6, rS_same (fun q hq => e _ (by omega) (by omega) (by omega) (by omega)) b7⟩
theorem gM_tf (h : gM T W Z Y p k u im f7 f8 N B x) (X : mTf R x y) : gM T W Z Y p k u im (nI R.2.2.2.2.1) (nI R.2.2.2.2.2) 0 B y := by
  obtain ⟨a1, a2, a3, a4, a5⟩ := h
  obtain ⟨x1, x2, x3, x4, x5, x6⟩ := X
  have nr : ∀ m j, (m = bM ∧ (j = 83 ∨ j = 85 ∨ j = 78 ∨ j = 79 ∨ (12 ≤ j ∧ j ≤ 17) ∨ (70 ≤ j ∧ j ≤ 74))) ∨ m = bM + 4 ∨ bM + 51 ≤ m → y.1 m j = x.1 m j := fun m j g => x5 m j (fun e => by unfold rC at e; omega) (fun e => by unfold mUc at e; omega) (by omega)
  refine ⟨mQ_h a1 (fun m j g => ?_) (by rw [x6]), ⟨⟨x1, fun j hj => absurd hj (Nat.not_lt_zero j)⟩, fun j hj => by rw [nr _ _ (by omega)]; exact a2.2.1 j hj, x3, x4⟩, mSe_f a3 (fun m j g => nr _ _ (by omega)), rUM_f a4 (fun m j g => nr _ _ (by omega)), mI0_f a5 (nr _ _ (by omega)) (fun m j g => nr _ _ (by omega)) (by rw [x6])⟩
  rcases g with g | g | g
  · exact nr m j (by omega)
  · refine x5 m j (fun e => ?_) (fun e => by unfold mUc at e; omega) (by omega)
    unfold rC at e
    omega
  · exact nr m j (by unfold mIn at g; omega)
theorem hi_tf (ht : aTdB t2) (X : cTf R t2 x y) : hiS x y := by
  have n := nb0
  have h2 : t2 = 768 ∨ t2 = 1024 := ht
  exact ⟨fun m hm => funext (fun j => X.2.2.2.1 m j (by omega) (by omega) (by omega) (by omega)), fun m _ => by rw [X.2.2.2.2]⟩
theorem lo_tf (X : mTf R x y) : loS x y := by
  have n := nb0
  exact fun m hm => funext (fun j => X.2.2.2.2.1 m j (fun e => by unfold rC at e; omega) (fun e => by unfold mUc at e; omega) (by omega))
end qBQ
section qBR
variable {l : Launch} {D : Nat → Bool} {scr : Option aSc} {q : aSc} {i : Nat} {x : aS} {Q : Option Value → aS → Prop}
set_option maxHeartbeats 4000000 in
set_option maxRecDepth 100000 in
theorem lw_text (hD : aDC D) (hM : D 12 = true) (hs : scr = some q) (hL : q.1 < 2147483648) (hi : i + 6 ≤ q.1) (J : gJ x) (ih : ∀ z, gJ z → aV l mL_law 13 D scr 1618 (lwV i) [] z Q) : aV l mL_law 13 D scr 293 (lwV i) [] x Q := by
  obtain ⟨T, W, Z, Y, p, k, u, im, f7, f8, t, t2, N, B, C, M, P⟩ := J
  obtain ⟨pW, pCo, pB, pS, pK, pR, pU, pI, pN, pBB⟩ := id P
  have n := nb0
  by_cases bad : (q.2.1 (i + 1)) < 0 ∨ nI N < (q.2.1 (i + 1))
  · refine a_aload_n (i := 1) dL_law_293 rfl rfl ?_
    refine a_aload_n (i := 0) dL_law_294 rfl rfl ?_
    refine a_iload (i := 4) dL_law_295 rfl ?_
    refine a_iconst (v := 1) dL_law_297 (by decide) ?_
    refine a_iadd dL_law_298 ?_
    refine a_sldN dL_law_299 hs (nI_add _ 1) (by omega) hL ?_
    refine kL_26 rfl dL_law_300 (Nat.le_of_ble_eq_true rfl) (isLH_0 hD) (c_X11_textN (N := N) hD C.2.1.2.1.1 bad) ?_
    refine a_aload_n (i := 2) dL_law_303 rfl rfl ?_
    refine a_aload_n (i := 0) dL_law_304 rfl rfl ?_
    refine a_iload (i := 4) dL_law_305 rfl ?_
    refine a_iconst (v := 1) dL_law_307 (by decide) ?_
    refine a_iadd dL_law_308 ?_
    refine a_sldN dL_law_309 hs (nI_add _ 1) (by omega) hL ?_
    refine kL_30 rfl dL_law_310 (Nat.le_of_ble_eq_true rfl) (isM_0 hM) (c_X12_textN (N := N) hM M.2.1.1.1 bad) ?_
    refine a_icmp_eq (tg := 1618) dL_law_313 (by decide) (fun c_313 => ?_) (fun c_313 => ?_)
    · exact a_loc _ rfl (ih _ ⟨T, W, Z, Y, p, k, u, im, f7, f8, t, t2, N, B, gC_lo C (lo_F mF_0), gM_F M mF_0, P⟩)
    · exact absurd rfl c_313
  · obtain ⟨n', hn', en⟩ := nI_of (x := (q.2.1 (i + 1))) (fun e => bad (Or.inl e))
    have hnN : n' ≤ N := by
      have h := Int32.not_lt.mp (fun e => bad (Or.inr e))
      rw [en] at h
      exact (nI_leI hn' (by omega)).mp h
    have ct := c_X11_text (l := l) (d := 2) (D := D) (n := n') (N := N) (B := B) hD C.1.1 C.1.2.1 C.2.1.1.1 C.2.1.1.2.2 C.2.1.1.2.1 C.2.1.2.1.1 pN (fun j hj => ⟨pBB j hj, C.2.1.2.1.2 j hj⟩) hnN
    have mt : ∀ y : aS, gM T W Z Y p k u im f7 f8 N B y → _ := fun y M1 => c_X12_text (l := l) (d := 7) (D := D) (n := n') (N := N) (B := B) hM M1.2.1.1.1 pN (fun j hj => ⟨pBB j hj, M1.2.1.1.2 j hj⟩) M1.2.1.2.1 hnN
    have tg := tG_go (B := B) (n := n') (n' + 1) pS0 (fun _ => tG_0)
    generalize rdGo B n' (n' + 1) pS0 = R at ct mt tg
    by_cases g : R.2.2.2.2.1 = 0
    · refine a_aload_n (i := 1) dL_law_293 rfl rfl ?_
      refine a_aload_n (i := 0) dL_law_294 rfl rfl ?_
      refine a_iload (i := 4) dL_law_295 rfl ?_
      refine a_iconst (v := 1) dL_law_297 (by decide) ?_
      refine a_iadd dL_law_298 ?_
      refine a_sldN dL_law_299 hs (nI_add _ 1) (by omega) hL ?_
      rw [en]
      refine kgL_26 rfl dL_law_300 (Nat.le_of_ble_eq_true rfl) (isLH_0 hD) (ct) ?_
      rintro v y ⟨q1, -⟩
      obtain ⟨rfl, X1⟩ := q1 g
      have C1 := gC_tx (Y := Y) (p := p) (u := u) (B := B) C.1.1 C.2.1.1.2.1 X1
      have M1 := gM_hi (y := y) M ⟨fun m hm => funext (fun j => X1.2.2.2.2.2.2.2.2.2.1 m j hm), fun m _ => by rw [X1.2.2.2.2.2.2.2.2.2.2]⟩
      refine a_aload_n (i := 2) dL_law_303 rfl rfl ?_
      refine a_aload_n (i := 0) dL_law_304 rfl rfl ?_
      refine a_iload (i := 4) dL_law_305 rfl ?_
      refine a_iconst (v := 1) dL_law_307 (by decide) ?_
      refine a_iadd dL_law_308 ?_
      refine a_sldN dL_law_309 hs (nI_add _ 1) (by omega) hL ?_
      rw [en]
      refine kgL_30 rfl dL_law_310 (Nat.le_of_ble_eq_true rfl) (isM_0 hM) (mt y M1) ?_
      rintro v z ⟨q1, -⟩
      obtain ⟨rfl, X2⟩ := q1 g
      have M2 := gM_tx (Y := Y) (p := p) (u := u) (B := B) M1.2.1.2.1 X2
      have lo : loS y z := fun m hm => funext (fun j => X2.2.2.2.2.2.2.2.2.2.2.2.1 m j (Or.inl (by omega)))
      refine a_icmp_eq (tg := 1618) dL_law_313 (by decide) (fun c_313 => ?_) (fun c_313 => ?_)
      · exact a_loc _ rfl (ih _ ⟨_, _, _, _, _, _, _, _, _, _, _, _, _, _, gC_lo C1 lo, M2, gP_tx (tg g)⟩)
      · exact absurd rfl c_313
    · refine a_aload_n (i := 1) dL_law_293 rfl rfl ?_
      refine a_aload_n (i := 0) dL_law_294 rfl rfl ?_
      refine a_iload (i := 4) dL_law_295 rfl ?_
      refine a_iconst (v := 1) dL_law_297 (by decide) ?_
      refine a_iadd dL_law_298 ?_
      refine a_sldN dL_law_299 hs (nI_add _ 1) (by omega) hL ?_
      rw [en]
      refine kgL_26 rfl dL_law_300 (Nat.le_of_ble_eq_true rfl) (isLH_0 hD) (ct) ?_
      rintro v y ⟨-, q1⟩
      obtain ⟨rfl, X1⟩ := q1 g
      have C1 := gC_tf C X1
      have M1 := gM_hi M (hi_tf C.2.1.1.1 X1)
      refine a_aload_n (i := 2) dL_law_303 rfl rfl ?_
      refine a_aload_n (i := 0) dL_law_304 rfl rfl ?_
      refine a_iload (i := 4) dL_law_305 rfl ?_
      refine a_iconst (v := 1) dL_law_307 (by decide) ?_
      refine a_iadd dL_law_308 ?_
      refine a_sldN dL_law_309 hs (nI_add _ 1) (by omega) hL ?_
      rw [en]
      refine kgL_30 rfl dL_law_310 (Nat.le_of_ble_eq_true rfl) (isM_0 hM) (mt y M1) ?_
      rintro v z ⟨-, q1⟩
      obtain ⟨rfl, X2⟩ := q1 g
      have M2 := gM_tf M1 X2
      refine a_icmp_eq (tg := 1618) dL_law_313 (by decide) (fun c_313 => ?_) (fun c_313 => ?_)
      · exact a_loc _ rfl (ih _ ⟨_, _, _, _, _, _, _, _, _, _, _, _, _, _, gC_lo C1 (lo_tf X2), M2, ⟨pW, pCo, pB, pS, pK, pR, pU, pI, Nat.zero_le _, fun j hj => absurd hj (Nat.not_lt_zero j)⟩⟩)
      · exact absurd rfl c_313
end qBR
