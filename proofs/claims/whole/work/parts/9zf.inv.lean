/-! THE LAW: what holds between calls -/
section qBM
variable {T : zT} {W : Nat → zL} {Z Y : zS} {p : Nat × zG} {k : Int32} {u : zU} {im : Bool} {f7 f8 : Int32} {t t2 N : Nat} {B : Nat → Nat} {x y : aS}
def cT0 (t t2 N : Nat) (B : Nat → Nat) (f7 f8 : Int32) (x : aS) : Prop := (aTdB t2 ∧ ¬ t = t2 ∧ (x.1 bRd 1).toNatClampNeg * 256 = t2) ∧ rTp N B x ∧ x.1 bRd 7 = f7 ∧ x.1 bRd 8 = f8
def cS0 (p : Nat × zG) (k : Int32) (x : aS) : Prop := rG p x ∧ x.1 bSn 1 = k
def cI0 (T : zT) (im : Bool) (Y : zS) (x : aS) : Prop := x.1 bLH 5 = bI im ∧ (im = true → rS T Y x bIm)
def gC (T : zT) (W : Nat → zL) (Z Y : zS) (p : Nat × zG) (k : Int32) (u : zU) (im : Bool) (f7 f8 : Int32) (t t2 N : Nat) (B : Nat → Nat) (x : aS) : Prop := cR T W Z x t ∧ cT0 t t2 N B f7 f8 x ∧ cS0 p k x ∧ rU u x ∧ cI0 T im Y x
def mT0 (N : Nat) (B : Nat → Nat) (f7 f8 : Int32) (x : aS) : Prop := rTm N B x ∧ (∀ j, j < 108 → x.1 (bM + 4) j = nI (wd j)) ∧ x.1 bM 4 = f7 ∧ x.1 bM 5 = f8
def mI0 (T : zT) (im : Bool) (Y : zS) (x : aS) : Prop := x.1 bM 85 = bI im ∧ (im = true → rIM T Y x)
def gM (T : zT) (W : Nat → zL) (Z Y : zS) (p : Nat × zG) (k : Int32) (u : zU) (im : Bool) (f7 f8 : Int32) (N : Nat) (B : Nat → Nat) (x : aS) : Prop := mQ T W Z x ∧ mT0 N B f7 f8 x ∧ mSe p k x ∧ rUM T u x ∧ mI0 T im Y x
def gPu (T : zT) (Z Y : zS) (p : Nat × zG) (k : Int32) (u : zU) (im : Bool) (N : Nat) (B : Nat → Nat) : Prop := zWb T Z ∧ zCo T Z ∧ tB T ∧ sgOk T p ∧ (k = -1 ∨ ∃ K, K ≤ p.1 ∧ k = nI K) ∧ uR T Z u ∧ (∀ j, j < u.1 → zBy T (u.2.1 j)) ∧ (im = true → zOk T Y ∧ zB T Y ∧ zWb T Y ∧ zCo T Y) ∧ N ≤ 700 ∧ ∀ i, i < N → B i < 256
def gJ (x : aS) : Prop := ∃ T W Z Y p k u im f7 f8 t t2 N B, gC T W Z Y p k u im f7 f8 t t2 N B x ∧ gM T W Z Y p k u im f7 f8 N B x ∧ gPu T Z Y p k u im N B
/-- only the model's cells change, only the class's -/
def loS (x y : aS) : Prop := ∀ m, m < 3072 → y.1 m = x.1 m
def hiS (x y : aS) : Prop := (∀ m, 3072 ≤ m → y.1 m = x.1 m) ∧ ∀ m, 3072 ≤ m → y.2 m = x.2 m
theorem cT0_f (h : cT0 t t2 N B f7 f8 x) (e : ∀ m, m = bRd ∨ m = bTp ∨ m = bTp + 2 → y.1 m = x.1 m) : cT0 t t2 N B f7 f8 y := by
  obtain ⟨⟨a1, a2, a3⟩, ⟨b1, b2⟩, c1, c2⟩ := h
  exact ⟨⟨a1, a2, by rw [e _ (Or.inl rfl)]; exact a3⟩, ⟨by rw [e _ (Or.inr (Or.inl rfl))]; exact b1, fun i hi => by rw [e _ (Or.inr (Or.inr rfl))]; exact b2 i hi⟩, by rw [e _ (Or.inl rfl)]; exact c1, by rw [e _ (Or.inl rfl)]; exact c2⟩
theorem cS0_f (h : cS0 p k x) (e : ∀ n, n / 256 = 9 → n ≠ bSn + 8 → y.1 n = x.1 n) : cS0 p k y := ⟨rG_o e h.1, by rw [e bSn (by decide) (by decide)]; exact h.2⟩
theorem cI0_f (h : cI0 T im Y x) (e0 : y.1 bLH 5 = x.1 bLH 5) (e : ∀ n, n / 256 = 6 → y.1 n = x.1 n) : cI0 T im Y y := ⟨by rw [e0]; exact h.1, fun g => rS_same (fun q hq => e _ (by rw [show bIm = 1536 from by decide]; omega)) (h.2 g)⟩
theorem gC_f (h : gC T W Z Y p k u im f7 f8 t t2 N B x) (e : ∀ n, n / 256 ≠ 7 → n / 256 ≠ 8 → n / 256 ≠ 11 → n < 3072 → n ≠ bSn + 8 → y.1 n = x.1 n) : gC T W Z Y p k u im f7 f8 t t2 N B y := by
  obtain ⟨h1, h2, h3, h4, h5⟩ := h
  exact ⟨cR_o (fun n g => e n (by omega) (by omega) (by omega) (by omega) (by rw [show bSn = 2304 from by decide]; omega)) h1, cT0_f h2 (fun m g => by
    have e1 : bRd = 256 := by decide
    have e2 : bTp = 512 := by decide
    have e3 : bSn = 2304 := by decide
    exact e m (by omega) (by omega) (by omega) (by omega) (by omega)), cS0_f h3 (fun n g g2 => e n (by omega) (by omega) (by omega) (by omega) g2), rU_o (fun n g => e n (by omega) (by omega) (by omega) (by omega) (by rw [show bSn = 2304 from by decide]; omega)) h4, cI0_f h5 (by rw [e bLH (by decide) (by decide) (by decide) (by decide) (by decide)]) (fun n g => e n (by omega) (by omega) (by omega) (by omega) (by rw [show bSn = 2304 from by decide]; omega))⟩
theorem gC_lo (h : gC T W Z Y p k u im f7 f8 t t2 N B x) (e : loS x y) : gC T W Z Y p k u im f7 f8 t t2 N B y := gC_f h (fun n _ _ _ g _ => e n g)
theorem gM_hi (h : gM T W Z Y p k u im f7 f8 N B x) (e : hiS x y) : gM T W Z Y p k u im f7 f8 N B y := by
  have e0 : y.1 bM = x.1 bM := e.1 _ (by decide)
  have e1 : ∀ c, y.1 (bM + c) = x.1 (bM + c) := fun c => e.1 _ (by rw [show bM = 3072 from by decide]; omega)
  have e2 : y.2 bM = x.2 bM := e.2 _ (by decide)
  simp only [gM, mQ, mR, rTM, rWM, rLM, mNok, mNd, rM, rNum, rFl, mT0, rTm, mSe, rGM, rUM, snap, mI0, rIM, e0, e1, e2] at h ⊢
  exact h
theorem gC_F (h : gC T W Z Y p k u im f7 f8 t t2 N B x) (e : cF x y) : gC T W Z Y p k u im f7 f8 t t2 N B y := gC_f h (fun n a b c _ _ => (e n a b c).1)
theorem gC_Fs (h : gC T W Z Y p k u im f7 f8 t t2 N B x) (e : cFs x y) : gC T W Z Y p k u im f7 f8 t t2 N B y := gC_f h (fun n a b c _ g => (e n a b c g).1)
theorem hi_F (e : cF x y) : hiS x y := ⟨fun m h => (e m (by omega) (by omega) (by omega)).1, fun m h => (e m (by omega) (by omega) (by omega)).2⟩
theorem hi_Fs (e : cFs x y) : hiS x y := ⟨fun m h => (e m (by omega) (by omega) (by omega) (by rw [show bSn = 2304 from by decide]; omega)).1, fun m h => (e m (by omega) (by omega) (by omega) (by rw [show bSn = 2304 from by decide]; omega)).2⟩
theorem lo_F (e : mF x y) : loS x y := fun m h => funext (fun j => e.1 m j (fun g => by
  have b : bM = 3072 := by decide
  unfold mScr mIn at g
  omega))
theorem mT0_f (h : mT0 N B f7 f8 x) (e : ∀ m j, (m = bM ∧ (j = 1 ∨ j = 4 ∨ j = 5)) ∨ m = bM + 1 ∨ m = bM + 4 → y.1 m j = x.1 m j) : mT0 N B f7 f8 y := by
  obtain ⟨⟨a1, a2⟩, b, c, d⟩ := h
  exact ⟨⟨by rw [e _ _ (by omega)]; exact a1, fun i hi => by rw [e _ _ (by omega)]; exact a2 i hi⟩, fun j hj => by rw [e _ _ (by omega)]; exact b j hj, by rw [e _ _ (by omega)]; exact c, by rw [e _ _ (by omega)]; exact d⟩
theorem mSe_f (h : mSe p k x) (e : ∀ m j, (m = bM ∧ (j = 78 ∨ j = 79)) ∨ m = bM + 81 → y.1 m j = x.1 m j) : mSe p k y := by
  obtain ⟨⟨a, b⟩, c⟩ := h
  have e81 : y.1 (bM + 81) = x.1 (bM + 81) := funext (fun j => e _ _ (by omega))
  exact ⟨⟨by rw [e _ _ (by omega)]; exact a, by rw [e81]; exact b⟩, by rw [e _ _ (by omega)]; exact c⟩
theorem rUM_f (h : rUM T u x) (e : ∀ m j, (m = bM ∧ j = 83) ∨ m = bM + 85 → y.1 m j = x.1 m j) : rUM T u y := rUM_o (funext (fun j => e _ _ (by omega))) (e _ _ (by omega)) h
theorem rIM_f (h : rIM T Y x) (e : ∀ m j, m = bM + 87 ∨ m = bM + 88 ∨ m = bM + 89 → y.1 m j = x.1 m j) (e2 : y.2 bM 89 = x.2 bM 89) : rIM T Y y := by
  have e7 : y.1 (bM + 87) = x.1 (bM + 87) := funext (fun j => e _ _ (by omega))
  have e8 : y.1 (bM + 88) = x.1 (bM + 88) := funext (fun j => e _ _ (by omega))
  have e9 : y.1 (bM + 89) = x.1 (bM + 89) := funext (fun j => e _ _ (by omega))
  unfold rIM snap at h ⊢
  rw [e7, e8, e9, e2]
  exact h
theorem mI0_f (h : mI0 T im Y x) (e0 : y.1 bM 85 = x.1 bM 85) (e : ∀ m j, m = bM + 87 ∨ m = bM + 88 ∨ m = bM + 89 → y.1 m j = x.1 m j) (e2 : y.2 bM 89 = x.2 bM 89) : mI0 T im Y y := ⟨by rw [e0]; exact h.1, fun g => rIM_f (h.2 g) e e2⟩
theorem nScr {m j : Nat} (h : (m = bM ∧ ¬ j = 2 ∧ ¬ j = 58) ∨ m = bM + 1 ∨ m = bM + 4 ∨ m = bM + 81 ∨ m = bM + 85 ∨ m = bM + 87 ∨ m = bM + 88 ∨ m = bM + 89) : ¬ mScr m j := fun g => by unfold mScr mIn at g; omega
theorem gM_F (h : gM T W Z Y p k u im f7 f8 N B x) (e : mF x y) : gM T W Z Y p k u im f7 f8 N B y := by
  obtain ⟨h1, h2, h3, h4, h5⟩ := h
  have e2 : y.2 bM = x.2 bM := e.2 _ (by decide) (by decide)
  exact ⟨mQ_F e h1, mT0_f h2 (fun m j g => e.1 _ _ (nScr (by omega))), mSe_f h3 (fun m j g => e.1 _ _ (nScr (by omega))), rUM_f h4 (fun m j g => e.1 _ _ (nScr (by omega))), mI0_f h5 (e.1 _ _ (nScr (by omega))) (fun m j g => e.1 _ _ (nScr (by omega))) (by rw [e2])⟩
theorem kn_K (h : k = -1 ∨ ∃ K, K ≤ p.1 ∧ k = nI K) (h24 : p.1 ≤ 24) : ∃ K, (if k = -1 then nI p.1 else k) = nI K ∧ K ≤ p.1 ∧ -1 ≤ k := by
  rcases h with h | ⟨K, h1, h2⟩
  · exact ⟨p.1, by rw [if_pos h], Nat.le_refl _, by rw [h]; decide⟩
  · refine ⟨K, by rw [if_neg (by rw [h2]; exact nI_m1 (by omega)), h2], h1, ?_⟩
    rw [h2]
    exact Int32.le_trans (by decide) (nI_pos' (by omega))
/-- lay, peel, move: what can be undone -/
theorem uR_lay {a z : Nat} {v : Int32} (hR : uR T Z u) (hZ : zOk T Z) (ha : a < T.1 0) (hz : z < 8) (hc : Z.2 1 a < 12) : uR T (zPut Z a z v) (uPush u Z (0, a, z, v)) := by
  refine uR_push hR hZ ⟨Nat.zero_le 2, fun _ => ⟨ha, ?_⟩, fun e => absurd (show (0 : Nat) = 1 from e) (by decide), fun e => absurd (show (0 : Nat) = 2 from e) (by decide)⟩ ⟨fun h hh => ?_, fun m hm => ?_⟩
  · show 0 < (if (1 : Nat) = 1 ∧ a = a then Z.2 1 a + 1 else _)
    rw [if_pos ⟨rfl, rfl⟩]; omega
  · have hb := (hZ.2.1 h hh).1
    simp only [uInv, zPop, zPut, zuk, zui]
    by_cases e : h = a
    · subst e
      refine ⟨by simp, fun j hj => ?_⟩
      have : ¬ j = Z.2 1 h := by omega
      simp [this]
    · refine ⟨by simp [e], fun j hj => ?_⟩
      have : ¬ (h * 12 + j = a * 12 + Z.2 1 a) := by omega
      simp [this]
  · simp [uInv, zPop, zPut, zuk, zui]
theorem uR_peel {a : Nat} (hR : uR T Z u) (hZ : zOk T Z) (ha : a < T.1 0) (hc : 0 < Z.2 1 a) : uR T (zPop Z a) (uPush u Z (uPl Z a)) := by
  obtain ⟨hb, hz⟩ := hZ.2.1 a ha
  refine uR_push hR hZ ⟨show (1 : Nat) ≤ 2 by decide, fun e => absurd (show (1 : Nat) = 0 from e) (by decide), fun _ => ⟨ha, hz _ (by omega), ?_⟩, fun e => absurd (show (1 : Nat) = 2 from e) (by decide)⟩ ⟨fun h hh => ?_, fun m hm => ?_⟩
  · show (if (1 : Nat) = 1 ∧ a = a then Z.2 1 a - 1 else _) < 12
    rw [if_pos ⟨rfl, rfl⟩]; omega
  · have hb2 := (hZ.2.1 h hh).1
    simp only [uInv, uPl, zPop, zPut, zuk, zui]
    by_cases e : h = a
    · subst e
      refine ⟨by simp; omega, fun j hj => ?_⟩
      by_cases ej : j = Z.2 1 h - 1
      · subst ej; simp
      · have : ¬ j = Z.2 1 h - 1 := by omega
        simp [this]
    · refine ⟨by simp [e], fun j hj => ?_⟩
      have : ¬ (h * 12 + j = a * 12 + (Z.2 1 a - 1)) := by omega
      simp [this]
  · simp [uInv, uPl, zPop, zPut, zuk, zui]
theorem uR_move {a c : Nat} (hR : uR T Z u) (hZ : zOk T Z) (ha : a < T.1 1) : uR T (zHome Z a c) (uPush u Z (2, a, Z.2 3 a, 0)) := by
  refine uR_push hR hZ ⟨Nat.le_refl 2, fun e => absurd (show (2 : Nat) = 0 from e) (by decide), fun e => absurd (show (2 : Nat) = 1 from e) (by decide), fun _ => ⟨ha, hZ.2.2 a ha⟩⟩ ⟨fun h hh => ?_, fun m hm => ?_⟩
  · simp [uInv, zHome, zuk]
  · simp only [uInv, zHome, zuk]
    by_cases e : m = a
    · subst e; simp
    · simp [e]
theorem by_push {o : zO} (h : ∀ j, j < u.1 → zBy T (u.2.1 j)) (hz : zBy T Z) (h20 : u.1 ≤ 20) : ∀ j, j < (uPush u Z o).1 → zBy T ((uPush u Z o).2.1 j) := by
  intro j hj
  unfold uPush at hj ⊢
  by_cases e : u.1 < 20
  · rw [if_pos e] at hj ⊢
    have hj : j < u.1 + 1 := hj
    show zBy T (if j = u.1 then Z else u.2.1 j)
    split
    · exact hz
    · exact h j (by omega)
  · rw [if_neg e] at hj ⊢
    have hj : j < 20 := hj
    show zBy T (if j = 19 then Z else u.2.1 (j + 1))
    split
    · exact hz
    · exact h _ (by omega)
end qBM
