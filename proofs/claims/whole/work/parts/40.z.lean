/-! THE ABSTRACT STATE Z: Z.1 f i ints: 0 (0 year, 1 refused, 2 number), 1 wood h*8+z, 2 layers' by h*12+k, 3 bump, 4 corns; Z.2 f i numbers: 0 wed bits, 1 how many layers, 2 layers' zones h*12+k, 3 home.
   THE TEXT T: T.1 numbers: 0 houses 1 folk 2 deeds 3 weddings 4 strips 5 damp 6 seed 7 knots 8 lines; T.2.1 f i ints: 0 house names 1 woods 2 folk names 3 wide 4 bump 5 deeds' by 6 deeds' year 7 weddings' year 8 strips' year; T.2.2 f i numbers: 0 folk's house 1 folk's zone 2 deeds' house 3 deeds' zone 4 slice 5 wed one 6 wed other -/
abbrev zS : Type := (Nat → Nat → Int32) × (Nat → Nat → Nat)
abbrev zT : Type := (Nat → Nat) × (Nat → Nat → Int32) × (Nat → Nat → Nat)
def zui (Z : zS) (f i : Nat) (v : Int32) : zS := (fun g j => if g = f ∧ j = i then v else Z.1 g j, Z.2)
def zuk (Z : zS) (f i k : Nat) : zS := (Z.1, fun g j => if g = f ∧ j = i then k else Z.2 g j)
/-- all layers of a house in a zone, in sum -/
def zLsum (Z : zS) (h z : Nat) : Int32 := lp (fun k a => if Z.2 2 (h * 12 + k) = z then a + Z.1 2 (h * 12 + k) else a) 0 (Z.2 1 h) 0
def zLast (Z : zS) (h z : Nat) : Int32 := Z.1 1 (h * 8 + z) + zLsum Z h z
def zFoot (T : zT) (m z : Nat) (u : Int32) : Int32 := if z = T.2.2 1 m then T.2.1 3 m + u else T.2.1 3 m
def zFar (T : zT) (Z : zS) (m h : Nat) : Int32 := lp (fun z a => a + jabs (zFoot T m z (Z.1 3 m) - zLast Z h z)) 0 8 0
def zPinch (T : zT) (Z : zS) (m : Nat) : Int32 := lp (fun z a => a + jmax 0 (zFoot T m z (Z.1 3 m) - zLast Z (Z.2 3 m) z)) 0 8 0
def zDiffer (Z : zS) (h g : Nat) : Int32 := lp (fun z a => a + jabs (zLast Z h z - zLast Z g z)) 0 8 0
def zSum (Z : zS) (h : Nat) : Int32 := lp (fun z a => a + zLast Z h z) 0 8 0
/-- the text is well made -/
def zTok (T : zT) : Prop := T.1 0 ≤ 6 ∧ T.1 1 ≤ 8 ∧ T.1 2 ≤ 14 ∧ T.1 3 ≤ 6 ∧ T.1 4 ≤ 4 ∧ T.1 5 ≤ 100 ∧ T.1 6 ≤ 99999 ∧
  (∀ m, m < T.1 1 → T.2.2 0 m < T.1 0 ∧ T.2.2 1 m < 8) ∧ (∀ i, i < T.1 2 → T.2.2 2 i < T.1 0 ∧ T.2.2 3 i < 8 ∧ T.2.2 4 i ≤ 1) ∧ (∀ i, i < T.1 3 → T.2.2 5 i < T.1 1 ∧ T.2.2 6 i < T.1 1)
/-- the state is well made -/
def zOk (T : zT) (Z : zS) : Prop := Z.2 0 0 < 256 ∧ (∀ h, h < T.1 0 → Z.2 1 h ≤ 12 ∧ ∀ k, k < Z.2 1 h → Z.2 2 (h * 12 + k) < 8) ∧ (∀ m, m < T.1 1 → Z.2 3 m < T.1 0)
/-- the class's Told at t holds T (laws apart) -/
def rT (T : zT) (x : aS) (t : Nat) : Prop := x.1 t 1 = nI (T.1 0) ∧ x.1 t 4 = nI (T.1 1) ∧ x.1 t 10 = nI (T.1 2) ∧ x.1 t 12 = nI (T.1 3) ∧ x.1 t 14 = nI (T.1 4) ∧ x.1 t 16 = nI (T.1 5) ∧ x.1 t 17 = nI (T.1 6) ∧ x.1 t 18 = nI (T.1 7) ∧ x.1 t 0 = nI (T.1 8) ∧
  (∀ h, h < T.1 0 → x.1 (t + 3) h = T.2.1 0 h ∧ x.1 (t + 4) h = T.2.1 1 h) ∧
  (∀ m, m < T.1 1 → x.1 (t + 6) m = T.2.1 2 m ∧ x.1 (t + 7) m = nI (T.2.2 0 m) ∧ x.1 (t + 8) m = T.2.1 3 m ∧ x.1 (t + 9) m = nI (T.2.2 1 m) ∧ x.1 (t + 10) m = T.2.1 4 m) ∧
  (∀ i, i < T.1 2 → x.1 (t + 12 + 88 + i) 0 = nI (T.2.2 2 i) ∧ x.1 (t + 12 + 88 + i) 1 = nI (T.2.2 3 i) ∧ x.1 (t + 12 + 88 + i) 2 = T.2.1 5 i ∧ x.1 (t + 12 + 88 + i) 3 = T.2.1 6 i ∧ x.1 (t + 12 + 88 + i) 4 = nI (T.2.2 4 i)) ∧
  (∀ i, i < T.1 3 → x.1 (t + 14 + 106 + i) 0 = nI (T.2.2 5 i) ∧ x.1 (t + 14 + 106 + i) 1 = nI (T.2.2 6 i) ∧ x.1 (t + 14 + 106 + i) 2 = T.2.1 7 i) ∧
  (∀ i, i < T.1 4 → x.1 (t + 16) i = T.2.1 8 i)
/-- the class's State at b holds Z -/
def rS (T : zT) (Z : zS) (x : aS) (b : Nat) : Prop := (∀ i, i < 3 → x.1 b i = Z.1 0 i) ∧ x.1 b 3 = nI (Z.2 0 0) ∧
  (∀ h, h < T.1 0 → (∀ z, z < 8 → x.1 (b + 5) (h * 8 + z) = Z.1 1 (h * 8 + z) ∧ x.1 (b + 6) (h * 8 + z) = zLsum Z h z) ∧ x.1 (b + 7) h = nI (Z.2 1 h) ∧
    ∀ k, k < Z.2 1 h → x.1 (b + 8) (h * 12 + k) = nI (Z.2 2 (h * 12 + k)) ∧ x.1 (b + 9) (h * 12 + k) = Z.1 2 (h * 12 + k)) ∧
  (∀ m, m < T.1 1 → x.1 (b + 10) m = nI (Z.2 3 m) ∧ x.1 (b + 11) m = Z.1 3 m ∧ x.1 (b + 12) m = Z.1 4 m)
theorem sLast_z {T : zT} {Z : zS} {x : aS} {b h z : Nat} (hS : rS T Z x b) (hh : h < T.1 0) (hz : z < 8) : sLast x b h z = zLast Z h z := by
  obtain ⟨h1, h2⟩ := (hS.2.2.1 h hh).1 z hz
  unfold sLast zLast
  rw [h1, h2]
theorem tFoot_z {T : zT} {x : aS} {t m z : Nat} {u : Int32} (hT : rT T x t) (ok : zTok T) (hm : m < T.1 1) (hz : z < 8) : tFoot x t m z u = zFoot T m z u := by
  obtain ⟨h1, h2, h3, h4, h5⟩ := hT.2.2.2.2.2.2.2.2.2.2.1 m hm
  have h8 := (ok.2.2.2.2.2.2.2.1 m hm).2
  unfold tFoot zFoot
  rw [h3, h4]
  by_cases e : z = T.2.2 1 m
  · rw [if_pos (by rw [e]), if_pos e]
  · rw [if_neg (fun g => e ((nI_eq (by omega) (by omega)).mp g)), if_neg e]
theorem sFar_z {T : zT} {Z : zS} {x : aS} {t b m h : Nat} (hT : rT T x t) (ok : zTok T) (hS : rS T Z x b) (hm : m < T.1 1) (hh : h < T.1 0) : sFar x t b m h = zFar T Z m h := by
  refine lp_congr 8 0 0 (fun z a _ hz => ?_)
  rw [tFoot_z hT ok hm (by omega), sLast_z hS hh (by omega), (hS.2.2.2 m hm).2.1]
theorem sPinch_z {T : zT} {Z : zS} {x : aS} {t b m : Nat} (hT : rT T x t) (ok : zTok T) (hZ : zOk T Z) (hS : rS T Z x b) (hm : m < T.1 1) : sPinch x t b m (Z.2 3 m) = zPinch T Z m := by
  refine lp_congr 8 0 0 (fun z a _ hz => ?_)
  rw [tFoot_z hT ok hm (by omega), sLast_z hS (hZ.2.2 m hm) (by omega), (hS.2.2.2 m hm).2.1]
theorem sDiffer_z {T : zT} {Z : zS} {x : aS} {b h g : Nat} (hS : rS T Z x b) (hh : h < T.1 0) (hg : g < T.1 0) : sDiffer x b h g = zDiffer Z h g := by
  refine lp_congr 8 0 0 (fun z a _ hz => ?_)
  rw [sLast_z hS hh (by omega), sLast_z hS hg (by omega)]
theorem sSum_z {T : zT} {Z : zS} {x : aS} {b h : Nat} (hS : rS T Z x b) (hh : h < T.1 0) : sSum x b h = zSum Z h := by
  refine lp_congr 8 0 0 (fun z a _ hz => ?_)
  rw [sLast_z hS hh (by omega)]
/-- a layer is put on -/
def zPut (Z : zS) (h z : Nat) (u : Int32) : zS := zuk (zuk (zui Z 2 (h * 12 + Z.2 1 h) u) 2 (h * 12 + Z.2 1 h) z) 1 h (Z.2 1 h + 1)
theorem lp_snoc {α : Type} (g : Nat → α → α) : ∀ (n i : Nat) (a : α), lp g i (n + 1) a = g (i + n) (lp g i n a) := by
  intro n
  induction n with
  | zero => intro i a; rfl
  | succ n ih => intro i a; show lp g (i + 1) (n + 1) (g i a) = _; rw [ih, show i + 1 + n = i + (n + 1) by omega]; rfl
theorem zLsum_put {Z : zS} {h g z w : Nat} {u : Int32} (hc0 : Z.2 1 h < 12) (hc : Z.2 1 g ≤ 12) : zLsum (zPut Z h z u) g w = if g = h ∧ w = z then zLsum Z h w + u else zLsum Z g w := by
  by_cases e : g = h
  · subst e
    have hcnt : (zPut Z g z u).2 1 g = Z.2 1 g + 1 := by simp [zPut, zuk]
    unfold zLsum
    rw [hcnt, lp_snoc]
    have hcong : lp (fun k a => if (zPut Z g z u).2 2 (g * 12 + k) = w then a + (zPut Z g z u).1 2 (g * 12 + k) else a) 0 (Z.2 1 g) 0 = lp (fun k a => if Z.2 2 (g * 12 + k) = w then a + Z.1 2 (g * 12 + k) else a) 0 (Z.2 1 g) 0 := by
      refine lp_congr _ _ _ (fun k a _ hk => ?_)
      have h1 : (zPut Z g z u).2 2 (g * 12 + k) = Z.2 2 (g * 12 + k) := by
        simp only [zPut, zuk, zui]
        rw [if_neg (by omega), if_neg (by omega)]
      have h2 : (zPut Z g z u).1 2 (g * 12 + k) = Z.1 2 (g * 12 + k) := by
        simp only [zPut, zuk, zui]
        rw [if_neg (by omega)]
      rw [h1, h2]
    rw [hcong]
    have h3 : (zPut Z g z u).2 2 (g * 12 + (0 + Z.2 1 g)) = z := by simp [zPut, zuk]
    have h4 : (zPut Z g z u).1 2 (g * 12 + (0 + Z.2 1 g)) = u := by simp [zPut, zuk, zui]
    show (if (zPut Z g z u).2 2 (g * 12 + (0 + Z.2 1 g)) = w then _ + (zPut Z g z u).1 2 (g * 12 + (0 + Z.2 1 g)) else _) = _
    rw [h3, h4]
    by_cases ew : w = z
    · rw [if_pos ew.symm, if_pos ⟨rfl, ew⟩]
    · rw [if_neg (fun q => ew q.symm), if_neg (fun q => ew q.2)]
  · rw [if_neg (fun q => e q.1)]
    have hcnt : (zPut Z h z u).2 1 g = Z.2 1 g := by simp [zPut, zuk, zui, e]
    unfold zLsum
    rw [hcnt]
    refine lp_congr _ _ _ (fun k a _ hk => ?_)
    have h1 : (zPut Z h z u).2 2 (g * 12 + k) = Z.2 2 (g * 12 + k) := by
      simp only [zPut, zuk, zui]
      rw [if_neg (by omega), if_neg (by omega)]
    have h2 : (zPut Z h z u).1 2 (g * 12 + k) = Z.1 2 (g * 12 + k) := by
      simp only [zPut, zuk, zui]
      rw [if_neg (by omega)]
    rw [h1, h2]
theorem zOk_put {T : zT} {Z : zS} {h z : Nat} {u : Int32} (hZ : zOk T Z) (hz : z < 8) (hc : Z.2 1 h < 12) : zOk T (zPut Z h z u) := by
  obtain ⟨h1, h2, h3⟩ := hZ
  refine ⟨by simpa [zPut, zuk, zui] using h1, fun g hg => ?_, fun m hm => by simpa [zPut, zuk, zui] using h3 m hm⟩
  obtain ⟨g1, g2⟩ := h2 g hg
  by_cases e : g = h
  · subst e
    refine ⟨by simp [zPut, zuk]; omega, fun k hk => ?_⟩
    simp only [zPut, zuk, zui] at hk ⊢
    simp only [and_self, if_true] at hk
    by_cases ek : k = Z.2 1 g
    · subst ek; simpa using hz
    · rw [if_neg (by omega), if_neg (by omega)]
      first | exact g2 k (by omega) | (rw [if_neg (by omega)]; exact g2 k (by omega))
  · have hcnt : (zPut Z h z u).2 1 g = Z.2 1 g := by simp [zPut, zuk, zui, e]
    rw [hcnt]
    refine ⟨g1, fun k hk => ?_⟩
    have h5 : (zPut Z h z u).2 2 (g * 12 + k) = Z.2 2 (g * 12 + k) := by
      simp only [zPut, zuk, zui]
      rw [if_neg (by omega), if_neg (by omega)]
    rw [h5]
    exact g2 k hk
theorem rS_put {T : zT} {Z : zS} {x : aS} {b h z : Nat} {u : Int32} (hS : rS T Z x b) (hZ : zOk T Z) (hh : h < T.1 0) (hz : z < 8) (hc : Z.2 1 h < 12) : rS T (zPut Z h z u) (sPut x b h (Z.2 1 h) z u) b := by
  obtain ⟨h1, h2, h3, h4⟩ := hS
  refine ⟨fun i hi => ?_, ?_, fun g hg => ⟨fun w hw => ⟨?_, ?_⟩, ?_, fun k hk => ⟨?_, ?_⟩⟩, fun m hm => ⟨?_, ?_, ?_⟩⟩
  · unfold sPut
    rw [aWr_n _ _ _ (by omega), aWr_n _ _ _ (by omega), aWr_n _ _ _ (by omega), aWr_n _ _ _ (by omega), h1 i hi]
    simp [zPut, zuk, zui]
  · unfold sPut
    rw [aWr_n _ _ _ (by omega), aWr_n _ _ _ (by omega), aWr_n _ _ _ (by omega), aWr_n _ _ _ (by omega), h2]
    simp [zPut, zuk, zui]
  · unfold sPut
    rw [aWr_n _ _ _ (by omega), aWr_n _ _ _ (by omega), aWr_n _ _ _ (by omega), aWr_n _ _ _ (by omega), ((h3 g hg).1 w hw).1]
    simp [zPut, zuk, zui]
  · rw [zLsum_put hc (hZ.2.1 g hg).1]
    unfold sPut
    rw [aWr_n _ _ _ (by omega)]
    by_cases e : g = h ∧ w = z
    · obtain ⟨rfl, rfl⟩ := e
      rw [aWr_s, if_pos ⟨rfl, rfl⟩, ((h3 g hg).1 w hw).2]
    · rw [if_neg e, aWr_j _ _ _ (by omega), aWr_n _ _ _ (by omega), aWr_n _ _ _ (by omega), ((h3 g hg).1 w hw).2]
  · unfold sPut
    by_cases e : g = h
    · subst e
      rw [aWr_s]
      simp [zPut, zuk]
    · rw [aWr_j _ _ _ e, aWr_n _ _ _ (by omega), aWr_n _ _ _ (by omega), aWr_n _ _ _ (by omega), (h3 g hg).2.1]
      simp [zPut, zuk, zui, e]
  · unfold sPut
    rw [aWr_n _ _ _ (by omega), aWr_n _ _ _ (by omega), aWr_n _ _ _ (by omega)]
    have g12 := (hZ.2.1 g hg).1
    by_cases e : g = h ∧ k = Z.2 1 h
    · obtain ⟨rfl, rfl⟩ := e
      rw [aWr_s]
      simp [zPut, zuk]
    · have hk2 : k < Z.2 1 g := by
        simp only [zPut, zuk, zui] at hk
        by_cases e2 : g = h
        · subst e2
          simp only [and_self, if_true] at hk
          omega
        · rw [if_neg (by omega), if_neg (by omega)] at hk
          exact hk
      rw [aWr_j _ _ _ (by omega), ((h3 g hg).2.2 k hk2).1]
      simp only [zPut, zuk, zui]
      rw [if_neg (by omega), if_neg (by omega)]
  · unfold sPut
    rw [aWr_n _ _ _ (by omega), aWr_n _ _ _ (by omega)]
    have g12 := (hZ.2.1 g hg).1
    by_cases e : g = h ∧ k = Z.2 1 h
    · obtain ⟨rfl, rfl⟩ := e
      rw [aWr_s]
      simp [zPut, zuk, zui]
    · have hk2 : k < Z.2 1 g := by
        simp only [zPut, zuk, zui] at hk
        by_cases e2 : g = h
        · subst e2
          simp only [and_self, if_true] at hk
          omega
        · rw [if_neg (by omega), if_neg (by omega)] at hk
          exact hk
      rw [aWr_j _ _ _ (by omega), aWr_n _ _ _ (by omega), ((h3 g hg).2.2 k hk2).2]
      simp only [zPut, zuk, zui]
      rw [if_neg (by omega)]
  · unfold sPut
    rw [aWr_n _ _ _ (by omega), aWr_n _ _ _ (by omega), aWr_n _ _ _ (by omega), aWr_n _ _ _ (by omega), (h4 m hm).1]
    simp [zPut, zuk, zui]
  · unfold sPut
    rw [aWr_n _ _ _ (by omega), aWr_n _ _ _ (by omega), aWr_n _ _ _ (by omega), aWr_n _ _ _ (by omega), (h4 m hm).2.1]
    simp [zPut, zuk, zui]
  · unfold sPut
    rw [aWr_n _ _ _ (by omega), aWr_n _ _ _ (by omega), aWr_n _ _ _ (by omega), aWr_n _ _ _ (by omega), (h4 m hm).2.2]
    simp [zPut, zuk, zui]
