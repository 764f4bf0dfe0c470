/-! how large all can be -/
def ab (a : Int32) (w : Int) : Prop := -w ≤ a.toInt ∧ a.toInt ≤ w
theorem ab_add {a b : Int32} {u v : Int} (ha : ab a u) (hb : ab b v) (h : u + v < 2147483648) : (a + b).toInt = a.toInt + b.toInt := by
  rw [Int32.toInt_add]
  unfold ab at ha hb
  exact Int.bmod_eq_of_le (by omega) (by omega)
theorem ab_sub {a b : Int32} {u v : Int} (ha : ab a u) (hb : ab b v) (h : u + v < 2147483648) : (a - b).toInt = a.toInt - b.toInt := by
  rw [Int32.toInt_sub]
  unfold ab at ha hb
  exact Int.bmod_eq_of_le (by omega) (by omega)
theorem ab_half {a : Int32} {w : Int} (ha : ab a (2 * w)) (h : 2 * w < 2147483648) (h0 : 0 ≤ w) : ab (a / 2) w := by
  unfold ab at ha ⊢
  have e : (a / 2).toInt = a.toInt.tdiv 2 := by
    rw [Int32.toInt_div, show (2 : Int32).toInt = 2 from by decide]
    by_cases p : 0 ≤ a.toInt
    · rw [Int.tdiv_eq_ediv_of_nonneg p]; exact Int.bmod_eq_of_le (by omega) (by omega)
    · have : a.toInt.tdiv 2 = -((-a.toInt) / 2) := by rw [← Int.tdiv_eq_ediv_of_nonneg (show 0 ≤ -a.toInt by omega), Int.neg_tdiv, Int.neg_neg]
      rw [this]; exact Int.bmod_eq_of_le (by omega) (by omega)
  rw [e]
  by_cases p : 0 ≤ a.toInt
  · rw [Int.tdiv_eq_ediv_of_nonneg p]; omega
  · have : a.toInt.tdiv 2 = -((-a.toInt) / 2) := by rw [← Int.tdiv_eq_ediv_of_nonneg (show 0 ≤ -a.toInt by omega), Int.neg_tdiv, Int.neg_neg]
    rw [this]; omega
theorem nn_nI {a : Int32} (h : 0 ≤ a.toInt) : ∃ n : Nat, a = nI n ∧ (n : Int) = a.toInt := by
  obtain ⟨j, hj, rfl⟩ := nI_of (x := a) (fun g => by have := Int32.lt_iff_toInt_lt.mp g; rw [Int32.toInt_zero] at this; omega)
  exact ⟨j, rfl, (nI_toInt hj).symm⟩
theorem jabs_n {a : Int32} {w : Int} (ha : ab a w) (h : w < 2147483648) : ∃ n : Nat, jabs a = nI n ∧ (n : Int) ≤ w := by
  unfold ab at ha
  unfold jabs
  by_cases p : 0 ≤ a
  · rw [if_pos p]
    have p2 := Int32.le_iff_toInt_le.mp p
    rw [Int32.toInt_zero] at p2
    obtain ⟨n, e, q⟩ := nn_nI p2
    exact ⟨n, e, by omega⟩
  · rw [if_neg p]
    have p2 : ¬ (0 : Int) ≤ a.toInt := fun g => p (Int32.le_iff_toInt_le.mpr (by rw [Int32.toInt_zero]; exact g))
    have e : (0 - a).toInt = -a.toInt := by
      rw [Int32.toInt_sub, Int32.toInt_zero]
      exact (Int.bmod_eq_of_le (by omega) (by omega)).trans (by omega)
    obtain ⟨n, e1, q⟩ := nn_nI (a := 0 - a) (by omega)
    exact ⟨n, e1, by omega⟩
/-- what a text tells is as small as it must be -/
def tB (T : zT) : Prop := (∀ h, h < T.1 0 → 0 ≤ (T.2.1 1 h).toInt ∧ (T.2.1 1 h).toInt ≤ 99) ∧ (∀ m, m < T.1 1 → (0 ≤ (T.2.1 3 m).toInt ∧ (T.2.1 3 m).toInt ≤ 99) ∧ 0 ≤ (T.2.1 4 m).toInt ∧ (T.2.1 4 m).toInt ≤ 20) ∧ ∀ i, i < T.1 2 → 1 ≤ (T.2.1 5 i).toInt ∧ (T.2.1 5 i).toInt ≤ 20
def zBy (T : zT) (Z : zS) : Prop := ∀ h, h < T.1 0 → ∀ k, k < Z.2 1 h → ab (Z.1 2 (h * 12 + k)) 20
def zWb (T : zT) (Z : zS) : Prop := (∀ h, h < T.1 0 → ∀ z, z < 8 → ab (Z.1 1 (h * 8 + z)) (1000 + 120 * (pc (Z.2 0 0) : Int))) ∧ zBy T Z ∧ ∀ m, m < T.1 1 → 0 ≤ (Z.1 3 m).toInt ∧ (Z.1 3 m).toInt ≤ 60
theorem pc8 {g : Nat} (h : g < 256) : pc g ≤ 8 := (pc_le 8 (by decide) g h).1
theorem zLsum_ab {T : zT} {Z : zS} {h z : Nat} (hZ : zOk T Z) (hW : zBy T Z) (hh : h < T.1 0) : ab (zLsum Z h z) 240 := by
  have c12 := (hZ.2.1 h hh).1
  have key := lp_I (N := Z.2 1 h) (g := fun k a => if Z.2 2 (h * 12 + k) = z then a + Z.1 2 (h * 12 + k) else a) (fun k a => ab a (20 * (k : Int))) (fun k a hk ha => ?_) (Z.2 1 h) 0 0 (Nat.zero_add _) (by unfold ab; rw [Int32.toInt_zero]; omega)
  · unfold zLsum
    unfold ab at key ⊢
    omega
  · have b := hW h hh k hk
    split
    · have e := ab_add ha b (by omega)
      unfold ab at ha b ⊢
      rw [e]
      omega
    · unfold ab at ha ⊢
      omega
theorem zLast_ab {T : zT} {Z : zS} {h z : Nat} (hZ : zOk T Z) (hW : zWb T Z) (hh : h < T.1 0) (hz : z < 8) : ab (zLast Z h z) (1240 + 120 * (pc (Z.2 0 0) : Int)) := by
  have a := hW.1 h hh z hz
  have b := zLsum_ab (z := z) hZ hW.2.1 hh
  have p := pc8 hZ.1
  have e := ab_add a b (by omega)
  unfold zLast ab at *
  rw [e]
  omega
theorem sum8 {f : Nat → Int32} {B : Int} (hB : 8 * B < 2147483648) (h : ∀ z, z < 8 → ∃ n : Nat, f z = nI n ∧ (n : Int) ≤ B) : ∃ n : Nat, lp (fun z a => a + f z) 0 8 0 = nI n ∧ (n : Int) ≤ 8 * B := by
  have key := lp_I (N := 8) (g := fun z a => a + f z) (fun k a => ∃ n : Nat, a = nI n ∧ (n : Int) ≤ (k : Int) * B) (fun k a hk ha => ?_) 8 0 0 rfl ⟨0, rfl, by simp⟩
  · exact key
  · obtain ⟨n, rfl, hn⟩ := ha
    obtain ⟨m, e, hm⟩ := h k hk
    refine ⟨n + m, by show nI n + f k = _; rw [e, nI_add], ?_⟩
    have : ((k + 1 : Nat) : Int) * B = (k : Int) * B + B := by
      rw [Int.natCast_add, Int.add_mul]; simp
    omega
theorem zDiffer_n {T : zT} {Z : zS} {h g : Nat} (hZ : zOk T Z) (hW : zWb T Z) (hh : h < T.1 0) (hg : g < T.1 0) : ∃ n : Nat, zDiffer Z h g = nI n ∧ n ≤ 100000 := by
  have p := pc8 hZ.1
  obtain ⟨n, e, hn⟩ := sum8 (f := fun z => jabs (zLast Z h z - zLast Z g z)) (B := 10000) (by decide) (fun z hz => by
    have a := zLast_ab hZ hW hh hz
    have b := zLast_ab hZ hW hg hz
    have e := ab_sub a b (by omega)
    obtain ⟨n, e2, hn⟩ := jabs_n (a := zLast Z h z - zLast Z g z) (w := 10000) (by unfold ab at *; rw [e]; omega) (by decide)
    exact ⟨n, e2, hn⟩)
  exact ⟨n, e, by omega⟩
theorem zFoot_ab {T : zT} {m z : Nat} {v : Int32} (hB : tB T) (hm : m < T.1 1) (hv : 0 ≤ v.toInt ∧ v.toInt ≤ 60) : ab (zFoot T m z v) 159 := by
  obtain ⟨a, b⟩ := (hB.2.1 m hm).1
  unfold zFoot
  split
  · have e := ab_add (a := T.2.1 3 m) (b := v) (u := 99) (v := 60) ⟨by omega, by omega⟩ ⟨by omega, by omega⟩ (by decide)
    unfold ab
    rw [e]
    omega
  · unfold ab
    omega
theorem zFar_n {T : zT} {Z : zS} {m h : Nat} (hB : tB T) (hZ : zOk T Z) (hW : zWb T Z) (hm : m < T.1 1) (hh : h < T.1 0) : ∃ n : Nat, zFar T Z m h = nI n ∧ n ≤ 100000 := by
  have p := pc8 hZ.1
  obtain ⟨n, e, hn⟩ := sum8 (f := fun z => jabs (zFoot T m z (Z.1 3 m) - zLast Z h z)) (B := 10000) (by decide) (fun z hz => by
    have a := zFoot_ab (z := z) hB hm (hW.2.2 m hm)
    have b := zLast_ab hZ hW hh hz
    have e := ab_sub a b (by omega)
    obtain ⟨n, e2, hn⟩ := jabs_n (a := zFoot T m z (Z.1 3 m) - zLast Z h z) (w := 10000) (by unfold ab at *; rw [e]; omega) (by decide)
    exact ⟨n, e2, hn⟩)
  exact ⟨n, e, by omega⟩
theorem zDiffer_c (Z : zS) (h g : Nat) : zDiffer Z h g = zDiffer Z g h := lp_congr _ _ _ (fun z a _ _ => by rw [← msize_sub, jabs_m])
theorem jOk_of {T : zT} {Z : zS} (hZ : zOk T Z) (hW : zWb T Z) : jOk T Z (fun h g => (zDiffer Z h g).toNatClampNeg) := by
  intro h hh g hg
  obtain ⟨n, e, hn⟩ := zDiffer_n hZ hW hh hg
  simp only
  rw [zDiffer_c Z g h, e, nI_clamp (by omega)]
  exact ⟨rfl, by omega, rfl⟩
theorem mOk_of {T : zT} {Z : zS} (hB : tB T) (hZ : zOk T Z) (hW : zWb T Z) : mOk T Z (fun h m => (zFar T Z m h).toNatClampNeg) := by
  intro h hh m hm
  obtain ⟨n, e, hn⟩ := zFar_n hB hZ hW hm hh
  simp only
  rw [e, nI_clamp (by omega)]
  exact ⟨rfl, by omega⟩
/-! what keeps it so -/
theorem zCut_ab {v : Int64} {most o : Int32} {w : Int} (hw : most.toInt = w) (h0 : 0 ≤ o.toInt) (h1 : o.toInt ≤ w) : 0 ≤ (zCut v most o).toInt ∧ (zCut v most o).toInt ≤ w := by
  have hm : 0 ≤ most := Int32.le_iff_toInt_le.mpr (by rw [Int32.toInt_zero]; omega)
  by_cases hv : v = wErr
  · rw [zCut, if_pos hv]; exact ⟨h0, h1⟩
  · rw [zCut_b hm hv, zBound]
    by_cases a : v < 0
    · rw [if_pos a, Int32.toInt_zero]; omega
    · rw [if_neg a]
      by_cases b : most.toInt64 < v
      · rw [if_pos b, hw]; omega
      · rw [if_neg b]
        have h1 := Int64.le_iff_toInt_le.mp (l_not_lt.mp b)
        have h0 := Int64.le_iff_toInt_le.mp (l_not_lt.mp a)
        rw [Int32.toInt_toInt64] at h1
        have h2 := Int32.toInt_lt most
        have h3 : (0 : Int64).toInt = 0 := by decide
        rw [h3] at h0
        rw [Int64.toInt_toInt32, Int.bmod_eq_of_le (by omega) (by omega)]
        omega
theorem zWb_put {T : zT} {Z : zS} {h z : Nat} {v : Int32} (hZ : zOk T Z) (hW : zWb T Z) (hc : Z.2 1 h < 12) (hv : ab v 20) : zWb T (zPut Z h z v) := by
  obtain ⟨a, b, c⟩ := hW
  refine ⟨fun g hg w hw => by have := a g hg w hw; simpa [zPut, zuk, zui] using this, fun g hg k hk => ?_, fun m hm => by simpa [zPut, zuk, zui] using c m hm⟩
  have g12 := (hZ.2.1 g hg).1
  by_cases e : g * 12 + k = h * 12 + Z.2 1 h
  · have : (zPut Z h z v).1 2 (g * 12 + k) = v := by simp [zPut, zuk, zui, e]
    rw [this]; exact hv
  · have e1 : (zPut Z h z v).1 2 (g * 12 + k) = Z.1 2 (g * 12 + k) := by simp [zPut, zuk, zui, e]
    rw [e1]
    refine b g hg k ?_
    by_cases eg : g = h
    · subst eg
      have : (zPut Z g z v).2 1 g = Z.2 1 g + 1 := by simp [zPut, zuk]
      omega
    · have : (zPut Z h z v).2 1 g = Z.2 1 g := by simp [zPut, zuk, zui, eg]
      omega
theorem zWb_pop {T : zT} {Z : zS} {h : Nat} (hW : zWb T Z) : zWb T (zPop Z h) := by
  obtain ⟨a, b, c⟩ := hW
  refine ⟨fun g hg w hw => by have := a g hg w hw; simpa [zPop, zuk] using this, fun g hg k hk => ?_, fun m hm => by simpa [zPop, zuk] using c m hm⟩
  have e1 : (zPop Z h).1 2 (g * 12 + k) = Z.1 2 (g * 12 + k) := by simp [zPop, zuk]
  rw [e1]
  refine b g hg k ?_
  by_cases eg : g = h
  · subst eg
    have : (zPop Z g).2 1 g = Z.2 1 g - 1 := by simp [zPop, zuk]
    omega
  · have : (zPop Z h).2 1 g = Z.2 1 g := by simp [zPop, zuk, eg]
    omega
theorem zWb_home {T : zT} {Z : zS} {m k : Nat} (hW : zWb T Z) : zWb T (zHome Z m k) := by
  obtain ⟨a, b, c⟩ := hW
  exact ⟨fun g hg w hw => by have := a g hg w hw; simpa [zHome, zuk] using this, fun g hg k hk => by have := b g hg k (by simpa [zHome, zuk] using hk); simpa [zHome, zuk] using this, fun m hm => by simpa [zHome, zuk] using c m hm⟩
theorem zWb_tk {T : zT} {Z A : zS} (hW : zWb T Z) (hA : zBy T A) : zWb T (zTk Z A) := by
  obtain ⟨a, b, c⟩ := hW
  exact ⟨fun g hg w hw => by have := a g hg w hw; simpa [zTk] using this, fun g hg k hk => by have := hA g hg k (by simpa [zTk] using hk); simpa [zTk] using this, fun m hm => by simpa [zTk] using c m hm⟩
theorem zWb_set {T : zT} {Z : zS} {h : Nat} {w : Nat → Int32} (hW : zWb T Z) (hw : ∀ z, z < 8 → ab (w z) (1000 + 120 * (pc (Z.2 0 0) : Int))) : zWb T (zSet Z h w) := by
  obtain ⟨a, b, c⟩ := hW
  refine ⟨fun g hg z hz => ?_, fun g hg k hk => ?_, fun m hm => by simpa [zSet] using c m hm⟩
  · have e0 : (zSet Z h w).2 0 0 = Z.2 0 0 := by simp [zSet]
    rw [e0]
    by_cases e : g = h
    · subst e
      have : (zSet Z g w).1 1 (g * 8 + z) = w z := by
        show (if 1 = 1 ∧ g * 8 ≤ g * 8 + z ∧ g * 8 + z < g * 8 + 8 then w (g * 8 + z - g * 8) else _) = _
        rw [if_pos ⟨rfl, by omega, by omega⟩, Nat.add_sub_cancel_left]
      rw [this]; exact hw z hz
    · have : (zSet Z h w).1 1 (g * 8 + z) = Z.1 1 (g * 8 + z) := by
        show (if 1 = 1 ∧ h * 8 ≤ g * 8 + z ∧ g * 8 + z < h * 8 + 8 then w (g * 8 + z - h * 8) else _) = _
        rw [if_neg (by omega)]
      rw [this]; exact a g hg z hz
  · have e1 : (zSet Z h w).1 2 (g * 12 + k) = Z.1 2 (g * 12 + k) := by simp [zSet]
    rw [e1]
    refine b g hg k ?_
    by_cases eg : g = h
    · subst eg
      have : (zSet Z g w).2 1 g = 0 := by simp [zSet]
      omega
    · have : (zSet Z h w).2 1 g = Z.2 1 g := by simp [zSet, eg]
      omega
theorem pc_two : ∀ k, k < 256 → ∀ m, m < 8 → ∀ n, n < 8 → m ≠ n → k.testBit m = false → k.testBit n = false → pc (k ||| 2 ^ m ||| 2 ^ n) = pc k + 2 := by
  intro k hk m hm n hn hmn h1 h2
  obtain ⟨a, b⟩ := pc_up k hk m hm h1
  have t : ∀ k, k < 256 → ∀ m, m < 8 → ∀ n, n < 8 → (k ||| 2 ^ m).testBit n = (k.testBit n || decide (n = m)) := by decide +kernel
  have h3 : (k ||| 2 ^ m).testBit n = false := by rw [t k hk m hm n hn, h2, decide_eq_false (fun e => hmn e.symm)]; rfl
  obtain ⟨c, _⟩ := pc_up (k ||| 2 ^ m) b n hn h3
  omega
theorem zWb_ui {T : zT} {Z : zS} {f i : Nat} {v : Int32} (hf : f = 0 ∨ f = 4) (hW : zWb T Z) : zWb T (zui Z f i v) := by
  obtain ⟨a, b, c⟩ := hW
  refine ⟨fun g hg z hz => ?_, fun g hg k hk => ?_, fun m hm => ?_⟩
  · have : (zui Z f i v).1 1 (g * 8 + z) = Z.1 1 (g * 8 + z) := if_neg (by omega)
    rw [this]; exact a g hg z hz
  · have : (zui Z f i v).1 2 (g * 12 + k) = Z.1 2 (g * 12 + k) := if_neg (by omega)
    rw [this]; exact b g hg k hk
  · have : (zui Z f i v).1 3 m = Z.1 3 m := if_neg (by omega)
    rw [this]; exact c m hm
theorem zWb_marry {T : zT} {Z : zS} {m n : Nat} (ok : zTok T) (hZ : zOk T Z) (hW : zWb T Z) (hm : m < T.1 1) (hn : n < T.1 1) (h1 : (Z.2 0 0).testBit m = false) (h2 : (Z.2 0 0).testBit n = false) (h3 : Z.2 3 m ≠ Z.2 3 n) : zWb T (zMarry Z m n) := by
  have h8 := ok.2.1
  have p := pc8 hZ.1
  have hmn : m ≠ n := fun e => h3 (by rw [e])
  have p2 := pc_two _ hZ.1 m (by omega) n (by omega) hmn h1 h2
  have gm := hZ.2.2 m hm
  have gn := hZ.2.2 n hn
  have ew : (zMarry Z m n).2 0 0 = Z.2 0 0 ||| 2 ^ m ||| 2 ^ n := by simp [zMarry, zuk]
  have hs : ∀ z, z < 8 → ab ((zLast Z (Z.2 3 m) z + zLast Z (Z.2 3 n) z) / 2) (1240 + 120 * (pc (Z.2 0 0) : Int)) := fun z hz => by
    have a := zLast_ab hZ hW gm hz
    have b := zLast_ab hZ hW gn hz
    have e := ab_add a b (by omega)
    refine ab_half ?_ (by omega) (by omega)
    unfold ab at *
    rw [e]
    omega
  have e1 : ∀ j, (zMarry Z m n).1 1 j = (zSet Z (Z.2 3 m) (fun z => (zLast Z (Z.2 3 m) z + zLast Z (Z.2 3 n) z) / 2)).1 1 j := fun j => by simp [zMarry, zuk]
  refine ⟨fun g hg z hz => ?_, fun g hg k hk => ?_, fun q hq => ?_⟩
  · rw [ew, p2, e1]
    by_cases e : g = Z.2 3 m
    · have : (zSet Z (Z.2 3 m) (fun z => (zLast Z (Z.2 3 m) z + zLast Z (Z.2 3 n) z) / 2)).1 1 (g * 8 + z) = (zLast Z (Z.2 3 m) z + zLast Z (Z.2 3 n) z) / 2 := by
        show (if 1 = 1 ∧ Z.2 3 m * 8 ≤ g * 8 + z ∧ g * 8 + z < Z.2 3 m * 8 + 8 then (zLast Z (Z.2 3 m) (g * 8 + z - Z.2 3 m * 8) + zLast Z (Z.2 3 n) (g * 8 + z - Z.2 3 m * 8)) / 2 else _) = _
        rw [if_pos ⟨rfl, by omega, by omega⟩, show g * 8 + z - Z.2 3 m * 8 = z by omega]
      rw [this]
      have := hs z hz
      unfold ab at *
      omega
    · have : (zSet Z (Z.2 3 m) (fun z => (zLast Z (Z.2 3 m) z + zLast Z (Z.2 3 n) z) / 2)).1 1 (g * 8 + z) = Z.1 1 (g * 8 + z) := by
        show (if 1 = 1 ∧ Z.2 3 m * 8 ≤ g * 8 + z ∧ g * 8 + z < Z.2 3 m * 8 + 8 then _ else _) = _
        rw [if_neg (by omega)]
      rw [this]
      have := hW.1 g hg z hz
      unfold ab at *
      omega
  · have e2 : (zMarry Z m n).1 2 (g * 12 + k) = Z.1 2 (g * 12 + k) := by simp [zMarry, zuk, zSet]
    rw [e2]
    refine hW.2.1 g hg k ?_
    by_cases eg : g = Z.2 3 m
    · have : (zMarry Z m n).2 1 g = 0 := by simp [zMarry, zuk, zSet, eg]
      omega
    · have : (zMarry Z m n).2 1 g = Z.2 1 g := by simp [zMarry, zuk, zSet, eg]
      omega
  · have : (zMarry Z m n).1 3 q = Z.1 3 q := by simp [zMarry, zuk, zSet]
    rw [this]; exact hW.2.2 q hq
theorem zWb_swell {T : zT} {Z : zS} (hZ : zOk T Z) (hW : zWb T Z) : zWb T (zSwell T Z) := by
  obtain ⟨a, b, c⟩ := hW
  have p := pc8 hZ.1
  refine ⟨fun g hg z hz => ?_, fun g hg k hk => by have := b g hg k hk; simpa [zSwell] using this, fun m hm => by simpa [zSwell] using c m hm⟩
  have e : (zSwell T Z).1 1 (g * 8 + z) = jup (Z.1 1 (g * 8 + z)) := by
    show (if 1 = 1 ∧ g * 8 + z < T.1 0 * 8 then _ else _) = _
    rw [if_pos ⟨rfl, by omega⟩]
  rw [e]
  have q := a g hg z hz
  show ab (jup (Z.1 1 (g * 8 + z))) (1000 + 120 * (pc (Z.2 0 0) : Int))
  unfold jup
  split
  · exact q
  · rename_i n
    have n2 : ¬ (999 : Int) ≤ (Z.1 1 (g * 8 + z)).toInt := fun g1 => n (Int32.le_iff_toInt_le.mpr (by rw [show (999 : Int32).toInt = 999 from by decide]; exact g1))
    have e1 := ab_add q (b := 1) (v := 1) (by unfold ab; decide) (by omega)
    unfold ab at *
    rw [e1, show (1 : Int32).toInt = 1 from by decide]
    omega
theorem zWb_corn {T : zT} {W : Nat → zL} {m : Nat} {Z : zS} (hW : zWb T Z) : zWb T (zCorn T W m Z) := by
  unfold zCorn
  have h4 := zWb_ui (T := T) (f := 4) (i := m) (v := jmin 999 (Z.1 4 m + 1)) (Or.inr rfl) hW
  obtain ⟨a, b, c⟩ := h4
  refine ⟨fun g hg z hz => ?_, fun g hg k hk => ?_, fun q hq => ?_⟩
  · have := a g hg z hz
    simpa [zui] using this
  · have := b g hg k hk
    simpa [zui] using this
  · by_cases e : q = m
    · subst e
      have e1 : (zui (zui Z 4 q (jmin 999 (Z.1 4 q + 1))) 3 q (jmin 60 (Z.1 3 q + zMore T W q Z))).1 3 q = jmin 60 (Z.1 3 q + zMore T W q Z) := by simp [zui]
      rw [e1]
      have m0 := zCut_ab (v := vWorth (W 2) (zNmM T Z q)) (most := 9) (o := 1) (w := 9) (by decide) (by decide) (by decide)
      have c0 := hW.2.2 q hq
      have e2 : (Z.1 3 q + zMore T W q Z).toInt = (Z.1 3 q).toInt + (zMore T W q Z).toInt := ab_add (u := 60) (v := 9) ⟨by omega, by omega⟩ (by unfold zMore ab; omega) (by decide)
      have m1 : 0 ≤ (zMore T W q Z).toInt ∧ (zMore T W q Z).toInt ≤ 9 := m0
      unfold jmin
      split
      · rename_i g
        have g2 := Int32.lt_iff_toInt_lt.mp g
        rw [show (60 : Int32).toInt = 60 from by decide] at g2
        omega
      · rw [show (60 : Int32).toInt = 60 from by decide]; omega
    · have e1 : (zui (zui Z 4 m (jmin 999 (Z.1 4 m + 1))) 3 m (jmin 60 (Z.1 3 m + zMore T W m Z))).1 3 q = Z.1 3 q := by simp [zui, e]
      rw [e1]; exact hW.2.2 q hq
theorem zYear_ind2 {T : zT} {W : Nat → zL} {way : Nat} (P : zS → Prop) (h1 : ∀ k Z, k < T.1 2 → P Z → P (zDeed T W k Z)) (h2 : ∀ k Z, k < T.1 3 → P Z → P (zWed T k Z)) (h3 : ∀ m Z, P Z → P (zWear T W way m Z)) (h4 : ∀ Z, P Z → P (zDamp T way Z).2) (h5 : ∀ Z, P Z → P (zSwell T Z)) (h6 : ∀ h Z, h < T.1 0 → P Z → P (zSet Z h (fun _ => T.2.1 1 h))) (h7 : ∀ Z, P Z → P (zY5 Z)) : ∀ Z, P Z → P (zYear T W way Z) := by
  intro Z hZ
  have a1 : ∀ Z, P Z → P (zDeeds T W Z) := fun Z h => lp_ind (fun k a hk => h1 k a hk) _ _ _ (Nat.zero_add _) h
  have a2 : ∀ Z, P Z → P (zWeds T Z) := fun Z h => lp_ind (fun k a hk => h2 k a hk) _ _ _ (Nat.zero_add _) h
  have a3 : ∀ Z, P Z → P (zBareAll T Z) := fun Z h => lp_ind (N := T.1 0) (fun k a hk => h6 k a hk) _ _ _ (Nat.zero_add _) h
  have a4 : ∀ Z, P Z → P (zY4 T Z) := fun Z h => by
    unfold zY4
    refine h7 _ ?_
    split
    · exact a3 Z h
    · exact h
  have a5 : ∀ Z, P Z → P (zY3 T way Z) := fun Z h => by
    unfold zY3
    refine a4 _ ?_
    split
    · exact h5 _ (h4 Z h)
    · exact h4 Z h
  have a6 : ∀ Z, P Z → P (zY2 T W way Z) := fun Z h => a5 _ (lp_ind (fun k a _ => h3 k a) _ _ _ (Nat.zero_add _) h)
  unfold zYear
  refine a6 _ ?_
  have a7 : P (if way = 1 then Z else zDeeds T W Z) := by
    split
    · exact hZ
    · exact a1 Z hZ
  split
  · exact a7
  · exact a2 _ a7
theorem zWb_year {T : zT} {W : Nat → zL} {way : Nat} {Z : zS} (ok : zTok T) (hB : tB T) (hZ : zOk T Z) (hW : zWb T Z) : zOk T (zYear T W way Z) ∧ zWb T (zYear T W way Z) := by
  refine zYear_ind2 (fun Z => zOk T Z ∧ zWb T Z) ?_ ?_ ?_ ?_ ?_ ?_ ?_ Z ⟨hZ, hW⟩
  · intro k Z hk ⟨hZ, hW⟩
    refine ⟨zOk_deed ok hZ hk, ?_⟩
    rw [zDeed_do]
    split
    · unfold zDo
      split
      · rename_i hc
        refine zWb_put hZ hW hc ?_
        obtain ⟨b1, b2⟩ := hB.2.2 k hk
        have c := zCut_ab (v := vWorth (W 0) (zNmD T Z k)) (most := 20) (o := T.2.1 5 k) (w := 20) (by decide) (by omega) (by omega)
        split
        · unfold ab; omega
        · unfold ab
          rw [Int32.toInt_neg, Int.bmod_eq_of_le (by omega) (by omega)]
          omega
      · exact zWb_ui (Or.inl rfl) hW
    · exact hW
  · intro k Z hk ⟨hZ, hW⟩
    obtain ⟨o1, o2⟩ := ok.2.2.2.2.2.2.2.2.2 k hk
    rw [zWed_do]
    split
    · unfold zWd
      split
      · rename_i hc
        exact ⟨zOk_marry ok hZ o1 o2, zWb_marry ok hZ hW o1 o2 hc.1 hc.2.1 hc.2.2⟩
      · exact ⟨zOk_ui hZ, zWb_ui (Or.inl rfl) hW⟩
    · exact ⟨hZ, hW⟩
  · intro m Z ⟨hZ, hW⟩
    unfold zWear
    split
    · exact ⟨hZ, hW⟩
    · split
      · exact ⟨hZ, hW⟩
      · exact ⟨zOk_ui (zOk_ui hZ), zWb_corn hW⟩
  · intro Z ⟨hZ, hW⟩
    refine ⟨zOk_damp hZ, ?_⟩
    unfold zDamp
    split
    · exact hW
    · split
      · exact hW
      · split
        · exact zWb_ui (Or.inl rfl) hW
        · exact hW
  · intro Z ⟨hZ, hW⟩
    exact ⟨zOk_swell hZ, zWb_swell hZ hW⟩
  · intro h Z hh ⟨hZ, hW⟩
    have := hB.1 h hh
    exact ⟨zOk_set hZ, zWb_set hW (fun z _ => by unfold ab; omega)⟩
  · intro Z ⟨hZ, hW⟩
    exact ⟨zOk_ui hZ, zWb_ui (Or.inl rfl) hW⟩
theorem zWb_years {T : zT} {W : Nat → zL} {way n : Nat} {Z : zS} (ok : zTok T) (hB : tB T) (hZ : zOk T Z) (hW : zWb T Z) : zOk T (zYears T W way n Z) ∧ zWb T (zYears T W way n Z) :=
  zYears_ok (fun Z => zOk T Z ∧ zWb T Z) (fun Z h => zWb_year ok hB h.1 h.2) ⟨hZ, hW⟩
theorem zWb_first {T : zT} (hB : tB T) : zWb T (zFirst T) := by
  refine ⟨fun g hg z hz => ?_, fun g hg k hk => absurd hk (by show ¬ k < 0; omega), fun m hm => ?_⟩
  · have e : (zFirst T).1 1 (g * 8 + z) = T.2.1 1 g := by
      show T.2.1 1 ((g * 8 + z) / 8) = _
      rw [show (g * 8 + z) / 8 = g by omega]
    have := hB.1 g hg
    rw [e]
    unfold ab
    omega
  · show 0 ≤ (T.2.1 4 m).toInt ∧ (T.2.1 4 m).toInt ≤ 60
    have := (hB.2.1 m hm).2
    omega
